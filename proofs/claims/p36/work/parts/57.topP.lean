theorem ofold_le (v : List Nat → Int) : ∀ (ps : List (List Nat)) (c : Int) (b : List Nat), c ≤ (ofold v ps c b).1
  | [], c, b => Int.le_refl c
  | l :: r, c, b => by
    unfold ofold
    split
    · have := ofold_le v r (v l) l
      omega
    · exact ofold_le v r c b
theorem prml_head : ∀ n : Fin 6, (prml n.val).head? = some (List.range n.val) := by decide +kernel
theorem pf_range (n q : Nat) : pf (List.range n) q = (q : Int) := by
  unfold pf
  rw [List.getD_eq_getElem?_getD]
  by_cases h : q < n
  · rw [List.getElem?_range h]; rfl
  · rw [List.getElem?_eq_none (by rw [List.length_range]; omega)]; rfl
theorem obst_r (S : zT) (hn : otn S ≤ 5) : 0 ≤ (obst S).1 := by
  unfold obst
  have h := prml_head ⟨otn S, by omega⟩
  have hr : ∀ l, 0 ≤ oval S (otp S) l := fun l => pcn_r.1
  cases hp : prml (otn S) with
  | nil => simp only [hp] at h; cases h
  | cons l r =>
    unfold ofold
    have := hr l
    rw [if_pos (by omega)]
    have := ofold_le (oval S (otp S)) r (oval S (otp S) l) l
    omega
section TOPP
variable {X : zXs} {sh : zH} {I L : zI2} {R : zR2} {P : Nat → Nat} {A : zA}
theorem cti_begin {o b : Nat} (hs : zOr sh R o) (hb : zSl sh R b) (hr : 0 ≤ I b 6 ∧ I b 6 ≤ 5) (hp : ∀ r, r < 5 → 0 ≤ I (b + 6) r ∧ I (b + 6) r ≤ 30) (hob : o + 2 ≤ b ∨ b + 7 ≤ o) : zE X mX1_begin 0 0 0 [zR o, zR b, zX] [] sh I L R (zEq [] sh (zod I o (obg (I (b + 6)) (I b 6).toNat 0 (I (o + 1)) 0).1 (obg (I (b + 6)) (I b 6).toNat 0 (I (o + 1)) 0).2) L R) := by
  have h := ct_X1_begin (X := X) (I := I) (L := L) (f := I (o + 1)) (n := I o 1) hs hb hr hp hob
  rw [zod_self] at h
  exact h
theorem otn_r (h : zCA sh R P I L A) : otn A.1 ≤ 5 := by
  have h1 := (obg_r (A.1 6) (A.1 0 6).toNat 0 (fun _ => 0) 0).1.2
  have h2 := h.2.1.1.1.1
  have h3 := h.2.1.2.1.1
  unfold otn
  omega
theorem ct_X6_findBest (h : zCA sh R P I L A) : zE X mX6_findBestOrder 0 0 0 [zR 0, zX, zX, zX, zX] [] sh I L R (zFq sh I L R A (otn A.1) (otp A.1) (obst A.1)) := by
  obtain ⟨hC, hNow, hTri, hHis, hKep, hTap, hShe, hOrd⟩ := id h
  obtain ⟨⟨c0, c1, c2, c3, c4, c5, c6, c7, c8, c9, c10, c11⟩, ⟨n1, n8, n73⟩, ⟨hh, hpm⟩, kh, tp, ⟨shs, shk⟩, spd, o1, o2, ra⟩ := id hC
  obtain ⟨⟨s0, s1, s2, s3, s4, s5, s6⟩, r0, r1, r2, r3, r4, r5⟩ := id n1
  have n80 := n8.1.1
  have hh0 := hh.1.1
  have e6 := hNow.2.1.1
  have hn5 := hNow.1.1.1
  have o10 := o1.1
  have o20 := o2.1
  have hn := otn_r h
  have hI6 : I 1 6 = A.1 0 6 := by rw [← e6, zvw_0]
  have hp : ∀ r, r < 5 → 0 ≤ I (1 + 6) r ∧ I (1 + 6) r ≤ 30 := fun r hr => by rw [zvx I 1 (by decide)]; exact hNow.1.1.2.2.2.2.2.2 r hr
  have kb := cti_begin (X := X) (I := I) (L := L) o1 n1 (by rw [hI6]; omega) hp (Or.inr (by decide))
  have hc := obg_c (P := I (1 + 6)) (P' := A.1 6) (I 1 6).toNat 0 (I (142 + 1)) (fun _ => 0) 0 (fun q _ hq => by rw [zvx I 1 (by decide)]; exact (hNow.2.2.2 q (by omega)).2.2.2) (fun k hk => absurd hk (by omega))
  have hg := obg_r (I (1 + 6)) (I 1 6).toNat 0 (I (142 + 1)) 0
  rw [hI6] at hc hg kb
  have e2 : (obg (I (1 + 6)) (A.1 0 6).toNat 0 (I (142 + 1)) 0).2 = otn A.1 := hc.1
  rw [e2] at hc hg kb
  generalize (obg (I (1 + 6)) (A.1 0 6).toNat 0 (I (142 + 1)) 0).1 = f0 at hc hg kb
  have htp : ∀ k, k < otn A.1 → f0 k = otp A.1 k := fun k hk => hc.2 k hk
  obtain ⟨-, -, hg3, hg4⟩ := hg
  have hf0 : ∀ k, k < 5 → 0 ≤ f0 k ∧ f0 k ≤ 4 := fun k hk => by
    by_cases hkn : k < otn A.1
    · obtain ⟨q, hq, hq2, -⟩ := hg4 k (by omega) hkn
      omega
    · rw [hg3 k (by omega)]
      exact hOrd.1 k hk
  have hr : ∀ k, k < otn A.1 → f0 k < A.1 0 6 := fun k hk => by
    obtain ⟨q, hq, hq2, -⟩ := hg4 k (by omega) hk
    omega
  have hlt : ∀ i j, i < j → j < otn A.1 → f0 i < f0 j := fun i j hij hj => by
    obtain ⟨q, hq, hq2, -, hq4⟩ := hg4 i (by omega) (by omega)
    rw [hq2]
    exact hq4 j hij hj
  have hmo : ∀ i j, i < otn A.1 → j < otn A.1 → (f0 i < f0 j ↔ i < j) := fun i j hi hj => by
    constructor
    · intro hh
      rcases Nat.lt_or_ge i j with h1 | h1
      · exact h1
      · rcases Nat.eq_or_lt_of_le h1 with h2 | h2
        · subst h2; omega
        · have := hlt j i h2 hi; omega
    · exact fun hh => hlt i j hh hj
  have hst := pstep_ok ⟨otn A.1, by omega⟩
  have hhd := prml_head ⟨otn A.1, by omega⟩
  have hln := (prml_len ⟨otn A.1, by omega⟩).2
  simp only at hst hhd hln
  unfold obst
  cases hps : prml (otn A.1) with
  | nil => rw [hps] at hhd; cases hhd
  | cons l r =>
    rw [hps] at hst hhd hln
    have hl : l = List.range (otn A.1) := by simpa using hhd
    have hK : ∀ a, ¬ (a = 142 ∨ a = 143) → zod I 142 f0 (otn A.1) a = I a := fun a ha => zod_oR _ _ _ _ (by omega)
    have hO : zOb I (zod I 142 f0 (otn A.1)) (otn A.1) (fun q => f0 (pf l q).toNat) := ⟨fun a h1 h2 => hK a (by omega), by rw [zvw_of (I := I) (fun a h1 h2 => hK a (by omega))]; exact hTri, zod_n _ _ _ _, by
      rw [show (143 : Nat) = 142 + 1 by rfl, zod_fR]
      funext q
      rw [hl, pf_range, Int.toNat_natCast], by rw [hK 145 (by omega)]; exact hOrd.2⟩
    refine z_aload0 1 dX6_findBestOrder_0 rfl ?_
    refine z_getR 4 dX6_findBestOrder_1 fl_RX6_56 (by assumption) (by assumption) rfl ?_
    refine z_aload0 5 dX6_findBestOrder_4 rfl ?_
    refine z_getR 8 dX6_findBestOrder_5 fl_RX6_10 (by assumption) (by assumption) rfl ?_
    refine z_xVv1 11 dX6_findBestOrder_8 lk_X6_findBestOrder_192 (kb) rfl (Nat.le_of_ble_eq_true rfl) (Nat.le_of_ble_eq_true rfl) (by assumption) rfl rfl ?_
    refine z_iconst 12 dX6_findBestOrder_11 rfl ?_
    refine z_istore1 13 dX6_findBestOrder_12 (Nat.le_of_ble_eq_true rfl) rfl rfl ?_
    refine z_iconst 14 dX6_findBestOrder_13 rfl ?_
    refine z_istore2 15 dX6_findBestOrder_14 (Nat.le_of_ble_eq_true rfl) rfl rfl ?_
    refine z_iconst 16 dX6_findBestOrder_15 rfl ?_
    refine z_istore3 17 dX6_findBestOrder_16 (Nat.le_of_ble_eq_true rfl) rfl rfl ?_
    exact lp_X6_findBest h hn htp hf0 hr hmo r l 0 (-1) [] _ _ hst (by simp only [List.length_cons] at hln; omega) (by omega) hO (fun hc => absurd hc (by omega))
theorem op_X6_order {k : Int} (h : zCA sh R P I L A) (hk : -2147483648 ≤ k ∧ k ≤ 2147483647) : zE X mX6_order 0 0 0 [zR 0, zI k, zX] [] sh I L R (zOp sh I L R (zI (oOrder A k)) A) := by
  obtain ⟨hC, hNow, hTri, hHis, hKep, hTap, hShe, hOrd⟩ := id h
  obtain ⟨⟨c0, c1, c2, c3, c4, c5, c6, c7, c8, c9, c10, c11⟩, ⟨n1, n8, n73⟩, ⟨hh, hpm⟩, kh, tp, ⟨shs, shk⟩, spd, o1, o2, ra⟩ := id hC
  obtain ⟨⟨s0, s1, s2, s3, s4, s5, s6⟩, r0, r1, r2, r3, r4, r5⟩ := id n1
  have n80 := n8.1.1
  have hh0 := hh.1.1
  have e6 := hNow.2.1.1
  have hn5 := hNow.1.1.1
  have o20 := o2.1
  have hn := otn_r h
  have hb0 := obst_r A.1 hn
  have hfin : ∀ J : zI2, (∃ f, zOb I J (otn A.1) f ∧ ∀ q, q < 5 → 0 ≤ f q ∧ f q ≤ 4) → zCA sh R P J L A ∧ ∀ a, 157 ≤ a → J a = I a ∧ L a = L a ∧ R a = R a := fun J hJ => by
    obtain ⟨f, ⟨oJ, oT, on, of, ob⟩, hf⟩ := hJ
    exact ⟨zCA_scr h (fun a ha => oJ a (by omega) (by omega)) (fun _ _ => rfl) oT ⟨by rw [of]; exact hf, ob⟩, fun a ha => ⟨oJ a (by omega) (by omega), rfl, rfl⟩⟩
  refine z_iload1 1 dX6_order_0 rfl ?_
  refine z_iconst 2 dX6_order_1 rfl ?_
  refine z_icmp_ge 7 5 dX6_order_2 (by decide) rfl (by omega) (by omega) (fun h2 => ?_) (fun h2 => ?_)
  · refine z_aload0 8 dX6_order_7 rfl ?_
    refine z_pV0 11 dX6_order_8 lk_X6_order_186 (ct_X6_findBest h) rfl (Nat.le_of_ble_eq_true rfl) (Nat.le_of_ble_eq_true rfl) (by assumption) rfl rfl (fun r0 sh0 I0 L0 R0 hpq => ?_)
    obtain ⟨q1, q2, q3, q4, q5, q6⟩ := hpq
    subst r0 sh0 L0 R0
    have hfj := hfin I0 q3
    refine z_istore2 12 dX6_order_11 (Nat.le_of_ble_eq_true rfl) rfl rfl ?_
    refine z_iload1 13 dX6_order_12 rfl ?_
    refine z_iconst 14 dX6_order_13 rfl ?_
    refine z_icmp_ne 21 17 dX6_order_14 (by decide) rfl (by omega) (by omega) (fun h14 => ?_) (fun h14 => ?_)
    · refine z_aload0 22 dX6_order_21 rfl ?_
      refine z_getR 25 dX6_order_22 fl_RX6_60 (by assumption) (by assumption) rfl ?_
      refine z_iload1 26 dX6_order_25 rfl ?_
      have hB := q4 hb0
      refine z_xV1 29 dX6_order_26 lk_X6_order_189 (cti_numberAt o2 hn hB.1 hk) rfl (Nat.le_of_ble_eq_true rfl) (Nat.le_of_ble_eq_true rfl) (by assumption) rfl rfl ?_
      exact z_ireturn dX6_order_29 rfl ((by
          refine ⟨?_, rfl, ⟨P, hfj.1⟩, hfj.2⟩
          unfold oOrder
          first
            | (rw [if_neg (by omega), if_pos (by omega)])
            | (rw [if_neg (by omega), if_neg (by omega)]
               unfold onum
               by_cases hkk : 0 ≤ k ∧ k ≤ (otn A.1 : Int) - 1
               · rw [if_pos hkk, if_pos hkk, hB.2 k.toNat (by omega)]
               · rw [if_neg hkk, if_neg hkk])))
    · refine z_iload2 18 dX6_order_17 rfl ?_
      refine z_goto 29 dX6_order_18 (by decide) ?_
      exact z_ireturn dX6_order_29 rfl ((by
          refine ⟨?_, rfl, ⟨P, hfj.1⟩, hfj.2⟩
          unfold oOrder
          first
            | (rw [if_neg (by omega), if_pos (by omega)])
            | (rw [if_neg (by omega), if_neg (by omega)]
               unfold onum
               by_cases hkk : 0 ≤ k ∧ k ≤ (otn A.1 : Int) - 1
               · rw [if_pos hkk, if_pos hkk, hB.2 k.toNat (by omega)]
               · rw [if_neg hkk, if_neg hkk])))
  · refine z_iconst 6 dX6_order_5 rfl ?_
    exact z_ireturn dX6_order_6 rfl (zOp_same h (by unfold oOrder; rw [if_pos (by omega)]))
end TOPP
