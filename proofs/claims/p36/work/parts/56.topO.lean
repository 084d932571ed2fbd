section TOPO
variable {X : zXs} {sh : zH} {I L : zI2} {R : zR2} {P : Nat → Nat} {A : zA}
theorem ct_sendW {S : zT} {b r sp : Nat} (W : Nat → Int) (hs : zSl sh R b) (hr : zSr S) (h5 : r < 5) (hsp : sp < b ∨ b + 7 ≤ sp) (hsh : sh[sp]? = some (20, 10)) : ∃ W' : Nat → Int, zE X mX4_sendDown 0 0 0 [zR b, zI (r : Int), zR sp, zX, zX, zX] [] sh (zsl (zrow I sp W) b S) L R (zEq [zI (sfe S r)] sh (zsl (zrow I sp W') b (send S r)) L R) := by
  have h := ct_X4_sendDown (X := X) (I := zrow I sp W) (L := L) hs hr h5 hsp hsh
  rw [zrow_row] at h
  exact ⟨_, h⟩
theorem cti_numberAt {o n : Nat} {k : Int} (hs : zOr sh R o) (hn : n ≤ 5) (hI : I o 1 = (n : Int)) (hk : -2147483648 ≤ k ∧ k ≤ 2147483647) : zE X mX1_numberAt 0 0 0 [zR o, zI k] [] sh I L R (zEq [zI (onum (I (o + 1)) n k)] sh I L R) := by
  have h := ct_X1_numberAt (X := X) (I := I) (L := L) (f := I (o + 1)) hs hn hk
  rw [← hI, zod_self, hI] at h
  exact h
def zTb (sh : zH) (I L : zI2) (R : zR2) (v : Int) : zQ := fun r' sh' I' L' R' => r' = [zI v] ∧ sh' = sh ∧ (∃ W T, I' = zsl (zrow I 141 W) 8 T ∧ zSr T) ∧ L' = L ∧ R' = R
theorem lp_X6_throughBy {n o : Nat} (hC : zCs sh R P) (hs : zOr sh R o) (ho : o = 142 ∨ o = 144) (hn : n ≤ 5) (hI : I o 1 = (n : Int)) (hf : ∀ k, k < n → 0 ≤ I (o + 1) k ∧ I (o + 1) k ≤ 4) : ∀ (m k : Nat) (T : zT) (W : Nat → Int), k + m = n → zSr T → zE X mX6_throughBy 0 0 13 [zR 0, zR o, zI (k : Int)] [] sh (zsl (zrow I 141 W) 8 T) L R (zTb sh I L R (pcn (sthr (ssq (I (o + 1)) m k T))))
  | 0, k, T, W, hk, hT => by
    obtain ⟨⟨c0, c1, c2, c3, c4, c5, c6, c7, c8, c9, c10, c11⟩, ⟨n1, n8, n73⟩, ⟨hh, hpm⟩, kh, tp, ⟨shs, shk⟩, spd, o1, o2, ra⟩ := id hC
    have n80 := n8.1.1
    have s0 := hs.1
    have eo : zsl (zrow I 141 W) 8 T o = I o := by rw [zsl_oR _ _ _ (by omega), zrow_oR _ _ (by omega)]
    have h5 := sthr_5 (S := T) hT.1
    refine z_iload2 14 dX6_throughBy_13 rfl ?_
    refine z_aload1 15 dX6_throughBy_14 rfl ?_
    refine z_getIx 18 dX6_throughBy_15 fl_RX6_206 (by assumption) ((congrFun eo 1).trans hI) rfl ?_
    refine z_icmp_ge 44 21 dX6_throughBy_18 (by decide) rfl (by omega) (by omega) (fun h18 => ?_) (fun hz => absurd hz (by omega))
    refine z_aload0 45 dX6_throughBy_44 rfl ?_
    refine z_getR 48 dX6_throughBy_45 fl_RX6_16 (by assumption) (by assumption) rfl ?_
    refine z_xV0 51 dX6_throughBy_48 lk_X6_throughBy_144 (ct_X4_ridersThrough n8 hT) rfl (Nat.le_of_ble_eq_true rfl) (Nat.le_of_ble_eq_true rfl) (by assumption) rfl rfl ?_
    refine z_xS1 54 dX6_throughBy_51 lk_X6_throughBy_209 (ct_J6_bitCount h5) rfl (Nat.le_of_ble_eq_true rfl) (Nat.le_of_ble_eq_true rfl) rfl ?_
    exact z_ireturn dX6_throughBy_54 rfl (⟨rfl, rfl, ⟨W, T, rfl, hT⟩, rfl, rfl⟩)
  | m + 1, k, T, W, hk, hT => by
    obtain ⟨⟨c0, c1, c2, c3, c4, c5, c6, c7, c8, c9, c10, c11⟩, ⟨n1, n8, n73⟩, ⟨hh, hpm⟩, kh, tp, ⟨shs, shk⟩, spd, o1, o2, ra⟩ := id hC
    have n80 := n8.1.1
    have s0 := hs.1
    have eo : zsl (zrow I 141 W) 8 T o = I o := by rw [zsl_oR _ _ _ (by omega), zrow_oR _ _ (by omega)]
    have eo1 : zsl (zrow I 141 W) 8 T (o + 1) = I (o + 1) := by rw [zsl_oR _ _ _ (by omega), zrow_oR _ _ (by omega)]
    have hfk := hf k (by omega)
    obtain ⟨q, hq⟩ : ∃ q : Nat, I (o + 1) k = (q : Int) := ⟨(I (o + 1) k).toNat, by omega⟩
    have hna := cti_numberAt (X := X) (I := zsl (zrow I 141 W) 8 T) (L := L) (k := (k : Int)) hs hn (by rw [eo]; exact hI) (by omega)
    rw [eo1, show onum (I (o + 1)) n k = (q : Int) by unfold onum; rw [if_pos (by omega), Int.toNat_natCast, hq]] at hna
    obtain ⟨W2, hsd⟩ := ct_sendW (X := X) (I := I) (L := L) (r := q) W n8 hT (by omega) (Or.inr (by decide : 8 + 7 ≤ 141)) spd
    refine z_iload2 14 dX6_throughBy_13 rfl ?_
    refine z_aload1 15 dX6_throughBy_14 rfl ?_
    refine z_getIx 18 dX6_throughBy_15 fl_RX6_206 (by assumption) ((congrFun eo 1).trans hI) rfl ?_
    refine z_icmp_ge 44 21 dX6_throughBy_18 (by decide) rfl (by omega) (by omega) (fun hz => absurd hz (by omega)) (fun h18 => ?_)
    refine z_aload0 22 dX6_throughBy_21 rfl ?_
    refine z_getR 25 dX6_throughBy_22 fl_RX6_16 (by assumption) (by assumption) rfl ?_
    refine z_aload1 26 dX6_throughBy_25 rfl ?_
    refine z_iload2 27 dX6_throughBy_26 rfl ?_
    refine z_xV1 30 dX6_throughBy_27 lk_X6_throughBy_189 (hna) rfl (Nat.le_of_ble_eq_true rfl) (Nat.le_of_ble_eq_true rfl) (by assumption) rfl rfl ?_
    refine z_aload0 31 dX6_throughBy_30 rfl ?_
    refine z_getR 34 dX6_throughBy_31 fl_RX6_49 (by assumption) (by assumption) rfl ?_
    refine z_xV2 37 dX6_throughBy_34 lk_X6_throughBy_160 (hsd) rfl (Nat.le_of_ble_eq_true rfl) (Nat.le_of_ble_eq_true rfl) (by assumption) rfl rfl ?_
    refine z_pop 38 dX6_throughBy_37 rfl rfl ?_
    refine z_iinc2 41 dX6_throughBy_38 (Nat.le_of_ble_eq_true rfl) rfl rfl ?_
    refine z_goto 13 dX6_throughBy_41 (by decide) ?_
    rw [show ssq (I (o + 1)) (m + 1) k T = ssq (I (o + 1)) m (k + 1) (send T q) by rw [ssq, hq, Int.toNat_natCast]]
    exact lp_X6_throughBy hC hs ho hn hI hf m (k + 1) _ W2 (by omega) (send_sr hT (by omega))
theorem ct_X6_throughBy {n o : Nat} (hC : zCs sh R P) (h1 : zSr (zvw I 1)) (hs : zOr sh R o) (ho : o = 142 ∨ o = 144) (hn : n ≤ 5) (hI : I o 1 = (n : Int)) (hf : ∀ k, k < n → 0 ≤ I (o + 1) k ∧ I (o + 1) k ≤ 4) : zE X mX6_throughBy 0 0 0 [zR 0, zR o, zX] [] sh I L R (zTb sh I L R (pcn (sthr (ssq (I (o + 1)) n 0 (sbc (zvw I 1) (zvw I 8)))))) := by
  obtain ⟨⟨c0, c1, c2, c3, c4, c5, c6, c7, c8, c9, c10, c11⟩, ⟨n1, n8, n73⟩, ⟨hh, hpm⟩, kh, tp, ⟨shs, shk⟩, spd, o1, o2, ra⟩ := id hC
  have n80 := n8.1.1
  have hT : zSr (sbc (zvw I 1) (zvw I 8)) := sbc_sr _ _ h1
  refine z_aload0 1 dX6_throughBy_0 rfl ?_
  refine z_getR 4 dX6_throughBy_1 fl_RX6_16 (by assumption) (by assumption) rfl ?_
  refine z_aload0 5 dX6_throughBy_4 rfl ?_
  refine z_getR 8 dX6_throughBy_5 fl_RX6_10 (by assumption) (by assumption) rfl ?_
  refine z_xVv1 11 dX6_throughBy_8 lk_X6_throughBy_130 (ct_trial0 hC) rfl (Nat.le_of_ble_eq_true rfl) (Nat.le_of_ble_eq_true rfl) (by assumption) rfl rfl ?_
  refine z_iconst 12 dX6_throughBy_11 rfl ?_
  refine z_istore2 13 dX6_throughBy_12 (Nat.le_of_ble_eq_true rfl) rfl rfl ?_
  exact lp_X6_throughBy hC hs ho hn hI hf n 0 _ (I 141) (by omega) hT
/-- the memory in the loop over orders: what stays, the order tried (f, n), the best one (n, b) -/
def zOb (I J : zI2) (n : Nat) (f : Nat → Int) : Prop := (∀ a, ¬ (8 ≤ a ∧ a < 15) → ¬ (141 ≤ a ∧ a < 146) → J a = I a) ∧ zSr (zvw J 8) ∧ J 142 1 = (n : Int) ∧ J 143 = f ∧ ∀ q, q < 5 → 0 ≤ J 145 q ∧ J 145 q ≤ 4
def zObB (J : zI2) (n : Nat) (tp : Nat → Int) (c : Int) (b : List Nat) : Prop := 0 ≤ c → J 144 1 = (n : Int) ∧ ∀ k, k < n → J 145 k = tp (b.getD k 0)
def zFq (sh : zH) (I L : zI2) (R : zR2) (A : zA) (n : Nat) (tp : Nat → Int) (v : Int × List Nat) : zQ := fun r' sh' I' L' R' => r' = [zI v.1] ∧ sh' = sh ∧ (∃ f, zOb I I' n f ∧ ∀ q, q < 5 → 0 ≤ f q ∧ f q ≤ 4) ∧ zObB I' n tp v.1 v.2 ∧ L' = L ∧ R' = R
theorem ofold_r {v : List Nat → Int} (hv : ∀ l, 0 ≤ v l ∧ v l ≤ 5) : ∀ (ps : List (List Nat)) (c : Int) (b : List Nat), -1 ≤ c ∧ c ≤ 5 → -1 ≤ (ofold v ps c b).1 ∧ (ofold v ps c b).1 ≤ 5
  | [], c, b, h => h
  | l :: r, c, b, h => by
    unfold ofold
    have := hv l
    split
    · exact ofold_r hv r _ _ (by omega)
    · exact ofold_r hv r _ _ h
theorem zOb_tri {J K : zI2} {n : Nat} {f : Nat → Int} {W : Nat → Int} {T : zT} (h : zOb I J n f) (e : K = zsl (zrow J 141 W) 8 T) (hT : zSr T) : zOb I K n f ∧ ∀ a, (a = 144 ∨ a = 145) → K a = J a := by
  have hK : ∀ a, ¬ (8 ≤ a ∧ a < 15) → a ≠ 141 → K a = J a := fun a h1 h2 => by rw [e, zsl_oR _ _ _ (by omega), zrow_oR _ _ h2]
  obtain ⟨oJ, oT, on, of, ob⟩ := h
  exact ⟨⟨fun a h1 h2 => by rw [hK a h1 (by omega)]; exact oJ a h1 h2, by rw [e]; exact zSr_w (S := T) (fun i hi => (zvw_sl _ _ _ hi).symm) hT, by rw [hK 142 (by omega) (by omega)]; exact on, by rw [hK 143 (by omega) (by omega)]; exact of, by rw [hK 145 (by omega) (by omega)]; exact ob⟩, fun a ha => hK a (by omega) (by omega)⟩
theorem zOb_best {J : zI2} {n : Nat} {f tp : Nat → Int} {l : List Nat} {v : Int} (h : zOb I J n f) (hn : n ≤ 5) (hf : ∀ q, q < 5 → 0 ≤ f q ∧ f q ≤ 4) (hfl : ∀ k, k < n → f k = tp (l.getD k 0)) : zOb I (zod J 144 (zcp (J 143) (J 145) 0 0 5) (J 142 1)) n f ∧ zObB (zod J 144 (zcp (J 143) (J 145) 0 0 5) (J 142 1)) n tp v l := by
  obtain ⟨oJ, oT, on, of, ob⟩ := h
  have hK : ∀ a, ¬ (a = 144 ∨ a = 145) → zod J 144 (zcp (J 143) (J 145) 0 0 5) (J 142 1) a = J a := fun a ha => zod_oR _ _ _ _ (by omega)
  have e145 : ∀ q, q < 5 → zod J 144 (zcp (J 143) (J 145) 0 0 5) (J 142 1) 145 q = f q := fun q hq => by
    rw [show (145 : Nat) = 144 + 1 by rfl, zod_f, ← of]
    unfold zcp
    rw [if_pos (by omega)]
    congr 1
    omega
  refine ⟨⟨fun a h1 h2 => by rw [hK a (by omega)]; exact oJ a h1 h2, by rw [zvw_of (I := J) (fun a h1 h2 => hK a (by omega))]; exact oT, by rw [hK 142 (by omega)]; exact on, by rw [hK 143 (by omega)]; exact of, fun q hq => by rw [e145 q hq]; exact hf q hq⟩, fun _ => ⟨by rw [zod_n, on], fun k hk => by rw [e145 k (by omega)]; exact hfl k hk⟩⟩
theorem zOb_adv {J : zI2} {n : Nat} {f f' : Nat → Int} (h : zOb I J n f) : zOb I (zod J 142 f' n) n f' ∧ ∀ a, (a = 144 ∨ a = 145) → zod J 142 f' n a = J a := by
  obtain ⟨oJ, oT, on, of, ob⟩ := h
  have hK : ∀ a, ¬ (a = 142 ∨ a = 143) → zod J 142 f' n a = J a := fun a ha => zod_oR _ _ _ _ (by omega)
  exact ⟨⟨fun a h1 h2 => by rw [hK a (by omega)]; exact oJ a h1 h2, by rw [zvw_of (I := J) (fun a h1 h2 => hK a (by omega))]; exact oT, zod_n _ _ _ _, zod_fR _ _ _ _, by rw [hK 145 (by omega)]; exact ob⟩, fun a ha => hK a (by omega)⟩
theorem zObB_o {J K : zI2} {n : Nat} {tp : Nat → Int} {c : Int} {b : List Nat} (h : zObB J n tp c b) (e : ∀ a, (a = 144 ∨ a = 145) → K a = J a) : zObB K n tp c b := fun hc => by
  rw [e 144 (Or.inl rfl), e 145 (Or.inr rfl)]
  exact h hc
theorem cti_becomeO {o p : Nat} (hs : zOr sh R o) (hp : zOr sh R p) (hop : o + 2 ≤ p ∨ p + 2 ≤ o) : zE X mX1_become 0 0 0 [zR o, zR p] [] sh I L R (zEq [] sh (zod I o (zcp (I (p + 1)) (I (o + 1)) 0 0 5) (I p 1)) L R) := by
  have h := ct_X1_become (X := X) (I := I) (L := L) (f := I (o + 1)) (n := I o 1) hs hp hop
  rw [zod_self] at h
  exact h
theorem cti_advance {o n : Nat} {f : Nat → Int} (hs : zOr sh R o) (hn : n ≤ 5) (hI : I o 1 = (n : Int)) (hf : I (o + 1) = f) (hfr : ∀ q, q < 5 → 0 ≤ f q ∧ f q ≤ 4) : zE X mX1_advance 0 0 0 [zR o, zX] [] sh I L R (zEq [zI (adr (advf f n (n - 1)))] sh (zod I o ((advf f n (n - 1)).getD f) n) L R) := by
  have h := ct_X1_advance (X := X) (I := I) (L := L) (f := f) hs hn hfr
  rw [← hf, ← hI, zod_self, hI, hf] at h
  exact h
theorem tl_X6_findBest {n : Nat} {tp : Nat → Int} {v : Int × List Nat} {f : Nat → Int} {i c : Int} {y : zV} {J : zI2} (hi : 0 ≤ i ∧ i ≤ 1000) (hc : v.1 = c) (hO : zOb I J n f) (hfr : ∀ q, q < 5 → 0 ≤ f q ∧ f q ≤ 4) (hB : zObB J n tp v.1 v.2) : zE X mX6_findBestOrder 0 0 17 [zR 0, zI c, zI 0, zI i, y] [] sh J L R (zFq sh I L R A n tp v) := by
  subst hc
  refine z_iload3 18 dX6_findBestOrder_17 rfl ?_
  refine z_bipush 20 dX6_findBestOrder_18 (by decide) rfl ?_
  refine z_icmp_ge 71 23 dX6_findBestOrder_20 (by decide) rfl (by omega) (by omega) (fun h20 => ?_) (fun h20 => ?_)
  · refine z_iload1 72 dX6_findBestOrder_71 rfl ?_
    exact z_ireturn dX6_findBestOrder_72 rfl (⟨rfl, rfl, ⟨f, hO, hfr⟩, hB, rfl, rfl⟩)
  · refine z_iload2 24 dX6_findBestOrder_23 rfl ?_
    refine z_if_eq 71 27 dX6_findBestOrder_24 (by decide) rfl (by omega) (fun h24 => ?_) (fun hz => absurd hz (by omega))
    refine z_iload1 72 dX6_findBestOrder_71 rfl ?_
    exact z_ireturn dX6_findBestOrder_72 rfl (⟨rfl, rfl, ⟨f, hO, hfr⟩, hB, rfl, rfl⟩)
theorem lp_X6_findBest {n : Nat} {f0 tq : Nat → Int} (h : zCA sh R P I L A) (hn : n ≤ 5) (htp : ∀ k, k < n → f0 k = tq k) (hf0 : ∀ k, k < 5 → 0 ≤ f0 k ∧ f0 k ≤ 4) (hr : ∀ k, k < n → f0 k < A.1 0 6) (hmo : ∀ i j, i < n → j < n → (f0 i < f0 j ↔ i < j)) : ∀ (r : List (List Nat)) (l : List Nat) (i : Nat) (c : Int) (b : List Nat) (y : zV) (J : zI2), pstep n (l :: r) = true → i + (r.length + 1) ≤ 120 → -1 ≤ c ∧ c ≤ 5 → zOb I J n (fun q => f0 (pf l q).toNat) → zObB J n tq c b → zE X mX6_findBestOrder 0 0 17 [zR 0, zI c, zI 1, zI (i : Int), y] [] sh J L R (zFq sh I L R A n tq (ofold (oval A.1 tq) (l :: r) c b))
  | [], l, i, c, b, y, J, hst, hi, hc, hO, hB => by
    obtain ⟨hC, hNow, hTri, hHis, hKep, hTap, hShe, hOrd⟩ := id h
    obtain ⟨⟨c0, c1, c2, c3, c4, c5, c6, c7, c8, c9, c10, c11⟩, ⟨n1, n8, n73⟩, ⟨hh, hpm⟩, kh, tp, ⟨shs, shk⟩, spd, o1, o2, ra⟩ := id hC
    obtain ⟨⟨s0, s1, s2, s3, s4, s5, s6⟩, r0, r1, r2, r3, r4, r5⟩ := id n1
    have n80 := n8.1.1
    have hh0 := hh.1.1
    have e6 := hNow.2.1.1
    have hn5 := hNow.1.1.1
    have o10 := o1.1
    have o20 := o2.1
    have hob := hO
    obtain ⟨oJ, oT, on, of, ob⟩ := id hO
    have hpk := pok_1 (pstep_pok hst)
    have hfl : ∀ k, k < n → f0 (pf l k).toNat = tq (l.getD k k) := fun k hk => by
      have := hpk.2 k hk
      unfold pf
      rw [Int.toNat_natCast, htp _ this]
    have hfr : ∀ q, q < 5 → 0 ≤ f0 (pf l q).toNat ∧ f0 (pf l q).toNat ≤ 4 := fun q hq => hf0 _ (by
      by_cases hqn : q < n
      · have := hpk.2 q hqn
        unfold pf
        omega
      · rw [pf_out hpk.1 (by omega)]; omega)
    have hz1 : zvw J 1 = zvw I 1 := zvw_of (fun a h1 h2 => oJ a (by omega) (by omega))
    have k1 := ct_X6_throughBy (X := X) (I := J) (L := L) hC (by rw [hz1]; exact hNow.1.1) o1 (Or.inl rfl) hn on (fun k hk => by rw [of]; exact hfr k (by omega))
    have hq1 : zQe (sbc (zvw J 1) (zvw J 8)) A.1 := by
      rw [hz1]
      exact (sbc_q _ _ hNow.1.1.1.2).tr hNow.2
    have hbnd : ∀ k, k < n → ((f0 (pf l k).toNat).toNat : Int) < A.1 0 6 := fun k hk => by
      have := hpk.2 k hk
      have h2 := hr (l.getD k k) this
      have h3 := hfr k (by omega)
      unfold pf at h3 ⊢
      rw [Int.toNat_natCast] at h3 ⊢
      omega
    have ev : pcn (sthr (ssq (J (142 + 1)) n 0 (sbc (zvw J 1) (zvw J 8)))) = oval A.1 tq l := by
      rw [of, sthr_c (ssq_c (n := n) n 0 _ _ (by omega) hq1 (fun k hk => by rw [hq1.1.1]; exact hbnd k hk)), ssq_l (tp := tq) (l := l) (fun k hk => hfl k (by omega)) n 0 _ (by omega)]
      rfl
    rw [ev] at k1
    have hfl0 : ∀ k, k < n → f0 (pf l k).toNat = tq (l.getD k 0) := fun k hk => by rw [hfl k hk, List.getD_eq_getElem?_getD, List.getD_eq_getElem?_getD, List.getElem?_eq_getElem (by omega)]; rfl
    have hvr : 0 ≤ oval A.1 tq l ∧ oval A.1 tq l ≤ 5 := pcn_r
    have hlast : advf (fun q => f0 (pf l q).toNat) n (n - 1) = none := by
      rw [advf_g (g := fun x => f0 x.toNat) (p := pf l) (fun i j hi hj => by
        have h1 := hpk.2 i hi
        have h2 := hpk.2 j hj
        unfold pf
        show f0 (Int.toNat _) < f0 (Int.toNat _) ↔ _
        rw [Int.toNat_natCast, Int.toNat_natCast, hmo _ _ h1 h2]
        omega) (n - 1) (by omega), pstep_last hst]
      rfl
    refine z_iload3 18 dX6_findBestOrder_17 rfl ?_
    refine z_bipush 20 dX6_findBestOrder_18 (by decide) rfl ?_
    refine z_icmp_ge 71 23 dX6_findBestOrder_20 (by decide) rfl (by omega) (by omega) (fun hz => absurd hz (by omega)) (fun h20 => ?_)
    refine z_iload2 24 dX6_findBestOrder_23 rfl ?_
    refine z_if_eq 71 27 dX6_findBestOrder_24 (by decide) rfl (by omega) (fun hz => absurd hz (by omega)) (fun h24 => ?_)
    refine z_aload0 28 dX6_findBestOrder_27 rfl ?_
    refine z_aload0 29 dX6_findBestOrder_28 rfl ?_
    refine z_getR 32 dX6_findBestOrder_29 fl_RX6_56 (by assumption) (by assumption) rfl ?_
    refine z_pV1 35 dX6_findBestOrder_32 lk_X6_findBestOrder_195 (k1) rfl (Nat.le_of_ble_eq_true rfl) (Nat.le_of_ble_eq_true rfl) (by assumption) rfl rfl (fun r0 sh0 I0 L0 R0 hpq => ?_)
    obtain ⟨q1, q2, ⟨W, T, q3, hT⟩, q4, q5⟩ := hpq
    subst r0 sh0 L0 R0
    obtain ⟨hO1, hE1⟩ := zOb_tri hO q3 hT
    refine z_istore4 37 dX6_findBestOrder_35 (Nat.le_of_ble_eq_true rfl) rfl rfl ?_
    refine z_iload4 39 dX6_findBestOrder_37 rfl ?_
    refine z_iload1 40 dX6_findBestOrder_39 rfl ?_
    refine z_icmp_le 57 43 dX6_findBestOrder_40 (by decide) rfl (by omega) (by omega) (fun h40 => ?_) (fun h40 => ?_)
    · skip
      refine z_aload0 58 dX6_findBestOrder_57 rfl ?_
      refine z_getR 61 dX6_findBestOrder_58 fl_RX6_56 (by assumption) (by assumption) rfl ?_
      refine z_xV0 64 dX6_findBestOrder_61 lk_X6_findBestOrder_202 (cti_advance o1 hn (by first | exact hO1.2.2.1 | exact (zOb_best (tp := tq) (l := l) (v := 0) hO1 hn hfr hfl0).1.2.2.1) (by first | exact hO1.2.2.2.1 | exact (zOb_best (tp := tq) (l := l) (v := 0) hO1 hn hfr hfl0).1.2.2.2.1) hfr) rfl (Nat.le_of_ble_eq_true rfl) (Nat.le_of_ble_eq_true rfl) (by assumption) rfl rfl ?_
      rw [hlast]
      refine z_istore2 65 dX6_findBestOrder_64 (Nat.le_of_ble_eq_true rfl) rfl rfl ?_
      refine z_iinc3 68 dX6_findBestOrder_65 (Nat.le_of_ble_eq_true rfl) rfl rfl ?_
      refine z_goto 17 dX6_findBestOrder_68 (by decide) ?_
      first | (rw [show ofold (oval A.1 tq) [l] c b = (c, b) by rw [ofold, if_neg (by omega)]; rfl]; exact tl_X6_findBest (by omega) rfl (zOb_adv hO1).1 hfr (zObB_o (zObB_o hB hE1) (zOb_adv hO1).2)) | (rw [show ofold (oval A.1 tq) [l] c b = (oval A.1 tq l, l) by rw [ofold, if_pos (by omega)]; rfl]; have hO2 := zOb_best (tp := tq) (l := l) (v := oval A.1 tq l) hO1 hn hfr hfl0; exact tl_X6_findBest (by omega) rfl (zOb_adv hO2.1).1 hfr (zObB_o hO2.2 (zOb_adv hO2.1).2))
    · refine z_iload4 45 dX6_findBestOrder_43 rfl ?_
      refine z_istore1 46 dX6_findBestOrder_45 (Nat.le_of_ble_eq_true rfl) rfl rfl ?_
      refine z_aload0 47 dX6_findBestOrder_46 rfl ?_
      refine z_getR 50 dX6_findBestOrder_47 fl_RX6_60 (by assumption) (by assumption) rfl ?_
      refine z_aload0 51 dX6_findBestOrder_50 rfl ?_
      refine z_getR 54 dX6_findBestOrder_51 fl_RX6_56 (by assumption) (by assumption) rfl ?_
      refine z_xVv1 57 dX6_findBestOrder_54 lk_X6_findBestOrder_199 (cti_becomeO o2 o1 (Or.inr (by decide))) rfl (Nat.le_of_ble_eq_true rfl) (Nat.le_of_ble_eq_true rfl) (by assumption) rfl rfl ?_
      skip
      refine z_aload0 58 dX6_findBestOrder_57 rfl ?_
      refine z_getR 61 dX6_findBestOrder_58 fl_RX6_56 (by assumption) (by assumption) rfl ?_
      refine z_xV0 64 dX6_findBestOrder_61 lk_X6_findBestOrder_202 (cti_advance o1 hn (by first | exact hO1.2.2.1 | exact (zOb_best (tp := tq) (l := l) (v := 0) hO1 hn hfr hfl0).1.2.2.1) (by first | exact hO1.2.2.2.1 | exact (zOb_best (tp := tq) (l := l) (v := 0) hO1 hn hfr hfl0).1.2.2.2.1) hfr) rfl (Nat.le_of_ble_eq_true rfl) (Nat.le_of_ble_eq_true rfl) (by assumption) rfl rfl ?_
      rw [hlast]
      refine z_istore2 65 dX6_findBestOrder_64 (Nat.le_of_ble_eq_true rfl) rfl rfl ?_
      refine z_iinc3 68 dX6_findBestOrder_65 (Nat.le_of_ble_eq_true rfl) rfl rfl ?_
      refine z_goto 17 dX6_findBestOrder_68 (by decide) ?_
      first | (rw [show ofold (oval A.1 tq) [l] c b = (c, b) by rw [ofold, if_neg (by omega)]; rfl]; exact tl_X6_findBest (by omega) rfl (zOb_adv hO1).1 hfr (zObB_o (zObB_o hB hE1) (zOb_adv hO1).2)) | (rw [show ofold (oval A.1 tq) [l] c b = (oval A.1 tq l, l) by rw [ofold, if_pos (by omega)]; rfl]; have hO2 := zOb_best (tp := tq) (l := l) (v := oval A.1 tq l) hO1 hn hfr hfl0; exact tl_X6_findBest (by omega) rfl (zOb_adv hO2.1).1 hfr (zObB_o hO2.2 (zOb_adv hO2.1).2))
  | l' :: r, l, i, c, b, y, J, hst, hi, hc, hO, hB => by
    obtain ⟨hC, hNow, hTri, hHis, hKep, hTap, hShe, hOrd⟩ := id h
    obtain ⟨⟨c0, c1, c2, c3, c4, c5, c6, c7, c8, c9, c10, c11⟩, ⟨n1, n8, n73⟩, ⟨hh, hpm⟩, kh, tp, ⟨shs, shk⟩, spd, o1, o2, ra⟩ := id hC
    obtain ⟨⟨s0, s1, s2, s3, s4, s5, s6⟩, r0, r1, r2, r3, r4, r5⟩ := id n1
    have n80 := n8.1.1
    have hh0 := hh.1.1
    have e6 := hNow.2.1.1
    have hn5 := hNow.1.1.1
    have o10 := o1.1
    have o20 := o2.1
    have hob := hO
    obtain ⟨oJ, oT, on, of, ob⟩ := id hO
    have hpk := pok_1 (pstep_pok hst)
    have hfl : ∀ k, k < n → f0 (pf l k).toNat = tq (l.getD k k) := fun k hk => by
      have := hpk.2 k hk
      unfold pf
      rw [Int.toNat_natCast, htp _ this]
    have hfr : ∀ q, q < 5 → 0 ≤ f0 (pf l q).toNat ∧ f0 (pf l q).toNat ≤ 4 := fun q hq => hf0 _ (by
      by_cases hqn : q < n
      · have := hpk.2 q hqn
        unfold pf
        omega
      · rw [pf_out hpk.1 (by omega)]; omega)
    have hz1 : zvw J 1 = zvw I 1 := zvw_of (fun a h1 h2 => oJ a (by omega) (by omega))
    have k1 := ct_X6_throughBy (X := X) (I := J) (L := L) hC (by rw [hz1]; exact hNow.1.1) o1 (Or.inl rfl) hn on (fun k hk => by rw [of]; exact hfr k (by omega))
    have hq1 : zQe (sbc (zvw J 1) (zvw J 8)) A.1 := by
      rw [hz1]
      exact (sbc_q _ _ hNow.1.1.1.2).tr hNow.2
    have hbnd : ∀ k, k < n → ((f0 (pf l k).toNat).toNat : Int) < A.1 0 6 := fun k hk => by
      have := hpk.2 k hk
      have h2 := hr (l.getD k k) this
      have h3 := hfr k (by omega)
      unfold pf at h3 ⊢
      rw [Int.toNat_natCast] at h3 ⊢
      omega
    have ev : pcn (sthr (ssq (J (142 + 1)) n 0 (sbc (zvw J 1) (zvw J 8)))) = oval A.1 tq l := by
      rw [of, sthr_c (ssq_c (n := n) n 0 _ _ (by omega) hq1 (fun k hk => by rw [hq1.1.1]; exact hbnd k hk)), ssq_l (tp := tq) (l := l) (fun k hk => hfl k (by omega)) n 0 _ (by omega)]
      rfl
    rw [ev] at k1
    have hfl0 : ∀ k, k < n → f0 (pf l k).toNat = tq (l.getD k 0) := fun k hk => by rw [hfl k hk, List.getD_eq_getElem?_getD, List.getD_eq_getElem?_getD, List.getElem?_eq_getElem (by omega)]; rfl
    have hvr : 0 ≤ oval A.1 tq l ∧ oval A.1 tq l ≤ 5 := pcn_r
    have hnx : advf (fun q => f0 (pf l q).toNat) n (n - 1) = some (fun q => f0 (pf l' q).toNat) := by
      rw [advf_g (g := fun x => f0 x.toNat) (p := pf l) (fun i j hi hj => by
        have h1 := hpk.2 i hi
        have h2 := hpk.2 j hj
        unfold pf
        show f0 (Int.toNat _) < f0 (Int.toNat _) ↔ _
        rw [Int.toNat_natCast, Int.toNat_natCast, hmo _ _ h1 h2]
        omega) (n - 1) (by omega), (pstep_next hst).1]
      rfl
    have hi' : i + 1 + (r.length + 1) ≤ 120 := by simp only [List.length_cons] at hi; omega
    refine z_iload3 18 dX6_findBestOrder_17 rfl ?_
    refine z_bipush 20 dX6_findBestOrder_18 (by decide) rfl ?_
    refine z_icmp_ge 71 23 dX6_findBestOrder_20 (by decide) rfl (by omega) (by omega) (fun hz => absurd hz (by omega)) (fun h20 => ?_)
    refine z_iload2 24 dX6_findBestOrder_23 rfl ?_
    refine z_if_eq 71 27 dX6_findBestOrder_24 (by decide) rfl (by omega) (fun hz => absurd hz (by omega)) (fun h24 => ?_)
    refine z_aload0 28 dX6_findBestOrder_27 rfl ?_
    refine z_aload0 29 dX6_findBestOrder_28 rfl ?_
    refine z_getR 32 dX6_findBestOrder_29 fl_RX6_56 (by assumption) (by assumption) rfl ?_
    refine z_pV1 35 dX6_findBestOrder_32 lk_X6_findBestOrder_195 (k1) rfl (Nat.le_of_ble_eq_true rfl) (Nat.le_of_ble_eq_true rfl) (by assumption) rfl rfl (fun r0 sh0 I0 L0 R0 hpq => ?_)
    obtain ⟨q1, q2, ⟨W, T, q3, hT⟩, q4, q5⟩ := hpq
    subst r0 sh0 L0 R0
    obtain ⟨hO1, hE1⟩ := zOb_tri hO q3 hT
    refine z_istore4 37 dX6_findBestOrder_35 (Nat.le_of_ble_eq_true rfl) rfl rfl ?_
    refine z_iload4 39 dX6_findBestOrder_37 rfl ?_
    refine z_iload1 40 dX6_findBestOrder_39 rfl ?_
    refine z_icmp_le 57 43 dX6_findBestOrder_40 (by decide) rfl (by omega) (by omega) (fun h40 => ?_) (fun h40 => ?_)
    · refine z_aload0 58 dX6_findBestOrder_57 rfl ?_
      refine z_getR 61 dX6_findBestOrder_58 fl_RX6_56 (by assumption) (by assumption) rfl ?_
      refine z_xV0 64 dX6_findBestOrder_61 lk_X6_findBestOrder_202 (cti_advance o1 hn (by first | exact hO1.2.2.1 | exact (zOb_best (tp := tq) (l := l) (v := 0) hO1 hn hfr hfl0).1.2.2.1) (by first | exact hO1.2.2.2.1 | exact (zOb_best (tp := tq) (l := l) (v := 0) hO1 hn hfr hfl0).1.2.2.2.1) hfr) rfl (Nat.le_of_ble_eq_true rfl) (Nat.le_of_ble_eq_true rfl) (by assumption) rfl rfl ?_
      rw [hnx]
      refine z_istore2 65 dX6_findBestOrder_64 (Nat.le_of_ble_eq_true rfl) rfl rfl ?_
      refine z_iinc3 68 dX6_findBestOrder_65 (Nat.le_of_ble_eq_true rfl) rfl rfl ?_
      refine z_goto 17 dX6_findBestOrder_68 (by decide) ?_
      first | (rw [show ofold (oval A.1 tq) (l :: l' :: r) c b = ofold (oval A.1 tq) (l' :: r) c b by rw [ofold, if_neg (by omega)]]; exact lp_X6_findBest h hn htp hf0 hr hmo r l' (i + 1) c b _ _ (pstep_next hst).2 hi' hc (zOb_adv hO1).1 (zObB_o (zObB_o hB hE1) (zOb_adv hO1).2)) | (rw [show ofold (oval A.1 tq) (l :: l' :: r) c b = ofold (oval A.1 tq) (l' :: r) (oval A.1 tq l) l by rw [ofold, if_pos (by omega)]]; have hO2 := zOb_best (tp := tq) (l := l) (v := oval A.1 tq l) hO1 hn hfr hfl0; exact lp_X6_findBest h hn htp hf0 hr hmo r l' (i + 1) _ l _ _ (pstep_next hst).2 hi' (by omega) (zOb_adv hO2.1).1 (zObB_o hO2.2 (zOb_adv hO2.1).2))
    · refine z_iload4 45 dX6_findBestOrder_43 rfl ?_
      refine z_istore1 46 dX6_findBestOrder_45 (Nat.le_of_ble_eq_true rfl) rfl rfl ?_
      refine z_aload0 47 dX6_findBestOrder_46 rfl ?_
      refine z_getR 50 dX6_findBestOrder_47 fl_RX6_60 (by assumption) (by assumption) rfl ?_
      refine z_aload0 51 dX6_findBestOrder_50 rfl ?_
      refine z_getR 54 dX6_findBestOrder_51 fl_RX6_56 (by assumption) (by assumption) rfl ?_
      refine z_xVv1 57 dX6_findBestOrder_54 lk_X6_findBestOrder_199 (cti_becomeO o2 o1 (Or.inr (by decide))) rfl (Nat.le_of_ble_eq_true rfl) (Nat.le_of_ble_eq_true rfl) (by assumption) rfl rfl ?_
      refine z_aload0 58 dX6_findBestOrder_57 rfl ?_
      refine z_getR 61 dX6_findBestOrder_58 fl_RX6_56 (by assumption) (by assumption) rfl ?_
      refine z_xV0 64 dX6_findBestOrder_61 lk_X6_findBestOrder_202 (cti_advance o1 hn (by first | exact hO1.2.2.1 | exact (zOb_best (tp := tq) (l := l) (v := 0) hO1 hn hfr hfl0).1.2.2.1) (by first | exact hO1.2.2.2.1 | exact (zOb_best (tp := tq) (l := l) (v := 0) hO1 hn hfr hfl0).1.2.2.2.1) hfr) rfl (Nat.le_of_ble_eq_true rfl) (Nat.le_of_ble_eq_true rfl) (by assumption) rfl rfl ?_
      rw [hnx]
      refine z_istore2 65 dX6_findBestOrder_64 (Nat.le_of_ble_eq_true rfl) rfl rfl ?_
      refine z_iinc3 68 dX6_findBestOrder_65 (Nat.le_of_ble_eq_true rfl) rfl rfl ?_
      refine z_goto 17 dX6_findBestOrder_68 (by decide) ?_
      first | (rw [show ofold (oval A.1 tq) (l :: l' :: r) c b = ofold (oval A.1 tq) (l' :: r) c b by rw [ofold, if_neg (by omega)]]; exact lp_X6_findBest h hn htp hf0 hr hmo r l' (i + 1) c b _ _ (pstep_next hst).2 hi' hc (zOb_adv hO1).1 (zObB_o (zObB_o hB hE1) (zOb_adv hO1).2)) | (rw [show ofold (oval A.1 tq) (l :: l' :: r) c b = ofold (oval A.1 tq) (l' :: r) (oval A.1 tq l) l by rw [ofold, if_pos (by omega)]]; have hO2 := zOb_best (tp := tq) (l := l) (v := oval A.1 tq l) hO1 hn hfr hfl0; exact lp_X6_findBest h hn htp hf0 hr hmo r l' (i + 1) _ l _ _ (pstep_next hst).2 hi' (by omega) (zOb_adv hO2.1).1 (zObB_o hO2.2 (zOb_adv hO2.1).2))
end TOPO
