/-! ===== calls on the object: film, clocked ===== -/
theorem scut_id (ln : Int) {v : Int} (hv : -4 ≤ v ∧ v ≤ 30) : scut ln v = v := by
  have key : ∀ n : Fin 35, (zi2b (zl2i ((n.val : Int) - 4)) = (n.val : Int) - 4) ∧ (zi2s (zl2i ((n.val : Int) - 4)) = (n.val : Int) - 4) ∧ (zl2i ((n.val : Int) - 4) = (n.val : Int) - 4) := by decide +kernel
  have k := key ⟨(v + 4).toNat, by omega⟩
  have e : (((v + 4).toNat : Nat) : Int) - 4 = v := by omega
  simp only [e] at k
  unfold scut
  rw [k.1, k.2.1, k.2.2]
  repeat' split
  all_goals rfl
/-- a row with n items of w laid from i on -/
def fln (f w : Nat → Int) (i n : Nat) : Nat → Int := fun j => if i ≤ j ∧ j < i + n then w (j - i) else f j
theorem fln_0 (f w : Nat → Int) (i : Nat) : fln f w i 0 = f := funext fun j => by unfold fln; rw [if_neg (by omega)]
theorem fln_s (f w : Nat → Int) (i n : Nat) : (fun j => if j = i + n then w n else fln f w i n j) = fln f w i (n + 1) := funext fun j => by
  unfold fln
  by_cases h : j = i + n
  · subst h
    rw [if_pos rfl, if_pos (by omega), show i + n - i = n by omega]
  · rw [if_neg h]
    by_cases h2 : i ≤ j ∧ j < i + n
    · rw [if_pos h2, if_pos (by omega)]
    · rw [if_neg h2, if_neg (by omega)]
def oFilm (A : zA) (r n s l i : Int) : Int × zA :=
  if (0 ≤ r ∧ r ≤ A.1 0 6 - 1) ∧ (1 ≤ n ∧ n ≤ 10) ∧ (0 ≤ s ∧ s ≤ 3) ∧ (0 ≤ l ∧ l ≤ 3) then
    (if sref (A.2.2.2.2 s.toNat).1 (A.2.2.2.2 s.toNat).2.1 l i n = 0 then (n, sset A s.toNat ((A.2.2.2.2 s.toNat).1, (A.2.2.2.2 s.toNat).2.1, fln (A.2.2.2.2 s.toNat).2.2 (sfw A.1 r.toNat) i.toNat n.toNat)) else (sref (A.2.2.2.2 s.toNat).1 (A.2.2.2.2 s.toNat).2.1 l i n, A)) else (-1, A)
def skc (f : Nat) (T : zT) (r t n i : Nat) (it : Nat → Int) : Nat → Nat → Int → Int
  | 0, _, x => x
  | m + 1, k, x => skc f T r t n i it m (k + 1) (if stell it (sfw (zup T f r (k : Int)) r) n i t = 1 then zor x (zshl 1 (k : Int)) else x)
def oClocked (A : zA) (r t s l i n w : Int) : Int :=
  if ((0 ≤ r ∧ r ≤ A.1 0 6 - 1) ∧ (0 ≤ t ∧ t ≤ 9) ∧ (1 ≤ n ∧ n ≤ 10 - t)) ∧ (0 ≤ s ∧ s ≤ 3) ∧ (0 ≤ l ∧ l ≤ 3) ∧ (0 ≤ w ∧ w ≤ 1) then
    (if sref (A.2.2.2.2 s.toNat).1 (A.2.2.2.2 s.toNat).2.1 l i n = 0 then (if w = 0 then skc 3 A.1 r.toNat t.toNat n.toNat i.toNat (A.2.2.2.2 s.toNat).2.2 5 0 0 else skc 4 A.1 r.toNat t.toNat n.toNat i.toNat (A.2.2.2.2 s.toNat).2.2 20 1 0) else sref (A.2.2.2.2 s.toNat).1 (A.2.2.2.2 s.toNat).2.1 l i n) else -1
theorem stell_c {f f' w w' : Nat → Int} : ∀ (n i t : Nat), (∀ j, i ≤ j → j < i + n → f j = f' j) → (∀ j, t ≤ j → j < t + n → w j = w' j) → stell f w n i t = stell f' w' n i t
  | 0, i, t, _, _ => rfl
  | n + 1, i, t, h1, h2 => by
    unfold stell
    rw [h1 i (by omega) (by omega), h2 t (by omega) (by omega), stell_c n (i + 1) (t + 1) (fun j a b => h1 j (by omega) (by omega)) (fun j a b => h2 j (by omega) (by omega))]
theorem stell_r (f w : Nat → Int) : ∀ (n i t : Nat), stell f w n i t = 0 ∨ stell f w n i t = 1
  | 0, i, t => by unfold stell; omega
  | n + 1, i, t => by
    unfold stell
    have := stell_r f w n (i + 1) (t + 1)
    split <;> omega
section TOPJ
variable {X : zXs} {sh : zH} {I L : zI2} {R : zR2} {P : Nat → Nat} {A : zA}
theorem zShr_o {I J L K : zI2} {a : Nat} (h : zShr I L a) (hJ : J a = I a) (hK : ∀ j, j < 24 → -9223372036854775808 ≤ K (a + 1) j ∧ K (a + 1) j ≤ 9223372036854775807) : zShr J K a := by
  unfold zShr at h ⊢
  rw [hJ]
  exact ⟨h.1, h.2.1, hK⟩
theorem lp_X6_film {r s l i : Int} {n q p : Nat} {W : Nat → Int} (hC : zCs sh R P) (hq : q < 4) (hs : zShr I L (149 + 2 * q)) (hW : ∀ j, j < 10 → -4 ≤ W j ∧ W j ≤ 30) (hn : n ≤ 10) (hi : i = (p : Int)) (hp : (p : Int) + n ≤ I (149 + 2 * q) 2) : ∀ (m k : Nat), k + m = n → zE X mX6_film 0 0 82 [zR 0, zI r, zI (n : Int), zI s, zI l, zI i, zR (149 + 2 * q), zI 0, zI (k : Int)] [] sh (zrow I 141 W) (zrow L (149 + 2 * q + 1) (fln (L (149 + 2 * q + 1)) W p k)) R (zEq [zI (n : Int)] sh (zrow I 141 W) (zrow L (149 + 2 * q + 1) (fln (L (149 + 2 * q + 1)) W p n)) R)
  | 0, k, h => by
    have hk : k = n := by omega
    subst hk
    refine z_iload8 84 dX6_film_82 rfl ?_
    refine z_iload2 85 dX6_film_84 rfl ?_
    refine z_icmp_ge 112 88 dX6_film_85 (by decide) rfl (by omega) (by omega) (fun h85 => ?_) (fun hz => absurd hz (by omega))
    refine z_iload2 113 dX6_film_112 rfl ?_
    exact z_ireturn dX6_film_113 rfl (⟨rfl, rfl, rfl, rfl, rfl⟩)
  | m + 1, k, h => by
    obtain ⟨⟨c0, c1, c2, c3, c4, c5, c6, c7, c8, c9, c10, c11⟩, ⟨n1, n8, n73⟩, ⟨hh, hpm⟩, kh, tp, ⟨shs, shk⟩, spd, o1, o2, ra⟩ := id hC
    have hsq := shk q hq
    have hsq0 := hsq.2.1
    have hwk := hW k (by omega)
    have hz := hs.2.1
    have e141 : zrow I 141 W (149 + 2 * q) = I (149 + 2 * q) := zrow_oR _ _ (by omega)
    have hr : zShr (zrow I 141 W) (zrow L (149 + 2 * q + 1) (fln (L (149 + 2 * q + 1)) W p k)) (149 + 2 * q) := zShr_o hs e141 (fun j hj => by
      rw [zrow_at]
      unfold fln
      split
      · have := hW (j - p) (by omega); omega
      · exact hs.2.2 j hj)
    have k1 := ct_X3_put (X := X) (R := R) (i := p + k) (v := W k) hsq.2 hr (by rw [e141]; omega)
    rw [scut_id _ hwk, zrow_up, fln_s, Int.natCast_add] at k1
    subst hi
    refine z_iload8 84 dX6_film_82 rfl ?_
    refine z_iload2 85 dX6_film_84 rfl ?_
    refine z_icmp_ge 112 88 dX6_film_85 (by decide) rfl (by omega) (by omega) (fun hz => absurd hz (by omega)) (fun h85 => ?_)
    refine z_aload6 90 dX6_film_88 rfl ?_
    refine z_iload5 92 dX6_film_90 rfl ?_
    refine z_iload8 94 dX6_film_92 rfl ?_
    refine z_iadd 95 dX6_film_94 rfl ?_
    refine z_aload0 96 dX6_film_95 rfl ?_
    refine z_getR 99 dX6_film_96 fl_RX6_49 (by assumption) (by assumption) rfl ?_
    refine z_iload8 101 dX6_film_99 rfl ?_
    refine z_ialdx 102 (k) dX6_film_101 (by assumption) (by omega) (by omega) (zrow_at _ _ _ _) rfl ?_
    refine z_i2l 103 dX6_film_102 (by omega) rfl ?_
    refine z_xVv2 106 dX6_film_103 lk_X6_film_249 (k1) rfl (Nat.le_of_ble_eq_true rfl) (Nat.le_of_ble_eq_true rfl) (by assumption) rfl rfl ?_
    refine z_iinc8 109 dX6_film_106 (Nat.le_of_ble_eq_true rfl) rfl rfl ?_
    refine z_goto 82 dX6_film_109 (by decide) ?_
    exact lp_X6_film hC hq hs hW hn rfl hp m (k + 1) (by omega)
theorem op_X6_film {r n s l i : Int} (h : zCA sh R P I L A) (hr : -2147483648 ≤ r ∧ r ≤ 2147483647) (hn : -2147483648 ≤ n ∧ n ≤ 2147483647) (hs : -2147483648 ≤ s ∧ s ≤ 2147483647) (hl : -2147483648 ≤ l ∧ l ≤ 2147483647) (hi : -2147483648 ≤ i ∧ i ≤ 2147483647) : zE X mX6_film 0 0 0 [zR 0, zI r, zI n, zI s, zI l, zI i, zX, zX, zX] [] sh I L R (zOp sh I L R (zI (oFilm A r n s l i).1) (oFilm A r n s l i).2) := by
  obtain ⟨hC, hNow, hTri, hHis, hKep, hTap, hShe, hOrd⟩ := id h
  obtain ⟨⟨c0, c1, c2, c3, c4, c5, c6, c7, c8, c9, c10, c11⟩, ⟨n1, n8, n73⟩, ⟨hh, hpm⟩, kh, tp, ⟨shs, shk⟩, spd, o1, o2, ra⟩ := id hC
  obtain ⟨⟨s0, s1, s2, s3, s4, s5, s6⟩, r0, r1, r2, r3, r4, r5⟩ := id n1
  have n80 := n8.1.1
  have hh0 := hh.1.1
  have e6 := hNow.2.1.1
  have hn5 := hNow.1.1.1
  have z0 := zwi_r r 0 (zvw I 1 0 6 - 1)
  have z1 := zwi_r n 1 10
  have z2 := zwi_r s 0 3
  have z3 := zwi_r l 0 3
  refine z_aload0 1 dX6_film_0 rfl ?_
  refine z_getR 4 dX6_film_1 fl_RX6_10 (by assumption) (by assumption) rfl ?_
  refine z_iload1 5 dX6_film_4 rfl ?_
  refine z_xV1 8 dX6_film_5 lk_X6_film_82 (cti_hasRider n1 hNow.1.1 hr) rfl (Nat.le_of_ble_eq_true rfl) (Nat.le_of_ble_eq_true rfl) (by assumption) rfl rfl ?_
  refine z_if_eq 36 11 dX6_film_8 (by decide) rfl (by omega) (fun h8 => ?_) (fun h8 => ?_)
  · have g8 := zwi_eq0 h8
    refine z_iconst 37 dX6_film_36 rfl ?_
    exact z_ireturn dX6_film_37 rfl ((by rw [show oFilm A r n s l i = (-1, A) by unfold oFilm; rw [if_neg (by omega)]]; exact zOp_same h rfl))
  · have g8 := zwi_ne0 h8
    refine z_iload2 12 dX6_film_11 rfl ?_
    refine z_iconst 13 dX6_film_12 rfl ?_
    refine z_bipush 15 dX6_film_13 (by decide) rfl ?_
    refine z_xS3 18 dX6_film_15 lk_X6_film_71 (ct_X6_within (by omega) (by omega) (by omega)) rfl (Nat.le_of_ble_eq_true rfl) (Nat.le_of_ble_eq_true rfl) rfl ?_
    refine z_if_eq 36 21 dX6_film_18 (by decide) rfl (by omega) (fun h18 => ?_) (fun h18 => ?_)
    · have g18 := zwi_eq0 h18
      refine z_iconst 37 dX6_film_36 rfl ?_
      exact z_ireturn dX6_film_37 rfl ((by rw [show oFilm A r n s l i = (-1, A) by unfold oFilm; rw [if_neg (by omega)]]; exact zOp_same h rfl))
    · have g18 := zwi_ne0 h18
      refine z_iload3 22 dX6_film_21 rfl ?_
      refine z_xS1 25 dX6_film_22 lk_X6_film_229 (ct_X6_isSheet (by omega)) rfl (Nat.le_of_ble_eq_true rfl) (Nat.le_of_ble_eq_true rfl) rfl ?_
      refine z_if_eq 36 28 dX6_film_25 (by decide) rfl (by omega) (fun h25 => ?_) (fun h25 => ?_)
      · have g25 := zwi_eq0 h25
        refine z_iconst 37 dX6_film_36 rfl ?_
        exact z_ireturn dX6_film_37 rfl ((by rw [show oFilm A r n s l i = (-1, A) by unfold oFilm; rw [if_neg (by omega)]]; exact zOp_same h rfl))
      · have g25 := zwi_ne0 h25
        refine z_iload4 30 dX6_film_28 rfl ?_
        refine z_xS1 33 dX6_film_30 lk_X6_film_232 (ct_X6_isLane (by omega)) rfl (Nat.le_of_ble_eq_true rfl) (Nat.le_of_ble_eq_true rfl) rfl ?_
        refine z_if_ne 38 36 dX6_film_33 (by decide) rfl (by omega) (fun h33 => ?_) (fun h33 => ?_)
        · have g33 := zwi_ne0 h33
          obtain ⟨q, rfl⟩ : ∃ q : Nat, s = (q : Int) := ⟨s.toNat, by omega⟩
          obtain ⟨v, rfl⟩ : ∃ q : Nat, r = (q : Int) := ⟨r.toNat, by omega⟩
          obtain ⟨u, rfl⟩ : ∃ q : Nat, n = (q : Int) := ⟨n.toNat, by omega⟩
          have hsq := shk q (by omega)
          have hsq0 := hsq.2.1
          have hcs := hShe q (by omega)
          have hsr := hcs.1.2.1
          have eo : oFilm A v u q l i = (if sref (A.2.2.2.2 q).1 (A.2.2.2.2 q).2.1 l i u = 0 then ((u : Int), sset A q ((A.2.2.2.2 q).1, (A.2.2.2.2 q).2.1, fln (A.2.2.2.2 q).2.2 (sfw A.1 v) i.toNat u)) else (sref (A.2.2.2.2 q).1 (A.2.2.2.2 q).2.1 l i u, A)) := by unfold oFilm; rw [if_pos (by omega), Int.toNat_natCast, Int.toNat_natCast, Int.toNat_natCast]
          rw [eo, ← hcs.2.1, ← hcs.2.2.1]
          have hrf := ct_X3_refusal (X := X) (L := L) (ln := l) (i := i) (n := (u : Int)) hsq.2 hcs.1 (by omega) (by omega) (by omega)
          have hr0 : sref (I (149 + 2 * q) 1) (I (149 + 2 * q) 2) l i u = 0 → 0 ≤ i ∧ i + u ≤ I (149 + 2 * q) 2 := fun e => by
            unfold sref at e
            repeat' split at e
            all_goals omega
          have hr1 : -100 ≤ sref (I (149 + 2 * q) 1) (I (149 + 2 * q) 2) l i u ∧ sref (I (149 + 2 * q) 1) (I (149 + 2 * q) 2) l i u ≤ 0 := by
            unfold sref
            repeat' split
            all_goals omega
          generalize hg : sref (I (149 + 2 * q) 1) (I (149 + 2 * q) 2) l i u = g at hrf hr0 hr1 ⊢
          refine z_aload0 39 dX6_film_38 rfl ?_
          refine z_getR 42 dX6_film_39 fl_RX6_45 (by assumption) (by assumption) rfl ?_
          refine z_iload3 43 dX6_film_42 rfl ?_
          refine z_aald3N 44 (q) dX6_film_43 (by assumption) (by omega) (by omega) (hsq.1) rfl ?_
          refine z_astore6 46 dX6_film_44 (Nat.le_of_ble_eq_true rfl) rfl rfl ?_
          refine z_aload6 48 dX6_film_46 rfl ?_
          refine z_iload4 50 dX6_film_48 rfl ?_
          refine z_iload5 52 dX6_film_50 rfl ?_
          refine z_iload2 53 dX6_film_52 rfl ?_
          refine z_xV3 56 dX6_film_53 lk_X6_film_235 (hrf) rfl (Nat.le_of_ble_eq_true rfl) (Nat.le_of_ble_eq_true rfl) (by assumption) rfl rfl ?_
          refine z_istore7 58 dX6_film_56 (Nat.le_of_ble_eq_true rfl) rfl rfl ?_
          refine z_iload7 60 dX6_film_58 rfl ?_
          refine z_if_eq 66 63 dX6_film_60 (by decide) rfl (by omega) (fun h60 => ?_) (fun h60 => ?_)
          · have hi2 := hr0 (by omega)
            obtain ⟨p, rfl⟩ : ∃ p : Nat, i = (p : Int) := ⟨i.toNat, by omega⟩
            obtain ⟨W, hW, hfo⟩ := cti_fore (X := X) (I := I) (L := L) (r := v) n1 hNow.1.1 (by omega) (Or.inr (by decide : 1 + 7 ≤ 141)) spd
            have hg0 : g = 0 := by omega
            subst hg0
            refine z_aload0 67 dX6_film_66 rfl ?_
            refine z_getR 70 dX6_film_67 fl_RX6_10 (by assumption) (by assumption) rfl ?_
            refine z_iload1 71 dX6_film_70 rfl ?_
            refine z_aload0 72 dX6_film_71 rfl ?_
            refine z_getR 75 dX6_film_72 fl_RX6_49 (by assumption) (by assumption) rfl ?_
            refine z_xV2 78 dX6_film_75 lk_X6_film_171 (hfo) rfl (Nat.le_of_ble_eq_true rfl) (Nat.le_of_ble_eq_true rfl) (by assumption) rfl rfl ?_
            refine z_pop 79 dX6_film_78 rfl rfl ?_
            refine z_iconst 80 dX6_film_79 rfl ?_
            refine z_istore8 82 dX6_film_80 (Nat.le_of_ble_eq_true rfl) rfl rfl ?_
            have hW2 : ∀ j, j < 10 → W j = sfw A.1 v j := fun j hj => by rw [hW j hj, sfw_c hNow.2 (by omega)]
            have k := lp_X6_film (X := X) (I := I) (L := L) (r := (v : Int)) (s := (q : Int)) (l := l) (i := (p : Int)) (n := u) (q := q) (p := p) (W := W) hC (by omega) hcs.1 (fun j hj => by rw [hW2 j hj]; have := sfw_r A.1 v j hj; omega) (by omega) rfl (by omega) u 0 (by omega)
            rw [fln_0, zrow_self] at k
            refine zE_mono (fun r' sh' I' L' R' hz => ?_) k
            obtain ⟨rfl, rfl, rfl, rfl, rfl⟩ := hz
            rw [if_pos rfl, Int.toNat_natCast]
            have hd : ∀ a, a ≠ 141 → zrow I 141 W a = I a := fun a ha => zrow_oR I W ha
            have h1 : zCA sh' R' P (zrow I 141 W) L A := zCA_scr h (fun a ha => hd a (by omega)) (fun a _ => rfl) (cTri_of (fun a _ _ => hd a (by omega)) h.2.2.1) (cOrd_of (fun a _ => hd a (by omega)) h.2.2.2.2.2.2.2)
            have hK : ∀ a, a ≠ 149 + 2 * q + 1 → zrow L (149 + 2 * q + 1) (fln (L (149 + 2 * q + 1)) W p u) a = L a := fun a ha => zrow_oR _ _ ha
            have e141 : zrow I 141 W (149 + 2 * q) = I (149 + 2 * q) := hd _ (by omega)
            refine zOp_ofL (zCA_she h1 (by omega) (fun _ _ => rfl) hK ⟨zShr_o hcs.1 e141 (fun j hj => ?_), by rw [e141], by rw [e141], fun j hj => ?_⟩) (fun a ha => ⟨hd a (by omega), hK a (by omega), rfl⟩) rfl
            · rw [zrow_at]
              unfold fln
              split
              · have := hW2 (j - p) (by omega); have := sfw_r A.1 v (j - p) (by omega); omega
              · exact hcs.1.2.2 j hj
            · rw [zrow_at]
              show _ = fln (A.2.2.2.2 q).2.2 (sfw A.1 v) p u j
              unfold fln
              split
              · exact hW2 _ (by omega)
              · exact hcs.2.2.2 j hj
          · refine z_iload7 65 dX6_film_63 rfl ?_
            exact z_ireturn dX6_film_65 rfl ((by rw [if_neg (by omega)]; exact zOp_same h rfl))
        · have g33 := zwi_eq0 h33
          refine z_iconst 37 dX6_film_36 rfl ?_
          exact z_ireturn dX6_film_37 rfl ((by rw [show oFilm A r n s l i = (-1, A) by unfold oFilm; rw [if_neg (by omega)]]; exact zOp_same h rfl))
end TOPJ
