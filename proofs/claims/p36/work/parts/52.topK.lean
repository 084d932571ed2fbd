section TOPK
variable {X : zXs} {sh : zH} {I L : zI2} {R : zR2} {P : Nat → Nat} {A : zA}
theorem skc_c {S S' : zT} (h : zQe S S') {f r t n i : Nat} (hr : (r : Int) < S 0 6) (hf : f ≠ 0) {it it' : Nat → Int} (hit : ∀ j, i ≤ j → j < i + n → it j = it' j) : ∀ (m k : Nat) (x : Int), skc f S r t n i it m k x = skc f S' r t n i it' m k x
  | 0, k, x => rfl
  | m + 1, k, x => by
    unfold skc
    rw [sfw_c (zQe_up h (i := f) (j := r) (by omega) (k : Int)) (r := r) (by rw [zup_row _ _ (by omega)]; exact hr), stell_c n i t hit (fun _ _ _ => rfl), skc_c h hr hf hit m (k + 1)]
theorem lp_X6_kinds {T : zT} {r t n i q : Nat} (h : zCA sh R P I L A) (hq : zQe T A.1) (h5 : r < 5) (hr : (r : Int) < T 0 6) (h4 : q < 4) (hi : i + n ≤ 24) (ht : t + n ≤ 10) : ∀ (m k : Nat) (x : Int) (W : Nat → Int) (T' : zT), k + m = 5 → zSr T' → (∀ v, zup T' 3 r v = zup T 3 r v) → zE X mX6_kindsClocked 0 0 17 [zR 0, zI (r : Int), zI (t : Int), zR (149 + 2 * q), zI (i : Int), zI (n : Int), zI x, zI (k : Int)] [] sh (zsl (zrow I 141 W) 8 T') L R (zOp sh I L R (zI (skc 3 A.1 r t n i (L (149 + 2 * q + 1)) m k x)) A)
  | 0, k, x, W, T', hk, hT, hv => by
    refine z_iload7 19 dX6_kindsClocked_17 rfl ?_
    refine z_iconst 20 dX6_kindsClocked_19 rfl ?_
    refine z_icmp_ge 78 23 dX6_kindsClocked_20 (by decide) rfl (by omega) (by omega) (fun h20 => ?_) (fun hz => absurd hz (by omega))
    refine z_iload6 80 dX6_kindsClocked_78 rfl ?_
    exact z_ireturn dX6_kindsClocked_80 rfl (zOp_tri h W hT rfl)
  | m + 1, k, x, W, T', hk, hT, hv => by
    obtain ⟨hC, hNow, hTri, hHis, hKep, hTap, hShe, hOrd⟩ := id h
    obtain ⟨⟨c0, c1, c2, c3, c4, c5, c6, c7, c8, c9, c10, c11⟩, ⟨n1, n8, n73⟩, ⟨hh, hpm⟩, kh, tp, ⟨shs, shk⟩, spd, o1, o2, ra⟩ := id hC
    obtain ⟨⟨s0, s1, s2, s3, s4, s5, s6⟩, r0, r1, r2, r3, r4, r5⟩ := id n1
    have n80 := n8.1.1
    have hh0 := hh.1.1
    have e6 := hNow.2.1.1
    have hn5 := hNow.1.1.1
    obtain ⟨⟨t0, t1, t2, t3, t4, t5, t6⟩, w0, w1, w2, w3, w4, w5⟩ := id n8
    have hsq := shk q h4
    have hsq0 := hsq.2.1
    have hTi : zSr (zup T' 3 r (k : Int)) := zSr_up3 hT r (by omega)
    obtain ⟨W2, hW, hfo⟩ := ct_foreW (X := X) (I := I) (L := L) (r := r) W n8 hTi h5 (Or.inr (by decide : 8 + 7 ≤ 141)) spd
    have ec : sfw (zup T' 3 r (k : Int)) r = sfw (zup A.1 3 r (k : Int)) r := by
      rw [hv]
      exact sfw_c (zQe_up hq (i := 3) (j := r) (by omega) (k : Int)) (r := r) (by rw [zup_row _ _ (by decide)]; exact hr)
    have e141 : zsl (zrow I 141 W2) 8 (zup T' 3 r (k : Int)) 141 = W2 := by rw [zsl_oR _ _ _ (by omega)]; exact funext (zrow_at I 141 W2)
    have eSh : zsl (zrow I 141 W2) 8 (zup T' 3 r (k : Int)) (149 + 2 * q) = I (149 + 2 * q) := by rw [zsl_oR _ _ _ (by omega), zrow_oR _ _ (by omega)]
    have k1 := ct_X3_tells (X := X) (I := zsl (zrow I 141 W2) 8 (zup T' 3 r (k : Int))) (L := L) (R := R) (i0 := i) (t0 := t) (n0 := n) hsq.2 (zShr_o (hShe q h4).1 eSh (hShe q h4).1.2.2) spd (fun j hj => by rw [e141, hW j hj]; have := sfw_r (zup T' 3 r (k : Int)) r j hj; omega) hi ht
    rw [e141, stell_c (w' := sfw (zup A.1 3 r (k : Int)) r) n i t (fun _ _ _ => rfl) (fun j _ hj => by rw [hW j (by omega), ec])] at k1
    have hst := stell_r (L (149 + 2 * q + 1)) (sfw (zup A.1 3 r (k : Int)) r) n i t
    refine z_iload7 19 dX6_kindsClocked_17 rfl ?_
    refine z_iconst 20 dX6_kindsClocked_19 rfl ?_
    refine z_icmp_ge 78 23 dX6_kindsClocked_20 (by decide) rfl (by omega) (by omega) (fun hz => absurd hz (by omega)) (fun h20 => ?_)
    refine z_aload0 24 dX6_kindsClocked_23 rfl ?_
    refine z_getR 27 dX6_kindsClocked_24 fl_RX6_16 (by assumption) (by assumption) rfl ?_
    refine z_getR 30 dX6_kindsClocked_27 fl_RX6_89 (by assumption) (by assumption) rfl ?_
    refine z_iload1 31 dX6_kindsClocked_30 rfl ?_
    refine z_iload7 33 dX6_kindsClocked_31 rfl ?_
    refine z_iastx 34 (r) dX6_kindsClocked_33 (by assumption) (by omega) (by omega) (zsl_up _ _ _ (i := 3) (by decide) _ _) rfl ?_
    refine z_aload0 35 dX6_kindsClocked_34 rfl ?_
    refine z_getR 38 dX6_kindsClocked_35 fl_RX6_16 (by assumption) (by assumption) rfl ?_
    refine z_iload1 39 dX6_kindsClocked_38 rfl ?_
    refine z_aload0 40 dX6_kindsClocked_39 rfl ?_
    refine z_getR 43 dX6_kindsClocked_40 fl_RX6_49 (by assumption) (by assumption) rfl ?_
    refine z_xV2 46 dX6_kindsClocked_43 lk_X6_kindsClocked_171 (hfo) rfl (Nat.le_of_ble_eq_true rfl) (Nat.le_of_ble_eq_true rfl) (by assumption) rfl rfl ?_
    refine z_pop 47 dX6_kindsClocked_46 rfl rfl ?_
    refine z_aload3 48 dX6_kindsClocked_47 rfl ?_
    refine z_iload4 50 dX6_kindsClocked_48 rfl ?_
    refine z_aload0 51 dX6_kindsClocked_50 rfl ?_
    refine z_getR 54 dX6_kindsClocked_51 fl_RX6_49 (by assumption) (by assumption) rfl ?_
    refine z_iload2 55 dX6_kindsClocked_54 rfl ?_
    refine z_iload5 57 dX6_kindsClocked_55 rfl ?_
    refine z_xV4 60 dX6_kindsClocked_57 lk_X6_kindsClocked_245 (k1) rfl (Nat.le_of_ble_eq_true rfl) (Nat.le_of_ble_eq_true rfl) (by assumption) rfl rfl ?_
    refine z_if_eq 72 63 dX6_kindsClocked_60 (by decide) rfl (by omega) (fun h60 => ?_) (fun h60 => ?_)
    · refine z_iinc7 75 dX6_kindsClocked_72 (Nat.le_of_ble_eq_true rfl) rfl rfl ?_
      refine z_goto 17 dX6_kindsClocked_75 (by decide) ?_
      first | (rw [show skc 3 A.1 r t n i (L (149 + 2 * q + 1)) (m + 1) k x = skc 3 A.1 r t n i (L (149 + 2 * q + 1)) m (k + 1) x by rw [skc, if_neg (by omega)]]; exact lp_X6_kinds h hq h5 hr h4 hi ht m (k + 1) _ W2 _ (by omega) hTi (fun v => by rw [zup_up, hv])) | (rw [show skc 3 A.1 r t n i (L (149 + 2 * q + 1)) (m + 1) k x = skc 3 A.1 r t n i (L (149 + 2 * q + 1)) m (k + 1) (zor x (zshl 1 (k : Int))) by rw [skc, if_pos (by omega)]]; exact lp_X6_kinds h hq h5 hr h4 hi ht m (k + 1) _ W2 _ (by omega) hTi (fun v => by rw [zup_up, hv]))
    · refine z_iload6 65 dX6_kindsClocked_63 rfl ?_
      refine z_iconst 66 dX6_kindsClocked_65 rfl ?_
      refine z_iload7 68 dX6_kindsClocked_66 rfl ?_
      refine z_ishl 69 dX6_kindsClocked_68 rfl ?_
      refine z_ior 70 dX6_kindsClocked_69 rfl ?_
      refine z_istore6 72 dX6_kindsClocked_70 (Nat.le_of_ble_eq_true rfl) rfl rfl ?_
      refine z_iinc7 75 dX6_kindsClocked_72 (Nat.le_of_ble_eq_true rfl) rfl rfl ?_
      refine z_goto 17 dX6_kindsClocked_75 (by decide) ?_
      first | (rw [show skc 3 A.1 r t n i (L (149 + 2 * q + 1)) (m + 1) k x = skc 3 A.1 r t n i (L (149 + 2 * q + 1)) m (k + 1) x by rw [skc, if_neg (by omega)]]; exact lp_X6_kinds h hq h5 hr h4 hi ht m (k + 1) _ W2 _ (by omega) hTi (fun v => by rw [zup_up, hv])) | (rw [show skc 3 A.1 r t n i (L (149 + 2 * q + 1)) (m + 1) k x = skc 3 A.1 r t n i (L (149 + 2 * q + 1)) m (k + 1) (zor x (zshl 1 (k : Int))) by rw [skc, if_pos (by omega)]]; exact lp_X6_kinds h hq h5 hr h4 hi ht m (k + 1) _ W2 _ (by omega) hTi (fun v => by rw [zup_up, hv]))
theorem lp_X6_heavies {T : zT} {r t n i q : Nat} (h : zCA sh R P I L A) (hq : zQe T A.1) (h5 : r < 5) (hr : (r : Int) < T 0 6) (h4 : q < 4) (hi : i + n ≤ 24) (ht : t + n ≤ 10) : ∀ (m k : Nat) (x : Int) (W : Nat → Int) (T' : zT), k + m = 21 → zSr T' → (∀ v, zup T' 4 r v = zup T 4 r v) → zE X mX6_heaviesClocked 0 0 17 [zR 0, zI (r : Int), zI (t : Int), zR (149 + 2 * q), zI (i : Int), zI (n : Int), zI x, zI (k : Int)] [] sh (zsl (zrow I 141 W) 8 T') L R (zOp sh I L R (zI (skc 4 A.1 r t n i (L (149 + 2 * q + 1)) m k x)) A)
  | 0, k, x, W, T', hk, hT, hv => by
    refine z_iload7 19 dX6_heaviesClocked_17 rfl ?_
    refine z_bipush 21 dX6_heaviesClocked_19 (by decide) rfl ?_
    refine z_icmp_gt 79 24 dX6_heaviesClocked_21 (by decide) rfl (by omega) (by omega) (fun h21 => ?_) (fun hz => absurd hz (by omega))
    refine z_iload6 81 dX6_heaviesClocked_79 rfl ?_
    exact z_ireturn dX6_heaviesClocked_81 rfl (zOp_tri h W hT rfl)
  | m + 1, k, x, W, T', hk, hT, hv => by
    obtain ⟨hC, hNow, hTri, hHis, hKep, hTap, hShe, hOrd⟩ := id h
    obtain ⟨⟨c0, c1, c2, c3, c4, c5, c6, c7, c8, c9, c10, c11⟩, ⟨n1, n8, n73⟩, ⟨hh, hpm⟩, kh, tp, ⟨shs, shk⟩, spd, o1, o2, ra⟩ := id hC
    obtain ⟨⟨s0, s1, s2, s3, s4, s5, s6⟩, r0, r1, r2, r3, r4, r5⟩ := id n1
    have n80 := n8.1.1
    have hh0 := hh.1.1
    have e6 := hNow.2.1.1
    have hn5 := hNow.1.1.1
    obtain ⟨⟨t0, t1, t2, t3, t4, t5, t6⟩, w0, w1, w2, w3, w4, w5⟩ := id n8
    have hsq := shk q h4
    have hsq0 := hsq.2.1
    have hTi : zSr (zup T' 4 r (k : Int)) := zSr_up4 hT r (by omega)
    obtain ⟨W2, hW, hfo⟩ := ct_foreW (X := X) (I := I) (L := L) (r := r) W n8 hTi h5 (Or.inr (by decide : 8 + 7 ≤ 141)) spd
    have ec : sfw (zup T' 4 r (k : Int)) r = sfw (zup A.1 4 r (k : Int)) r := by
      rw [hv]
      exact sfw_c (zQe_up hq (i := 4) (j := r) (by omega) (k : Int)) (r := r) (by rw [zup_row _ _ (by decide)]; exact hr)
    have e141 : zsl (zrow I 141 W2) 8 (zup T' 4 r (k : Int)) 141 = W2 := by rw [zsl_oR _ _ _ (by omega)]; exact funext (zrow_at I 141 W2)
    have eSh : zsl (zrow I 141 W2) 8 (zup T' 4 r (k : Int)) (149 + 2 * q) = I (149 + 2 * q) := by rw [zsl_oR _ _ _ (by omega), zrow_oR _ _ (by omega)]
    have k1 := ct_X3_tells (X := X) (I := zsl (zrow I 141 W2) 8 (zup T' 4 r (k : Int))) (L := L) (R := R) (i0 := i) (t0 := t) (n0 := n) hsq.2 (zShr_o (hShe q h4).1 eSh (hShe q h4).1.2.2) spd (fun j hj => by rw [e141, hW j hj]; have := sfw_r (zup T' 4 r (k : Int)) r j hj; omega) hi ht
    rw [e141, stell_c (w' := sfw (zup A.1 4 r (k : Int)) r) n i t (fun _ _ _ => rfl) (fun j _ hj => by rw [hW j (by omega), ec])] at k1
    have hst := stell_r (L (149 + 2 * q + 1)) (sfw (zup A.1 4 r (k : Int)) r) n i t
    refine z_iload7 19 dX6_heaviesClocked_17 rfl ?_
    refine z_bipush 21 dX6_heaviesClocked_19 (by decide) rfl ?_
    refine z_icmp_gt 79 24 dX6_heaviesClocked_21 (by decide) rfl (by omega) (by omega) (fun hz => absurd hz (by omega)) (fun h21 => ?_)
    refine z_aload0 25 dX6_heaviesClocked_24 rfl ?_
    refine z_getR 28 dX6_heaviesClocked_25 fl_RX6_16 (by assumption) (by assumption) rfl ?_
    refine z_getR 31 dX6_heaviesClocked_28 fl_RX6_92 (by assumption) (by assumption) rfl ?_
    refine z_iload1 32 dX6_heaviesClocked_31 rfl ?_
    refine z_iload7 34 dX6_heaviesClocked_32 rfl ?_
    refine z_iastx 35 (r) dX6_heaviesClocked_34 (by assumption) (by omega) (by omega) (zsl_up _ _ _ (i := 4) (by decide) _ _) rfl ?_
    refine z_aload0 36 dX6_heaviesClocked_35 rfl ?_
    refine z_getR 39 dX6_heaviesClocked_36 fl_RX6_16 (by assumption) (by assumption) rfl ?_
    refine z_iload1 40 dX6_heaviesClocked_39 rfl ?_
    refine z_aload0 41 dX6_heaviesClocked_40 rfl ?_
    refine z_getR 44 dX6_heaviesClocked_41 fl_RX6_49 (by assumption) (by assumption) rfl ?_
    refine z_xV2 47 dX6_heaviesClocked_44 lk_X6_heaviesClocked_171 (hfo) rfl (Nat.le_of_ble_eq_true rfl) (Nat.le_of_ble_eq_true rfl) (by assumption) rfl rfl ?_
    refine z_pop 48 dX6_heaviesClocked_47 rfl rfl ?_
    refine z_aload3 49 dX6_heaviesClocked_48 rfl ?_
    refine z_iload4 51 dX6_heaviesClocked_49 rfl ?_
    refine z_aload0 52 dX6_heaviesClocked_51 rfl ?_
    refine z_getR 55 dX6_heaviesClocked_52 fl_RX6_49 (by assumption) (by assumption) rfl ?_
    refine z_iload2 56 dX6_heaviesClocked_55 rfl ?_
    refine z_iload5 58 dX6_heaviesClocked_56 rfl ?_
    refine z_xV4 61 dX6_heaviesClocked_58 lk_X6_heaviesClocked_245 (k1) rfl (Nat.le_of_ble_eq_true rfl) (Nat.le_of_ble_eq_true rfl) (by assumption) rfl rfl ?_
    refine z_if_eq 73 64 dX6_heaviesClocked_61 (by decide) rfl (by omega) (fun h61 => ?_) (fun h61 => ?_)
    · refine z_iinc7 76 dX6_heaviesClocked_73 (Nat.le_of_ble_eq_true rfl) rfl rfl ?_
      refine z_goto 17 dX6_heaviesClocked_76 (by decide) ?_
      first | (rw [show skc 4 A.1 r t n i (L (149 + 2 * q + 1)) (m + 1) k x = skc 4 A.1 r t n i (L (149 + 2 * q + 1)) m (k + 1) x by rw [skc, if_neg (by omega)]]; exact lp_X6_heavies h hq h5 hr h4 hi ht m (k + 1) _ W2 _ (by omega) hTi (fun v => by rw [zup_up, hv])) | (rw [show skc 4 A.1 r t n i (L (149 + 2 * q + 1)) (m + 1) k x = skc 4 A.1 r t n i (L (149 + 2 * q + 1)) m (k + 1) (zor x (zshl 1 (k : Int))) by rw [skc, if_pos (by omega)]]; exact lp_X6_heavies h hq h5 hr h4 hi ht m (k + 1) _ W2 _ (by omega) hTi (fun v => by rw [zup_up, hv]))
    · refine z_iload6 66 dX6_heaviesClocked_64 rfl ?_
      refine z_iconst 67 dX6_heaviesClocked_66 rfl ?_
      refine z_iload7 69 dX6_heaviesClocked_67 rfl ?_
      refine z_ishl 70 dX6_heaviesClocked_69 rfl ?_
      refine z_ior 71 dX6_heaviesClocked_70 rfl ?_
      refine z_istore6 73 dX6_heaviesClocked_71 (Nat.le_of_ble_eq_true rfl) rfl rfl ?_
      refine z_iinc7 76 dX6_heaviesClocked_73 (Nat.le_of_ble_eq_true rfl) rfl rfl ?_
      refine z_goto 17 dX6_heaviesClocked_76 (by decide) ?_
      first | (rw [show skc 4 A.1 r t n i (L (149 + 2 * q + 1)) (m + 1) k x = skc 4 A.1 r t n i (L (149 + 2 * q + 1)) m (k + 1) x by rw [skc, if_neg (by omega)]]; exact lp_X6_heavies h hq h5 hr h4 hi ht m (k + 1) _ W2 _ (by omega) hTi (fun v => by rw [zup_up, hv])) | (rw [show skc 4 A.1 r t n i (L (149 + 2 * q + 1)) (m + 1) k x = skc 4 A.1 r t n i (L (149 + 2 * q + 1)) m (k + 1) (zor x (zshl 1 (k : Int))) by rw [skc, if_pos (by omega)]]; exact lp_X6_heavies h hq h5 hr h4 hi ht m (k + 1) _ W2 _ (by omega) hTi (fun v => by rw [zup_up, hv]))
theorem ct_X6_kindsClocked {v d u p q : Nat} (h : zCA sh R P I L A) (hv : (v : Int) < A.1 0 6) (h4 : q < 4) (hi : p + u ≤ 24) (ht : d + u ≤ 10) : zE X mX6_kindsClocked 0 0 0 [zR 0, zI (v : Int), zI (d : Int), zR (149 + 2 * q), zI (p : Int), zI (u : Int), zX, zX] [] sh I L R (zOp sh I L R (zI (skc 3 A.1 v d u p (A.2.2.2.2 q).2.2 5 0 0)) A) := by
  obtain ⟨hC, hNow, hTri, hHis, hKep, hTap, hShe, hOrd⟩ := id h
  obtain ⟨⟨c0, c1, c2, c3, c4, c5, c6, c7, c8, c9, c10, c11⟩, ⟨n1, n8, n73⟩, ⟨hh, hpm⟩, kh, tp, ⟨shs, shk⟩, spd, o1, o2, ra⟩ := id hC
  obtain ⟨⟨s0, s1, s2, s3, s4, s5, s6⟩, r0, r1, r2, r3, r4, r5⟩ := id n1
  have n80 := n8.1.1
  have hh0 := hh.1.1
  have e6 := hNow.2.1.1
  have hn5 := hNow.1.1.1
  obtain ⟨hT, hqq⟩ := tri_q h
  have h06 := hqq.1.1
  have hcs := hShe q h4
  have ei : ∀ j, p ≤ j → j < p + u → L (149 + 2 * q + 1) j = (A.2.2.2.2 q).2.2 j := fun j _ hj => hcs.2.2.2 j (by omega)
  rw [← skc_c (zQe.rf A.1) hv (by decide) ei 5 0 0]
  refine z_aload0 1 dX6_kindsClocked_0 rfl ?_
  refine z_getR 4 dX6_kindsClocked_1 fl_RX6_16 (by assumption) (by assumption) rfl ?_
  refine z_aload0 5 dX6_kindsClocked_4 rfl ?_
  refine z_getR 8 dX6_kindsClocked_5 fl_RX6_10 (by assumption) (by assumption) rfl ?_
  refine z_xVv1 11 dX6_kindsClocked_8 lk_X6_kindsClocked_130 (ct_trial0 hC) rfl (Nat.le_of_ble_eq_true rfl) (Nat.le_of_ble_eq_true rfl) (by assumption) rfl rfl ?_
  refine z_iconst 12 dX6_kindsClocked_11 rfl ?_
  refine z_istore6 14 dX6_kindsClocked_12 (Nat.le_of_ble_eq_true rfl) rfl rfl ?_
  refine z_iconst 15 dX6_kindsClocked_14 rfl ?_
  refine z_istore7 17 dX6_kindsClocked_15 (Nat.le_of_ble_eq_true rfl) rfl rfl ?_
  exact lp_X6_kinds h hqq (by omega) (by omega) h4 hi ht 5 0 0 _ _ rfl hT (fun _ => rfl)
theorem ct_X6_heaviesClocked {v d u p q : Nat} (h : zCA sh R P I L A) (hv : (v : Int) < A.1 0 6) (h4 : q < 4) (hi : p + u ≤ 24) (ht : d + u ≤ 10) : zE X mX6_heaviesClocked 0 0 0 [zR 0, zI (v : Int), zI (d : Int), zR (149 + 2 * q), zI (p : Int), zI (u : Int), zX, zX] [] sh I L R (zOp sh I L R (zI (skc 4 A.1 v d u p (A.2.2.2.2 q).2.2 20 1 0)) A) := by
  obtain ⟨hC, hNow, hTri, hHis, hKep, hTap, hShe, hOrd⟩ := id h
  obtain ⟨⟨c0, c1, c2, c3, c4, c5, c6, c7, c8, c9, c10, c11⟩, ⟨n1, n8, n73⟩, ⟨hh, hpm⟩, kh, tp, ⟨shs, shk⟩, spd, o1, o2, ra⟩ := id hC
  obtain ⟨⟨s0, s1, s2, s3, s4, s5, s6⟩, r0, r1, r2, r3, r4, r5⟩ := id n1
  have n80 := n8.1.1
  have hh0 := hh.1.1
  have e6 := hNow.2.1.1
  have hn5 := hNow.1.1.1
  obtain ⟨hT, hqq⟩ := tri_q h
  have h06 := hqq.1.1
  have hcs := hShe q h4
  have ei : ∀ j, p ≤ j → j < p + u → L (149 + 2 * q + 1) j = (A.2.2.2.2 q).2.2 j := fun j _ hj => hcs.2.2.2 j (by omega)
  rw [← skc_c (zQe.rf A.1) hv (by decide) ei 20 1 0]
  refine z_aload0 1 dX6_heaviesClocked_0 rfl ?_
  refine z_getR 4 dX6_heaviesClocked_1 fl_RX6_16 (by assumption) (by assumption) rfl ?_
  refine z_aload0 5 dX6_heaviesClocked_4 rfl ?_
  refine z_getR 8 dX6_heaviesClocked_5 fl_RX6_10 (by assumption) (by assumption) rfl ?_
  refine z_xVv1 11 dX6_heaviesClocked_8 lk_X6_heaviesClocked_130 (ct_trial0 hC) rfl (Nat.le_of_ble_eq_true rfl) (Nat.le_of_ble_eq_true rfl) (by assumption) rfl rfl ?_
  refine z_iconst 12 dX6_heaviesClocked_11 rfl ?_
  refine z_istore6 14 dX6_heaviesClocked_12 (Nat.le_of_ble_eq_true rfl) rfl rfl ?_
  refine z_iconst 15 dX6_heaviesClocked_14 rfl ?_
  refine z_istore7 17 dX6_heaviesClocked_15 (Nat.le_of_ble_eq_true rfl) rfl rfl ?_
  exact lp_X6_heavies h hqq (by omega) (by omega) h4 hi ht 20 1 0 _ _ rfl hT (fun _ => rfl)
theorem op_X6_clocked {r t s l i n w : Int} (h : zCA sh R P I L A) (hr : -2147483648 ≤ r ∧ r ≤ 2147483647) (ht : -2147483648 ≤ t ∧ t ≤ 2147483647) (hs : -2147483648 ≤ s ∧ s ≤ 2147483647) (hl : -2147483648 ≤ l ∧ l ≤ 2147483647) (hi : -2147483648 ≤ i ∧ i ≤ 2147483647) (hn : -2147483648 ≤ n ∧ n ≤ 2147483647) (hw : -2147483648 ≤ w ∧ w ≤ 2147483647) : zE X mX6_clocked 0 0 0 [zR 0, zI r, zI t, zI s, zI l, zI i, zI n, zI w, zX, zX] [] sh I L R (zOp sh I L R (zI (oClocked A r t s l i n w)) A) := by
  obtain ⟨hC, hNow, hTri, hHis, hKep, hTap, hShe, hOrd⟩ := id h
  obtain ⟨⟨c0, c1, c2, c3, c4, c5, c6, c7, c8, c9, c10, c11⟩, ⟨n1, n8, n73⟩, ⟨hh, hpm⟩, kh, tp, ⟨shs, shk⟩, spd, o1, o2, ra⟩ := id hC
  obtain ⟨⟨s0, s1, s2, s3, s4, s5, s6⟩, r0, r1, r2, r3, r4, r5⟩ := id n1
  have n80 := n8.1.1
  have hh0 := hh.1.1
  have e6 := hNow.2.1.1
  have hn5 := hNow.1.1.1
  obtain ⟨hT, hqq⟩ := tri_q h
  have h06 := hqq.1.1
  have z0 := zwi_r r 0 (zvw I 1 0 6 - 1)
  have z5 := zwi_r t 0 9
  have z1 := zwi_r n 1 (10 - t)
  have z2 := zwi_r s 0 3
  have z3 := zwi_r l 0 3
  have z4 := zwi_r w 0 1
  refine z_aload0 1 dX6_clocked_0 rfl ?_
  refine z_getR 4 dX6_clocked_1 fl_RX6_10 (by assumption) (by assumption) rfl ?_
  refine z_iload1 5 dX6_clocked_4 rfl ?_
  refine z_xV1 8 dX6_clocked_5 lk_X6_clocked_82 (cti_hasRider n1 hNow.1.1 hr) rfl (Nat.le_of_ble_eq_true rfl) (Nat.le_of_ble_eq_true rfl) (by assumption) rfl rfl ?_
  refine z_if_eq 56 11 dX6_clocked_8 (by decide) rfl (by omega) (fun h8 => ?_) (fun h8 => ?_)
  · have g8 := zwi_eq0 h8
    refine z_iconst 57 dX6_clocked_56 rfl ?_
    exact z_ireturn dX6_clocked_57 rfl (zOp_same h (by unfold oClocked; rw [if_neg (by omega)]))
  · have g8 := zwi_ne0 h8
    refine z_iload2 12 dX6_clocked_11 rfl ?_
    refine z_xS1 15 dX6_clocked_12 lk_X6_clocked_98 (ct_X6_isTurn (by omega)) rfl (Nat.le_of_ble_eq_true rfl) (Nat.le_of_ble_eq_true rfl) rfl ?_
    refine z_if_eq 56 18 dX6_clocked_15 (by decide) rfl (by omega) (fun h15 => ?_) (fun h15 => ?_)
    · have g15 := zwi_eq0 h15
      refine z_iconst 57 dX6_clocked_56 rfl ?_
      exact z_ireturn dX6_clocked_57 rfl (zOp_same h (by unfold oClocked; rw [if_neg (by omega)]))
    · have g15 := zwi_ne0 h15
      refine z_iload6 20 dX6_clocked_18 rfl ?_
      refine z_iconst 21 dX6_clocked_20 rfl ?_
      refine z_bipush 23 dX6_clocked_21 (by decide) rfl ?_
      refine z_iload2 24 dX6_clocked_23 rfl ?_
      refine z_isub 25 dX6_clocked_24 rfl ?_
      refine z_xS3 28 dX6_clocked_25 lk_X6_clocked_71 (ct_X6_within (by omega) (by omega) (by have := zwi_ne0 h15; omega)) rfl (Nat.le_of_ble_eq_true rfl) (Nat.le_of_ble_eq_true rfl) rfl ?_
      refine z_if_eq 56 31 dX6_clocked_28 (by decide) rfl (by omega) (fun h28 => ?_) (fun h28 => ?_)
      · have g28 := zwi_eq0 h28
        refine z_iconst 57 dX6_clocked_56 rfl ?_
        exact z_ireturn dX6_clocked_57 rfl (zOp_same h (by unfold oClocked; rw [if_neg (by omega)]))
      · have g28 := zwi_ne0 h28
        refine z_iload3 32 dX6_clocked_31 rfl ?_
        refine z_xS1 35 dX6_clocked_32 lk_X6_clocked_229 (ct_X6_isSheet (by omega)) rfl (Nat.le_of_ble_eq_true rfl) (Nat.le_of_ble_eq_true rfl) rfl ?_
        refine z_if_eq 56 38 dX6_clocked_35 (by decide) rfl (by omega) (fun h35 => ?_) (fun h35 => ?_)
        · have g35 := zwi_eq0 h35
          refine z_iconst 57 dX6_clocked_56 rfl ?_
          exact z_ireturn dX6_clocked_57 rfl (zOp_same h (by unfold oClocked; rw [if_neg (by omega)]))
        · have g35 := zwi_ne0 h35
          refine z_iload4 40 dX6_clocked_38 rfl ?_
          refine z_xS1 43 dX6_clocked_40 lk_X6_clocked_232 (ct_X6_isLane (by omega)) rfl (Nat.le_of_ble_eq_true rfl) (Nat.le_of_ble_eq_true rfl) rfl ?_
          refine z_if_eq 56 46 dX6_clocked_43 (by decide) rfl (by omega) (fun h43 => ?_) (fun h43 => ?_)
          · have g43 := zwi_eq0 h43
            refine z_iconst 57 dX6_clocked_56 rfl ?_
            exact z_ireturn dX6_clocked_57 rfl (zOp_same h (by unfold oClocked; rw [if_neg (by omega)]))
          · have g43 := zwi_ne0 h43
            refine z_iload7 48 dX6_clocked_46 rfl ?_
            refine z_iconst 49 dX6_clocked_48 rfl ?_
            refine z_iconst 50 dX6_clocked_49 rfl ?_
            refine z_xS3 53 dX6_clocked_50 lk_X6_clocked_71 (ct_X6_within (by omega) (by omega) (by omega)) rfl (Nat.le_of_ble_eq_true rfl) (Nat.le_of_ble_eq_true rfl) rfl ?_
            refine z_if_ne 58 56 dX6_clocked_53 (by decide) rfl (by omega) (fun h53 => ?_) (fun h53 => ?_)
            · have g53 := zwi_ne0 h53
              obtain ⟨q, rfl⟩ : ∃ q : Nat, s = (q : Int) := ⟨s.toNat, by omega⟩
              obtain ⟨v, rfl⟩ : ∃ q : Nat, r = (q : Int) := ⟨r.toNat, by omega⟩
              obtain ⟨u, rfl⟩ : ∃ q : Nat, n = (q : Int) := ⟨n.toNat, by omega⟩
              obtain ⟨d, rfl⟩ : ∃ q : Nat, t = (q : Int) := ⟨t.toNat, by omega⟩
              have hsq := shk q (by omega)
              have hsq0 := hsq.2.1
              have hcs := hShe q (by omega)
              have hsr := hcs.1.2.1
              have eo : oClocked A v d q l i u w = (if sref (A.2.2.2.2 q).1 (A.2.2.2.2 q).2.1 l i u = 0 then (if w = 0 then skc 3 A.1 v d u i.toNat (A.2.2.2.2 q).2.2 5 0 0 else skc 4 A.1 v d u i.toNat (A.2.2.2.2 q).2.2 20 1 0) else sref (A.2.2.2.2 q).1 (A.2.2.2.2 q).2.1 l i u) := by unfold oClocked; rw [if_pos (by omega), Int.toNat_natCast, Int.toNat_natCast, Int.toNat_natCast, Int.toNat_natCast]
              rw [eo, ← hcs.2.1, ← hcs.2.2.1]
              have hrf := ct_X3_refusal (X := X) (L := L) (ln := l) (i := i) (n := (u : Int)) hsq.2 hcs.1 (by omega) (by omega) (by omega)
              have hr0 : sref (I (149 + 2 * q) 1) (I (149 + 2 * q) 2) l i u = 0 → 0 ≤ i ∧ i + u ≤ I (149 + 2 * q) 2 := fun e => by
                unfold sref at e
                repeat' split at e
                all_goals omega
              have hr1 : -100 ≤ sref (I (149 + 2 * q) 1) (I (149 + 2 * q) 2) l i u ∧ sref (I (149 + 2 * q) 1) (I (149 + 2 * q) 2) l i u ≤ 0 := by
                unfold sref
                repeat' split
                all_goals omega
              generalize hg : sref (I (149 + 2 * q) 1) (I (149 + 2 * q) 2) l i u = g at hrf hr0 hr1 ⊢
              refine z_aload0 59 dX6_clocked_58 rfl ?_
              refine z_getR 62 dX6_clocked_59 fl_RX6_45 (by assumption) (by assumption) rfl ?_
              refine z_iload3 63 dX6_clocked_62 rfl ?_
              refine z_aald3N 64 (q) dX6_clocked_63 (by assumption) (by omega) (by omega) (hsq.1) rfl ?_
              refine z_astore8 66 dX6_clocked_64 (Nat.le_of_ble_eq_true rfl) rfl rfl ?_
              refine z_aload8 68 dX6_clocked_66 rfl ?_
              refine z_iload4 70 dX6_clocked_68 rfl ?_
              refine z_iload5 72 dX6_clocked_70 rfl ?_
              refine z_iload6 74 dX6_clocked_72 rfl ?_
              refine z_xV3 77 dX6_clocked_74 lk_X6_clocked_235 (hrf) rfl (Nat.le_of_ble_eq_true rfl) (Nat.le_of_ble_eq_true rfl) (by assumption) rfl rfl ?_
              refine z_istore9 79 dX6_clocked_77 (Nat.le_of_ble_eq_true rfl) rfl rfl ?_
              refine z_iload9 81 dX6_clocked_79 rfl ?_
              refine z_if_eq 87 84 dX6_clocked_81 (by decide) rfl (by omega) (fun h81 => ?_) (fun h81 => ?_)
              · have hi2 := hr0 (by omega)
                obtain ⟨p, rfl⟩ : ∃ p : Nat, i = (p : Int) := ⟨i.toNat, by omega⟩
                have hg0 : g = 0 := by omega
                subst hg0
                rw [if_pos rfl, Int.toNat_natCast]
                refine z_iload7 89 dX6_clocked_87 rfl ?_
                refine z_if_ne 107 92 dX6_clocked_89 (by decide) rfl (by omega) (fun h89 => ?_) (fun h89 => ?_)
                · refine z_aload0 108 dX6_clocked_107 rfl ?_
                  refine z_iload1 109 dX6_clocked_108 rfl ?_
                  refine z_iload2 110 dX6_clocked_109 rfl ?_
                  refine z_aload8 112 dX6_clocked_110 rfl ?_
                  refine z_iload5 114 dX6_clocked_112 rfl ?_
                  refine z_iload6 116 dX6_clocked_114 rfl ?_
                  refine z_pV5 119 dX6_clocked_116 lk_X6_clocked_242 (ct_X6_heaviesClocked h (by omega) (by omega) (by omega) (by omega)) rfl (Nat.le_of_ble_eq_true rfl) (Nat.le_of_ble_eq_true rfl) (by assumption) rfl rfl (fun r0 sh0 I0 L0 R0 hpq => ?_)
                  obtain ⟨q1, q2, q3⟩ := hpq
                  subst r0 sh0
                  exact z_ireturn dX6_clocked_119 rfl ((by first | (rw [if_pos (by omega)]; exact ⟨rfl, rfl, q3⟩) | (rw [if_neg (by omega)]; exact ⟨rfl, rfl, q3⟩)))
                · refine z_aload0 93 dX6_clocked_92 rfl ?_
                  refine z_iload1 94 dX6_clocked_93 rfl ?_
                  refine z_iload2 95 dX6_clocked_94 rfl ?_
                  refine z_aload8 97 dX6_clocked_95 rfl ?_
                  refine z_iload5 99 dX6_clocked_97 rfl ?_
                  refine z_iload6 101 dX6_clocked_99 rfl ?_
                  refine z_pV5 104 dX6_clocked_101 lk_X6_clocked_238 (ct_X6_kindsClocked h (by omega) (by omega) (by omega) (by omega)) rfl (Nat.le_of_ble_eq_true rfl) (Nat.le_of_ble_eq_true rfl) (by assumption) rfl rfl (fun r0 sh0 I0 L0 R0 hpq => ?_)
                  obtain ⟨q1, q2, q3⟩ := hpq
                  subst r0 sh0
                  refine z_goto 119 dX6_clocked_104 (by decide) ?_
                  exact z_ireturn dX6_clocked_119 rfl ((by first | (rw [if_pos (by omega)]; exact ⟨rfl, rfl, q3⟩) | (rw [if_neg (by omega)]; exact ⟨rfl, rfl, q3⟩)))
              · refine z_iload9 86 dX6_clocked_84 rfl ?_
                exact z_ireturn dX6_clocked_86 rfl (zOp_same h (by rw [if_neg (by omega)]))
            · have g53 := zwi_eq0 h53
              refine z_iconst 57 dX6_clocked_56 rfl ?_
              exact z_ireturn dX6_clocked_57 rfl (zOp_same h (by unfold oClocked; rw [if_neg (by omega)]))
end TOPK
