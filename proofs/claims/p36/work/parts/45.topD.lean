section TOPD
variable {X : zXs} {sh : zH} {I L : zI2} {R : zR2} {P : Nat → Nat} {A : zA}
theorem cti_become {b p : Nat} (hs : zSl sh R b) (hp : zSl sh R p) (hpb : p + 7 ≤ b ∨ b + 7 ≤ p) : zE X mX4_become 0 0 0 [zR b, zR p] [] sh I L R (zEq [] sh (zsl I b (sbc (zvw I p) (zvw I b))) L R) := by
  have h := ct_X4_become (X := X) (I := I) (L := L) (S := zvw I b) hs hp hpb
  rw [zsl_self] at h
  exact h
theorem ct_trial (hC : zCs sh R P) (W : Nat → Int) : zE X mX4_become 0 0 0 [zR 8, zR 1] [] sh (zrow I 141 W) L R (zEq [] sh (zsl (zrow I 141 W) 8 (sbc (zvw I 1) (zvw I 8))) L R) := by
  have h := cti_become (X := X) (I := zrow I 141 W) (L := L) hC.2.1.2.1 hC.2.1.1 (Or.inl (by decide))
  rw [zvw_row I (Or.inr (by decide)), zvw_row I (Or.inr (by decide))] at h
  exact h
theorem ct_trial0 (hC : zCs sh R P) : zE X mX4_become 0 0 0 [zR 8, zR 1] [] sh I L R (zEq [] sh (zsl (zrow I 141 (I 141)) 8 (sbc (zvw I 1) (zvw I 8))) L R) := by
  have h := ct_trial (X := X) (I := I) (L := L) hC (I 141)
  rw [zrow_self] at h ⊢
  exact h
theorem tri_q (h : zCA sh R P I L A) : zSr (sbc (zvw I 1) (zvw I 8)) ∧ zQe (sbc (zvw I 1) (zvw I 8)) A.1 := ⟨sbc_sr _ _ h.2.1.1.1, (sbc_q _ _ h.2.1.1.1.1.2).tr h.2.1.2⟩
theorem op_X6_waxes {r o : Int} (h : zCA sh R P I L A) (hr : -2147483648 ≤ r ∧ r ≤ 2147483647) (ho : -2147483648 ≤ o ∧ o ≤ 2147483647) : zE X mX6_waxes 0 0 0 [zR 0, zI r, zI o, zX, zX] [] sh I L R (zOp sh I L R (zI (oWaxes A r o)) A) := by
  obtain ⟨hC, hNow, hTri, hHis, hKep, hTap, hShe, hOrd⟩ := id h
  obtain ⟨⟨c0, c1, c2, c3, c4, c5, c6, c7, c8, c9, c10, c11⟩, ⟨n1, n8, n73⟩, ⟨hh, hpm⟩, kh, tp, ⟨shs, shk⟩, spd, o1, o2, ra⟩ := id hC
  obtain ⟨⟨s0, s1, s2, s3, s4, s5, s6⟩, r0, r1, r2, r3, r4, r5⟩ := id n1
  have n80 := n8.1.1
  have hh0 := hh.1.1
  have e6 := hNow.2.1.1
  have hn5 := hNow.1.1.1
  have z1 := zwi_r r 0 (zvw I 1 0 6 - 1)
  have z2 := zwi_r o 0 7
  obtain ⟨hT, hq⟩ := tri_q h
  have h06 := hq.1.1
  refine z_aload0 1 dX6_waxes_0 rfl ?_
  refine z_getR 4 dX6_waxes_1 fl_RX6_10 (by assumption) (by assumption) rfl ?_
  refine z_iload1 5 dX6_waxes_4 rfl ?_
  refine z_xV1 8 dX6_waxes_5 lk_X6_waxes_82 (cti_hasRider n1 hNow.1.1 hr) rfl (Nat.le_of_ble_eq_true rfl) (Nat.le_of_ble_eq_true rfl) (by assumption) rfl rfl ?_
  refine z_if_eq 18 11 dX6_waxes_8 (by decide) rfl (by omega) (fun h8 => ?_) (fun h8 => ?_)
  · have g8 := zwi_eq0 h8
    refine z_iconst 19 dX6_waxes_18 rfl ?_
    exact z_ireturn dX6_waxes_19 rfl (zOp_same h (by unfold oWaxes; rw [if_neg (by omega)]))
  · have g8 := zwi_ne0 h8
    refine z_iload2 12 dX6_waxes_11 rfl ?_
    refine z_xS1 15 dX6_waxes_12 lk_X6_waxes_177 (ct_X6_isOutcome (by omega)) rfl (Nat.le_of_ble_eq_true rfl) (Nat.le_of_ble_eq_true rfl) rfl ?_
    refine z_if_ne 20 18 dX6_waxes_15 (by decide) rfl (by omega) (fun h15 => ?_) (fun h15 => ?_)
    · have g15 := zwi_ne0 h15
      obtain ⟨q, rfl⟩ : ∃ q : Nat, r = (q : Int) := ⟨r.toNat, by omega⟩
      obtain ⟨W, hW, hfo⟩ := cti_fore (X := X) (I := I) (L := L) (r := q) n1 hNow.1.1 (by omega) (Or.inr (by decide : 1 + 7 ≤ 141)) spd
      have hsf := sfe_r (zvw I 1) q hNow.1.1 (by omega)
      rw [sfe_c hNow.2 (by omega)] at hfo hsf
      have eo : oWaxes A q o = (if sfe A.1 q = o then 100 else swx A.1 q o 10 0) := by unfold oWaxes; rw [if_pos (by omega), Int.toNat_natCast]
      rw [eo]
      refine z_aload0 21 dX6_waxes_20 rfl ?_
      refine z_getR 24 dX6_waxes_21 fl_RX6_10 (by assumption) (by assumption) rfl ?_
      refine z_iload1 25 dX6_waxes_24 rfl ?_
      refine z_aload0 26 dX6_waxes_25 rfl ?_
      refine z_getR 29 dX6_waxes_26 fl_RX6_49 (by assumption) (by assumption) rfl ?_
      refine z_xV2 32 dX6_waxes_29 lk_X6_waxes_171 (hfo) rfl (Nat.le_of_ble_eq_true rfl) (Nat.le_of_ble_eq_true rfl) (by assumption) rfl rfl ?_
      refine z_iload2 33 dX6_waxes_32 rfl ?_
      refine z_icmp_ne 39 36 dX6_waxes_33 (by decide) rfl (by omega) (by omega) (fun h33 => ?_) (fun h33 => ?_)
      · refine z_aload0 40 dX6_waxes_39 rfl ?_
        refine z_getR 43 dX6_waxes_40 fl_RX6_16 (by assumption) (by assumption) rfl ?_
        refine z_aload0 44 dX6_waxes_43 rfl ?_
        refine z_getR 47 dX6_waxes_44 fl_RX6_10 (by assumption) (by assumption) rfl ?_
        refine z_xVv1 50 dX6_waxes_47 lk_X6_waxes_130 (ct_trial hC W) rfl (Nat.le_of_ble_eq_true rfl) (Nat.le_of_ble_eq_true rfl) (by assumption) rfl rfl ?_
        refine z_iconst 51 dX6_waxes_50 rfl ?_
        refine z_istore3 52 dX6_waxes_51 (Nat.le_of_ble_eq_true rfl) rfl rfl ?_
        rw [if_neg (by omega)]
        exact lp_X6_waxes h hT hq (by omega) (by omega) (by omega) 10 0 W _ rfl
      · refine z_bipush 38 dX6_waxes_36 (by decide) rfl ?_
        exact z_ireturn dX6_waxes_38 rfl (zOp_row h W (by rw [if_pos (by omega)]))
    · have g15 := zwi_eq0 h15
      refine z_iconst 19 dX6_waxes_18 rfl ?_
      exact z_ireturn dX6_waxes_19 rfl (zOp_same h (by unfold oWaxes; rw [if_neg (by omega)]))
theorem lp_X6_may {T : zT} {r t : Nat} (h : zCA sh R P I L A) (hq : zQe T A.1) (h5 : r < 5) (hr : (r : Int) < T 0 6) (ht : t < 10) : ∀ (m i : Nat) (x : Int) (W : Nat → Int) (T' : zT) (y : zV), i + m = 10 → zSr T' → (∀ v, zup T' 1 t v = zup T 1 t v) → zE X mX6_may 0 0 36 [zR 0, zI r, zI t, zI x, zI (i : Int), y] [] sh (zsl (zrow I 141 W) 8 T') L R (zOp sh I L R (zI (smy A.1 r t m i x)) A)
  | 0, i, x, W, T', y, hi, hT, hv => by
    refine z_iload4 38 dX6_may_36 rfl ?_
    refine z_bipush 40 dX6_may_38 (by decide) rfl ?_
    refine z_icmp_gt 89 43 dX6_may_40 (by decide) rfl (by omega) (by omega) (fun h40 => ?_) (fun hz => absurd hz (by omega))
    refine z_iload3 90 dX6_may_89 rfl ?_
    exact z_ireturn dX6_may_90 rfl (zOp_tri h W hT rfl)
  | m + 1, i, x, W, T', y, hi, hT, hv => by
    obtain ⟨hC, hNow, hTri, hHis, hKep, hTap, hShe, hOrd⟩ := id h
    obtain ⟨⟨c0, c1, c2, c3, c4, c5, c6, c7, c8, c9, c10, c11⟩, ⟨n1, n8, n73⟩, ⟨hh, hpm⟩, kh, tp, ⟨shs, shk⟩, spd, o1, o2, ra⟩ := id hC
    obtain ⟨⟨s0, s1, s2, s3, s4, s5, s6⟩, r0, r1, r2, r3, r4, r5⟩ := id n1
    have n80 := n8.1.1
    have hh0 := hh.1.1
    have e6 := hNow.2.1.1
    have hn5 := hNow.1.1.1
    obtain ⟨⟨t0, t1, t2, t3, t4, t5, t6⟩, w0, w1, w2, w3, w4, w5⟩ := id n8
    have hTi : zSr (zup T' 1 t (i : Int)) := zSr_up1 hT t (by omega)
    obtain ⟨W2, hW, hfo⟩ := ct_foreW (X := X) (I := I) (L := L) (r := r) W n8 hTi h5 (Or.inr (by decide : 8 + 7 ≤ 141)) spd
    have hsf := sfe_r (zup T' 1 t (i : Int)) r hTi h5
    have ec : sfe (zup T' 1 t (i : Int)) r = sfe (zup A.1 1 t (i : Int)) r := by
      rw [hv]
      exact sfe_c (zQe_up hq (i := 1) (j := t) (by omega) (i : Int)) (r := r) (by rw [zup_row _ _ (by decide)]; exact hr)
    rw [ec] at hfo hsf
    have z1 := zwi_r (sfe (zup A.1 1 t (i : Int)) r) 0 7
    refine z_iload4 38 dX6_may_36 rfl ?_
    refine z_bipush 40 dX6_may_38 (by decide) rfl ?_
    refine z_icmp_gt 89 43 dX6_may_40 (by decide) rfl (by omega) (by omega) (fun hz => absurd hz (by omega)) (fun h40 => ?_)
    refine z_aload0 44 dX6_may_43 rfl ?_
    refine z_getR 47 dX6_may_44 fl_RX6_16 (by assumption) (by assumption) rfl ?_
    refine z_getR 50 dX6_may_47 fl_RX6_101 (by assumption) (by assumption) rfl ?_
    refine z_iload2 51 dX6_may_50 rfl ?_
    refine z_iload4 53 dX6_may_51 rfl ?_
    refine z_iastx 54 (t) dX6_may_53 (by assumption) (by omega) (by omega) (zsl_up _ _ _ (i := 1) (by decide) _ _) rfl ?_
    refine z_aload0 55 dX6_may_54 rfl ?_
    refine z_getR 58 dX6_may_55 fl_RX6_16 (by assumption) (by assumption) rfl ?_
    refine z_iload1 59 dX6_may_58 rfl ?_
    refine z_aload0 60 dX6_may_59 rfl ?_
    refine z_getR 63 dX6_may_60 fl_RX6_49 (by assumption) (by assumption) rfl ?_
    refine z_xV2 66 dX6_may_63 lk_X6_may_171 (hfo) rfl (Nat.le_of_ble_eq_true rfl) (Nat.le_of_ble_eq_true rfl) (by assumption) rfl rfl ?_
    refine z_istore5 68 dX6_may_66 (Nat.le_of_ble_eq_true rfl) rfl rfl ?_
    refine z_iload5 70 dX6_may_68 rfl ?_
    refine z_xS1 73 dX6_may_70 lk_X6_may_177 (ct_X6_isOutcome (by omega)) rfl (Nat.le_of_ble_eq_true rfl) (Nat.le_of_ble_eq_true rfl) rfl ?_
    refine z_if_eq 83 76 dX6_may_73 (by decide) rfl (by omega) (fun h73 => ?_) (fun h73 => ?_)
    · have g := zwi_eq0 h73
      refine z_iinc4 86 dX6_may_83 (Nat.le_of_ble_eq_true rfl) rfl rfl ?_
      refine z_goto 36 dX6_may_86 (by decide) ?_
      first | (rw [show smy A.1 r t (m + 1) i x = smy A.1 r t m (i + 1) x by rw [smy, if_neg (by omega)]]; exact lp_X6_may h hq h5 hr ht m (i + 1) _ W2 _ _ (by omega) hTi (fun v => by rw [zup_up, hv])) | (rw [show smy A.1 r t (m + 1) i x = smy A.1 r t m (i + 1) (zor x (zshl 1 (sfe (zup A.1 1 t (i : Int)) r))) by rw [smy, if_pos (by omega)]]; exact lp_X6_may h hq h5 hr ht m (i + 1) _ W2 _ _ (by omega) hTi (fun v => by rw [zup_up, hv]))
    · have g := zwi_ne0 h73
      refine z_iload3 77 dX6_may_76 rfl ?_
      refine z_iconst 78 dX6_may_77 rfl ?_
      refine z_iload5 80 dX6_may_78 rfl ?_
      refine z_ishl 81 dX6_may_80 rfl ?_
      refine z_ior 82 dX6_may_81 rfl ?_
      refine z_istore3 83 dX6_may_82 (Nat.le_of_ble_eq_true rfl) rfl rfl ?_
      refine z_iinc4 86 dX6_may_83 (Nat.le_of_ble_eq_true rfl) rfl rfl ?_
      refine z_goto 36 dX6_may_86 (by decide) ?_
      first | (rw [show smy A.1 r t (m + 1) i x = smy A.1 r t m (i + 1) x by rw [smy, if_neg (by omega)]]; exact lp_X6_may h hq h5 hr ht m (i + 1) _ W2 _ _ (by omega) hTi (fun v => by rw [zup_up, hv])) | (rw [show smy A.1 r t (m + 1) i x = smy A.1 r t m (i + 1) (zor x (zshl 1 (sfe (zup A.1 1 t (i : Int)) r))) by rw [smy, if_pos (by omega)]]; exact lp_X6_may h hq h5 hr ht m (i + 1) _ W2 _ _ (by omega) hTi (fun v => by rw [zup_up, hv]))
theorem op_X6_may {r t : Int} (h : zCA sh R P I L A) (hr : -2147483648 ≤ r ∧ r ≤ 2147483647) (ht : -2147483648 ≤ t ∧ t ≤ 2147483647) : zE X mX6_may 0 0 0 [zR 0, zI r, zI t, zX, zX, zX] [] sh I L R (zOp sh I L R (zI (oMay A r t)) A) := by
  obtain ⟨hC, hNow, hTri, hHis, hKep, hTap, hShe, hOrd⟩ := id h
  obtain ⟨⟨c0, c1, c2, c3, c4, c5, c6, c7, c8, c9, c10, c11⟩, ⟨n1, n8, n73⟩, ⟨hh, hpm⟩, kh, tp, ⟨shs, shk⟩, spd, o1, o2, ra⟩ := id hC
  obtain ⟨⟨s0, s1, s2, s3, s4, s5, s6⟩, r0, r1, r2, r3, r4, r5⟩ := id n1
  have n80 := n8.1.1
  have hh0 := hh.1.1
  have e6 := hNow.2.1.1
  have hn5 := hNow.1.1.1
  have z1 := zwi_r r 0 (zvw I 1 0 6 - 1)
  have z2 := zwi_r t 0 9
  obtain ⟨hT, hq⟩ := tri_q h
  have h06 := hq.1.1
  refine z_aload0 1 dX6_may_0 rfl ?_
  refine z_getR 4 dX6_may_1 fl_RX6_10 (by assumption) (by assumption) rfl ?_
  refine z_iload1 5 dX6_may_4 rfl ?_
  refine z_xV1 8 dX6_may_5 lk_X6_may_82 (cti_hasRider n1 hNow.1.1 hr) rfl (Nat.le_of_ble_eq_true rfl) (Nat.le_of_ble_eq_true rfl) (by assumption) rfl rfl ?_
  refine z_if_eq 18 11 dX6_may_8 (by decide) rfl (by omega) (fun h8 => ?_) (fun h8 => ?_)
  · have g8 := zwi_eq0 h8
    refine z_iconst 19 dX6_may_18 rfl ?_
    exact z_ireturn dX6_may_19 rfl (zOp_same h (by unfold oMay; rw [if_neg (by omega)]))
  · have g8 := zwi_ne0 h8
    refine z_iload2 12 dX6_may_11 rfl ?_
    refine z_xS1 15 dX6_may_12 lk_X6_may_98 (ct_X6_isTurn (by omega)) rfl (Nat.le_of_ble_eq_true rfl) (Nat.le_of_ble_eq_true rfl) rfl ?_
    refine z_if_ne 20 18 dX6_may_15 (by decide) rfl (by omega) (fun h15 => ?_) (fun h15 => ?_)
    · have g15 := zwi_ne0 h15
      obtain ⟨q, rfl⟩ : ∃ q : Nat, r = (q : Int) := ⟨r.toNat, by omega⟩
      obtain ⟨p, rfl⟩ : ∃ q : Nat, t = (q : Int) := ⟨t.toNat, by omega⟩
      refine z_aload0 21 dX6_may_20 rfl ?_
      refine z_getR 24 dX6_may_21 fl_RX6_16 (by assumption) (by assumption) rfl ?_
      refine z_aload0 25 dX6_may_24 rfl ?_
      refine z_getR 28 dX6_may_25 fl_RX6_10 (by assumption) (by assumption) rfl ?_
      refine z_xVv1 31 dX6_may_28 lk_X6_may_130 (ct_trial0 hC) rfl (Nat.le_of_ble_eq_true rfl) (Nat.le_of_ble_eq_true rfl) (by assumption) rfl rfl ?_
      refine z_iconst 32 dX6_may_31 rfl ?_
      refine z_istore3 33 dX6_may_32 (Nat.le_of_ble_eq_true rfl) rfl rfl ?_
      refine z_iconst 34 dX6_may_33 rfl ?_
      refine z_istore4 36 dX6_may_34 (Nat.le_of_ble_eq_true rfl) rfl rfl ?_
      rw [show oMay A q p = smy A.1 q p 10 0 0 by unfold oMay; rw [if_pos (by omega), Int.toNat_natCast, Int.toNat_natCast]]
      exact lp_X6_may h hq (by omega) (by omega) (by omega) 10 0 0 _ _ _ rfl hT (fun _ => rfl)
    · have g15 := zwi_eq0 h15
      refine z_iconst 19 dX6_may_18 rfl ?_
      exact z_ireturn dX6_may_19 rfl (zOp_same h (by unfold oMay; rw [if_neg (by omega)]))
theorem lp_X6_weight {T : zT} {r : Nat} (h : zCA sh R P I L A) (hq : zQe T A.1) (h5 : r < 5) (hr : (r : Int) < T 0 6) : ∀ (m i : Nat) (W : Nat → Int) (T' : zT), i + m = 21 → zSr T' → (∀ v, zup T' 4 r v = zup T 4 r v) → zE X mX6_weight 0 0 26 [zR 0, zI r, zI (i : Int)] [] sh (zsl (zrow I 141 W) 8 T') L R (zOp sh I L R (zI (swg A.1 r m i)) A)
  | 0, i, W, T', hi, hT, hv => by
    refine z_iload2 27 dX6_weight_26 rfl ?_
    refine z_bipush 29 dX6_weight_27 (by decide) rfl ?_
    refine z_icmp_gt 68 32 dX6_weight_29 (by decide) rfl (by omega) (by omega) (fun h29 => ?_) (fun hz => absurd hz (by omega))
    refine z_bipush 70 dX6_weight_68 (by decide) rfl ?_
    exact z_ireturn dX6_weight_70 rfl (zOp_tri h W hT rfl)
  | m + 1, i, W, T', hi, hT, hv => by
    obtain ⟨hC, hNow, hTri, hHis, hKep, hTap, hShe, hOrd⟩ := id h
    obtain ⟨⟨c0, c1, c2, c3, c4, c5, c6, c7, c8, c9, c10, c11⟩, ⟨n1, n8, n73⟩, ⟨hh, hpm⟩, kh, tp, ⟨shs, shk⟩, spd, o1, o2, ra⟩ := id hC
    obtain ⟨⟨s0, s1, s2, s3, s4, s5, s6⟩, r0, r1, r2, r3, r4, r5⟩ := id n1
    have n80 := n8.1.1
    have hh0 := hh.1.1
    have e6 := hNow.2.1.1
    have hn5 := hNow.1.1.1
    obtain ⟨⟨t0, t1, t2, t3, t4, t5, t6⟩, w0, w1, w2, w3, w4, w5⟩ := id n8
    have hTi : zSr (zup T' 4 r (i : Int)) := zSr_up4 hT r (by omega)
    obtain ⟨W2, hW, hfo⟩ := ct_foreW (X := X) (I := I) (L := L) (r := r) W n8 hTi h5 (Or.inr (by decide : 8 + 7 ≤ 141)) spd
    have hsf := sfe_r (zup T' 4 r (i : Int)) r hTi h5
    have ec : sfe (zup T' 4 r (i : Int)) r = sfe (zup A.1 4 r (i : Int)) r := by
      rw [hv]
      exact sfe_c (zQe_up hq (i := 4) (j := r) (by omega) (i : Int)) (r := r) (by rw [zup_row _ _ (by decide)]; exact hr)
    rw [ec] at hfo hsf
    have z1 := zwi_r (sfe (zup A.1 4 r (i : Int)) r) 0 7
    refine z_iload2 27 dX6_weight_26 rfl ?_
    refine z_bipush 29 dX6_weight_27 (by decide) rfl ?_
    refine z_icmp_gt 68 32 dX6_weight_29 (by decide) rfl (by omega) (by omega) (fun hz => absurd hz (by omega)) (fun h29 => ?_)
    refine z_aload0 33 dX6_weight_32 rfl ?_
    refine z_getR 36 dX6_weight_33 fl_RX6_16 (by assumption) (by assumption) rfl ?_
    refine z_getR 39 dX6_weight_36 fl_RX6_92 (by assumption) (by assumption) rfl ?_
    refine z_iload1 40 dX6_weight_39 rfl ?_
    refine z_iload2 41 dX6_weight_40 rfl ?_
    refine z_iastx 42 (r) dX6_weight_41 (by assumption) (by omega) (by omega) (zsl_up _ _ _ (i := 4) (by decide) _ _) rfl ?_
    refine z_aload0 43 dX6_weight_42 rfl ?_
    refine z_getR 46 dX6_weight_43 fl_RX6_16 (by assumption) (by assumption) rfl ?_
    refine z_iload1 47 dX6_weight_46 rfl ?_
    refine z_aload0 48 dX6_weight_47 rfl ?_
    refine z_getR 51 dX6_weight_48 fl_RX6_49 (by assumption) (by assumption) rfl ?_
    refine z_xV2 54 dX6_weight_51 lk_X6_weight_171 (hfo) rfl (Nat.le_of_ble_eq_true rfl) (Nat.le_of_ble_eq_true rfl) (by assumption) rfl rfl ?_
    refine z_xS1 57 dX6_weight_54 lk_X6_weight_177 (ct_X6_isOutcome (by omega)) rfl (Nat.le_of_ble_eq_true rfl) (Nat.le_of_ble_eq_true rfl) rfl ?_
    refine z_if_eq 62 60 dX6_weight_57 (by decide) rfl (by omega) (fun h57 => ?_) (fun h57 => ?_)
    · have g := zwi_eq0 h57
      refine z_iinc2 65 dX6_weight_62 (Nat.le_of_ble_eq_true rfl) rfl rfl ?_
      refine z_goto 26 dX6_weight_65 (by decide) ?_
      rw [show swg A.1 r (m + 1) i = swg A.1 r m (i + 1) by rw [swg, if_neg (by omega)]]
      exact lp_X6_weight h hq h5 hr m (i + 1) W2 _ (by omega) hTi (fun v => by rw [zup_up, hv])
    · have g := zwi_ne0 h57
      refine z_iload2 61 dX6_weight_60 rfl ?_
      exact z_ireturn dX6_weight_61 rfl (zOp_tri h W2 hTi (by rw [swg, if_pos (by omega)]))
theorem op_X6_weight {r : Int} (h : zCA sh R P I L A) (hr : -2147483648 ≤ r ∧ r ≤ 2147483647) : zE X mX6_weight 0 0 0 [zR 0, zI r, zX] [] sh I L R (zOp sh I L R (zI (oWeight A r)) A) := by
  obtain ⟨hC, hNow, hTri, hHis, hKep, hTap, hShe, hOrd⟩ := id h
  obtain ⟨⟨c0, c1, c2, c3, c4, c5, c6, c7, c8, c9, c10, c11⟩, ⟨n1, n8, n73⟩, ⟨hh, hpm⟩, kh, tp, ⟨shs, shk⟩, spd, o1, o2, ra⟩ := id hC
  obtain ⟨⟨s0, s1, s2, s3, s4, s5, s6⟩, r0, r1, r2, r3, r4, r5⟩ := id n1
  have n80 := n8.1.1
  have hh0 := hh.1.1
  have e6 := hNow.2.1.1
  have hn5 := hNow.1.1.1
  have z1 := zwi_r r 0 (zvw I 1 0 6 - 1)
  obtain ⟨hT, hq⟩ := tri_q h
  have h06 := hq.1.1
  refine z_aload0 1 dX6_weight_0 rfl ?_
  refine z_getR 4 dX6_weight_1 fl_RX6_10 (by assumption) (by assumption) rfl ?_
  refine z_iload1 5 dX6_weight_4 rfl ?_
  refine z_xV1 8 dX6_weight_5 lk_X6_weight_82 (cti_hasRider n1 hNow.1.1 hr) rfl (Nat.le_of_ble_eq_true rfl) (Nat.le_of_ble_eq_true rfl) (by assumption) rfl rfl ?_
  refine z_if_ne 13 11 dX6_weight_8 (by decide) rfl (by omega) (fun h8 => ?_) (fun h8 => ?_)
  · have g8 := zwi_ne0 h8
    obtain ⟨q, rfl⟩ : ∃ q : Nat, r = (q : Int) := ⟨r.toNat, by omega⟩
    refine z_aload0 14 dX6_weight_13 rfl ?_
    refine z_getR 17 dX6_weight_14 fl_RX6_16 (by assumption) (by assumption) rfl ?_
    refine z_aload0 18 dX6_weight_17 rfl ?_
    refine z_getR 21 dX6_weight_18 fl_RX6_10 (by assumption) (by assumption) rfl ?_
    refine z_xVv1 24 dX6_weight_21 lk_X6_weight_130 (ct_trial0 hC) rfl (Nat.le_of_ble_eq_true rfl) (Nat.le_of_ble_eq_true rfl) (by assumption) rfl rfl ?_
    refine z_iconst 25 dX6_weight_24 rfl ?_
    refine z_istore2 26 dX6_weight_25 (Nat.le_of_ble_eq_true rfl) rfl rfl ?_
    rw [show oWeight A q = swg A.1 q 20 1 by unfold oWeight; rw [if_pos (by omega), Int.toNat_natCast]]
    exact lp_X6_weight h hq (by omega) (by omega) 20 1 _ _ rfl hT (fun _ => rfl)
  · have g8 := zwi_eq0 h8
    refine z_iconst 12 dX6_weight_11 rfl ?_
    exact z_ireturn dX6_weight_12 rfl (zOp_same h (by unfold oWeight; rw [if_neg (by omega)]))
theorem lp_X6_throughWithoutBump {T T' : zT} {t : Nat} {old : Int} (hC : zCs sh R P) (hT : zSr T') (ht : t < 10) (hv : zup T' 2 t old = T) : ∀ (m i x : Nat) (W : Nat → Int), i + m = (T' 0 6).toNat → x ≤ i → zE X mX6_throughWithoutBump 0 0 25 [zR 0, zI (t : Int), zI old, zI (x : Int), zI (i : Int)] [] sh (zsl (zrow I 141 W) 8 T') L R (zTq sh I L R T (scn T' m i x))
  | 0, i, x, W, hi, hx => by
    obtain ⟨⟨c0, c1, c2, c3, c4, c5, c6, c7, c8, c9, c10, c11⟩, ⟨n1, n8, n73⟩, ⟨hh, hpm⟩, kh, tp, ⟨shs, shk⟩, spd, o1, o2, ra⟩ := id hC
    obtain ⟨⟨s0, s1, s2, s3, s4, s5, s6⟩, r0, r1, r2, r3, r4, r5⟩ := id n8
    have h06 := hT.1
    refine z_iload4 27 dX6_throughWithoutBump_25 rfl ?_
    refine z_aload0 28 dX6_throughWithoutBump_27 rfl ?_
    refine z_getR 31 dX6_throughWithoutBump_28 fl_RX6_16 (by assumption) (by assumption) rfl ?_
    refine z_getIx 34 dX6_throughWithoutBump_31 fl_RX6_134 (by assumption) (zsl_0 _ _ _ _) rfl ?_
    refine z_icmp_ge 65 37 dX6_throughWithoutBump_34 (by decide) rfl (by omega) (by omega) (fun h34 => ?_) (fun hz => absurd hz (by omega))
    refine z_aload0 66 dX6_throughWithoutBump_65 rfl ?_
    refine z_getR 69 dX6_throughWithoutBump_66 fl_RX6_16 (by assumption) (by assumption) rfl ?_
    refine z_getR 72 dX6_throughWithoutBump_69 fl_RX6_104 (by assumption) (by assumption) rfl ?_
    refine z_iload1 73 dX6_throughWithoutBump_72 rfl ?_
    refine z_iload2 74 dX6_throughWithoutBump_73 rfl ?_
    refine z_iastx 75 (t) dX6_throughWithoutBump_74 (by assumption) (by omega) (by omega) ((zsl_up _ _ _ (i := 2) (by decide) _ _).trans (congrArg (zsl _ _) hv)) rfl ?_
    refine z_iload3 76 dX6_throughWithoutBump_75 rfl ?_
    exact z_ireturn dX6_throughWithoutBump_76 rfl (⟨rfl, rfl, ⟨W, rfl⟩, rfl, rfl⟩)
  | m + 1, i, x, W, hi, hx => by
    obtain ⟨⟨c0, c1, c2, c3, c4, c5, c6, c7, c8, c9, c10, c11⟩, ⟨n1, n8, n73⟩, ⟨hh, hpm⟩, kh, tp, ⟨shs, shk⟩, spd, o1, o2, ra⟩ := id hC
    obtain ⟨⟨s0, s1, s2, s3, s4, s5, s6⟩, r0, r1, r2, r3, r4, r5⟩ := id n8
    have h06 := hT.1
    obtain ⟨W2, hW, hfo⟩ := ct_foreW (X := X) (I := I) (L := L) (r := i) W n8 hT (by omega) (Or.inr (by decide : 8 + 7 ≤ 141)) spd
    have hsf := sfe_r T' i hT (by omega)
    have z1 := zwi_r (sfe T' i) 0 7
    refine z_iload4 27 dX6_throughWithoutBump_25 rfl ?_
    refine z_aload0 28 dX6_throughWithoutBump_27 rfl ?_
    refine z_getR 31 dX6_throughWithoutBump_28 fl_RX6_16 (by assumption) (by assumption) rfl ?_
    refine z_getIx 34 dX6_throughWithoutBump_31 fl_RX6_134 (by assumption) (zsl_0 _ _ _ _) rfl ?_
    refine z_icmp_ge 65 37 dX6_throughWithoutBump_34 (by decide) rfl (by omega) (by omega) (fun hz => absurd hz (by omega)) (fun h34 => ?_)
    refine z_aload0 38 dX6_throughWithoutBump_37 rfl ?_
    refine z_getR 41 dX6_throughWithoutBump_38 fl_RX6_16 (by assumption) (by assumption) rfl ?_
    refine z_iload4 43 dX6_throughWithoutBump_41 rfl ?_
    refine z_aload0 44 dX6_throughWithoutBump_43 rfl ?_
    refine z_getR 47 dX6_throughWithoutBump_44 fl_RX6_49 (by assumption) (by assumption) rfl ?_
    refine z_xV2 50 dX6_throughWithoutBump_47 lk_X6_throughWithoutBump_171 (hfo) rfl (Nat.le_of_ble_eq_true rfl) (Nat.le_of_ble_eq_true rfl) (by assumption) rfl rfl ?_
    refine z_xS1 53 dX6_throughWithoutBump_50 lk_X6_throughWithoutBump_177 (ct_X6_isOutcome (by omega)) rfl (Nat.le_of_ble_eq_true rfl) (Nat.le_of_ble_eq_true rfl) rfl ?_
    refine z_if_eq 59 56 dX6_throughWithoutBump_53 (by decide) rfl (by omega) (fun h53 => ?_) (fun h53 => ?_)
    · have g := zwi_eq0 h53
      refine z_iinc4 62 dX6_throughWithoutBump_59 (Nat.le_of_ble_eq_true rfl) rfl rfl ?_
      refine z_goto 25 dX6_throughWithoutBump_62 (by decide) ?_
      first | (rw [show scn T' (m + 1) i x = scn T' m (i + 1) x by rw [scn, if_neg (by omega)]]; exact lp_X6_throughWithoutBump hC hT ht hv m (i + 1) x W2 (by omega) (by omega)) | (rw [show scn T' (m + 1) i x = scn T' m (i + 1) (x + 1) by rw [scn, if_pos (by omega)]]; exact lp_X6_throughWithoutBump hC hT ht hv m (i + 1) (x + 1) W2 (by omega) (by omega))
    · have g := zwi_ne0 h53
      refine z_iinc3 59 dX6_throughWithoutBump_56 (Nat.le_of_ble_eq_true rfl) rfl rfl ?_
      refine z_iinc4 62 dX6_throughWithoutBump_59 (Nat.le_of_ble_eq_true rfl) rfl rfl ?_
      refine z_goto 25 dX6_throughWithoutBump_62 (by decide) ?_
      first | (rw [show scn T' (m + 1) i x = scn T' m (i + 1) x by rw [scn, if_neg (by omega)]]; exact lp_X6_throughWithoutBump hC hT ht hv m (i + 1) x W2 (by omega) (by omega)) | (rw [show scn T' (m + 1) i x = scn T' m (i + 1) (x + 1) by rw [scn, if_pos (by omega)]]; exact lp_X6_throughWithoutBump hC hT ht hv m (i + 1) (x + 1) W2 (by omega) (by omega))
theorem ct_X6_throughWithoutBump {T : zT} {t : Nat} (hC : zCs sh R P) (hT : zSr T) (ht : t < 10) (W : Nat → Int) : zE X mX6_throughWithoutBump 0 0 0 [zR 0, zI (t : Int), zX, zX, zX] [] sh (zsl (zrow I 141 W) 8 T) L R (zTq sh I L R T (scn (zup T 2 t 0) (T 0 6).toNat 0 0)) := by
  obtain ⟨⟨c0, c1, c2, c3, c4, c5, c6, c7, c8, c9, c10, c11⟩, ⟨n1, n8, n73⟩, ⟨hh, hpm⟩, kh, tp, ⟨shs, shk⟩, spd, o1, o2, ra⟩ := id hC
  obtain ⟨⟨s0, s1, s2, s3, s4, s5, s6⟩, r0, r1, r2, r3, r4, r5⟩ := id n8
  refine z_aload0 1 dX6_throughWithoutBump_0 rfl ?_
  refine z_getR 4 dX6_throughWithoutBump_1 fl_RX6_16 (by assumption) (by assumption) rfl ?_
  refine z_getR 7 dX6_throughWithoutBump_4 fl_RX6_104 (by assumption) (by assumption) rfl ?_
  refine z_iload1 8 dX6_throughWithoutBump_7 rfl ?_
  refine z_ialdx 9 (t) dX6_throughWithoutBump_8 (by assumption) (by omega) (by omega) (zsl_r _ _ _ (i := 2) (by decide) _) rfl ?_
  refine z_istore2 10 dX6_throughWithoutBump_9 (Nat.le_of_ble_eq_true rfl) rfl rfl ?_
  refine z_aload0 11 dX6_throughWithoutBump_10 rfl ?_
  refine z_getR 14 dX6_throughWithoutBump_11 fl_RX6_16 (by assumption) (by assumption) rfl ?_
  refine z_getR 17 dX6_throughWithoutBump_14 fl_RX6_104 (by assumption) (by assumption) rfl ?_
  refine z_iload1 18 dX6_throughWithoutBump_17 rfl ?_
  refine z_iconst 19 dX6_throughWithoutBump_18 rfl ?_
  refine z_iastx 20 (t) dX6_throughWithoutBump_19 (by assumption) (by omega) (by omega) (zsl_up _ _ _ (i := 2) (by decide) _ _) rfl ?_
  refine z_iconst 21 dX6_throughWithoutBump_20 rfl ?_
  refine z_istore3 22 dX6_throughWithoutBump_21 (Nat.le_of_ble_eq_true rfl) rfl rfl ?_
  refine z_iconst 23 dX6_throughWithoutBump_22 rfl ?_
  refine z_istore4 25 dX6_throughWithoutBump_23 (Nat.le_of_ble_eq_true rfl) rfl rfl ?_
  exact lp_X6_throughWithoutBump hC (zSr_up2 hT t (by omega)) ht (by rw [zup_up, zup_self]) (T 0 6).toNat 0 0 W (by rw [zup_row _ _ (by decide)]; omega) (by omega)
theorem scn_r (T : zT) : ∀ (m i x : Nat), scn T m i x ≤ x + m
  | 0, i, x => by unfold scn; omega
  | m + 1, i, x => by
    unfold scn
    have h1 := scn_r T m (i + 1) (x + 1)
    have h2 := scn_r T m (i + 1) x
    split <;> omega
theorem lp_X6_bump {T : zT} {k : Int} (h : zCA sh R P I L A) (hT : zSr T) (hq : zQe T A.1) (hk : 0 ≤ k ∧ k ≤ 1) : ∀ (m t : Nat) (a c : Int) (W : Nat → Int) (y : zV), t + m = 10 → -1 ≤ c ∧ c ≤ 5 → zE X mX6_bump 0 0 29 [zR 0, zI k, zI a, zI c, zI (t : Int), y] [] sh (zsl (zrow I 141 W) 8 T) L R (zOp sh I L R (zI (if k = 0 then (sbm A.1 m t a c).1 else (sbm A.1 m t a c).2)) A)
  | 0, t, a, c, W, y, hi, hc => by
    refine z_iload4 31 dX6_bump_29 rfl ?_
    refine z_bipush 33 dX6_bump_31 (by decide) rfl ?_
    refine z_icmp_ge 62 36 dX6_bump_33 (by decide) rfl (by omega) (by omega) (fun h33 => ?_) (fun hz => absurd hz (by omega))
    refine z_iload1 63 dX6_bump_62 rfl ?_
    refine z_if_ne 70 66 dX6_bump_63 (by decide) rfl (by omega) (fun h63 => ?_) (fun h63 => ?_)
    · refine z_iload3 71 dX6_bump_70 rfl ?_
      exact z_ireturn dX6_bump_71 rfl (zOp_tri h W hT (by first | (rw [if_pos (by omega)]; rfl) | (rw [if_neg (by omega)]; rfl)))
    · refine z_iload2 67 dX6_bump_66 rfl ?_
      refine z_goto 71 dX6_bump_67 (by decide) ?_
      exact z_ireturn dX6_bump_71 rfl (zOp_tri h W hT (by first | (rw [if_pos (by omega)]; rfl) | (rw [if_neg (by omega)]; rfl)))
  | m + 1, t, a, c, W, y, hi, hc => by
    obtain ⟨hC, hNow, hTri, hHis, hKep, hTap, hShe, hOrd⟩ := id h
    obtain ⟨⟨c0, c1, c2, c3, c4, c5, c6, c7, c8, c9, c10, c11⟩, ⟨n1, n8, n73⟩, ⟨hh, hpm⟩, kh, tp, ⟨shs, shk⟩, spd, o1, o2, ra⟩ := id hC
    obtain ⟨⟨s0, s1, s2, s3, s4, s5, s6⟩, r0, r1, r2, r3, r4, r5⟩ := id n1
    have n80 := n8.1.1
    have hh0 := hh.1.1
    have e6 := hNow.2.1.1
    have hn5 := hNow.1.1.1
    have ec := scn_c (zQe_up hq (i := 2) (j := t) (by omega) 0) (T 0 6).toNat 0 0 (by rw [zup_row _ _ (by decide)]; have := hT.1; omega)
    rw [hq.1.1] at ec
    have hsr := scn_r (zup A.1 2 t 0) (A.1 0 6).toNat 0 0
    have hbt := ct_X6_throughWithoutBump (X := X) (I := I) (L := L) hC hT (t := t) (by omega) W
    rw [hq.1.1, ec] at hbt
    refine z_iload4 31 dX6_bump_29 rfl ?_
    refine z_bipush 33 dX6_bump_31 (by decide) rfl ?_
    refine z_icmp_ge 62 36 dX6_bump_33 (by decide) rfl (by omega) (by omega) (fun hz => absurd hz (by omega)) (fun h33 => ?_)
    refine z_aload0 37 dX6_bump_36 rfl ?_
    refine z_iload4 39 dX6_bump_37 rfl ?_
    refine z_pV1 42 dX6_bump_39 lk_X6_bump_183 (hbt) rfl (Nat.le_of_ble_eq_true rfl) (Nat.le_of_ble_eq_true rfl) (by assumption) rfl rfl (fun r0 sh0 I0 L0 R0 hpq => ?_)
    obtain ⟨q1, q2, ⟨W2, q3⟩, q4, q5⟩ := hpq
    subst r0 sh0 I0 L0 R0
    refine z_istore5 44 dX6_bump_42 (Nat.le_of_ble_eq_true rfl) rfl rfl ?_
    refine z_iload5 46 dX6_bump_44 rfl ?_
    refine z_iload3 47 dX6_bump_46 rfl ?_
    refine z_icmp_le 56 50 dX6_bump_47 (by decide) rfl (by omega) (by omega) (fun h47 => ?_) (fun h47 => ?_)
    · refine z_iinc4 59 dX6_bump_56 (Nat.le_of_ble_eq_true rfl) rfl rfl ?_
      refine z_goto 29 dX6_bump_59 (by decide) ?_
      first | (rw [show sbm A.1 (m + 1) t a c = sbm A.1 m (t + 1) a c by rw [sbm, if_neg (by omega)]]; exact lp_X6_bump h hT hq hk m (t + 1) _ _ W2 _ (by omega) (by omega)) | (rw [show sbm A.1 (m + 1) t a c = sbm A.1 m (t + 1) (t : Int) (scn (zup A.1 2 t 0) (A.1 0 6).toNat 0 0) by rw [sbm, if_pos (by omega)]]; exact lp_X6_bump h hT hq hk m (t + 1) _ _ W2 _ (by omega) (by omega))
    · refine z_iload5 52 dX6_bump_50 rfl ?_
      refine z_istore3 53 dX6_bump_52 (Nat.le_of_ble_eq_true rfl) rfl rfl ?_
      refine z_iload4 55 dX6_bump_53 rfl ?_
      refine z_istore2 56 dX6_bump_55 (Nat.le_of_ble_eq_true rfl) rfl rfl ?_
      refine z_iinc4 59 dX6_bump_56 (Nat.le_of_ble_eq_true rfl) rfl rfl ?_
      refine z_goto 29 dX6_bump_59 (by decide) ?_
      first | (rw [show sbm A.1 (m + 1) t a c = sbm A.1 m (t + 1) a c by rw [sbm, if_neg (by omega)]]; exact lp_X6_bump h hT hq hk m (t + 1) _ _ W2 _ (by omega) (by omega)) | (rw [show sbm A.1 (m + 1) t a c = sbm A.1 m (t + 1) (t : Int) (scn (zup A.1 2 t 0) (A.1 0 6).toNat 0 0) by rw [sbm, if_pos (by omega)]]; exact lp_X6_bump h hT hq hk m (t + 1) _ _ W2 _ (by omega) (by omega))
theorem op_X6_bump {k : Int} (h : zCA sh R P I L A) (hk : -2147483648 ≤ k ∧ k ≤ 2147483647) : zE X mX6_bump 0 0 0 [zR 0, zI k, zX, zX, zX, zX] [] sh I L R (zOp sh I L R (zI (oBump A k)) A) := by
  obtain ⟨hC, hNow, hTri, hHis, hKep, hTap, hShe, hOrd⟩ := id h
  obtain ⟨⟨c0, c1, c2, c3, c4, c5, c6, c7, c8, c9, c10, c11⟩, ⟨n1, n8, n73⟩, ⟨hh, hpm⟩, kh, tp, ⟨shs, shk⟩, spd, o1, o2, ra⟩ := id hC
  obtain ⟨⟨s0, s1, s2, s3, s4, s5, s6⟩, r0, r1, r2, r3, r4, r5⟩ := id n1
  have n80 := n8.1.1
  have hh0 := hh.1.1
  have e6 := hNow.2.1.1
  have hn5 := hNow.1.1.1
  have z2 := zwi_r k 0 1
  obtain ⟨hT, hq⟩ := tri_q h
  refine z_iload1 1 dX6_bump_0 rfl ?_
  refine z_iconst 2 dX6_bump_1 rfl ?_
  refine z_iconst 3 dX6_bump_2 rfl ?_
  refine z_xS3 6 dX6_bump_3 lk_X6_bump_71 (ct_X6_within (by omega) (by omega) (by omega)) rfl (Nat.le_of_ble_eq_true rfl) (Nat.le_of_ble_eq_true rfl) rfl ?_
  refine z_if_ne 11 9 dX6_bump_6 (by decide) rfl (by omega) (fun h6 => ?_) (fun h6 => ?_)
  · have g := zwi_ne0 h6
    refine z_aload0 12 dX6_bump_11 rfl ?_
    refine z_getR 15 dX6_bump_12 fl_RX6_16 (by assumption) (by assumption) rfl ?_
    refine z_aload0 16 dX6_bump_15 rfl ?_
    refine z_getR 19 dX6_bump_16 fl_RX6_10 (by assumption) (by assumption) rfl ?_
    refine z_xVv1 22 dX6_bump_19 lk_X6_bump_130 (ct_trial0 hC) rfl (Nat.le_of_ble_eq_true rfl) (Nat.le_of_ble_eq_true rfl) (by assumption) rfl rfl ?_
    refine z_iconst 23 dX6_bump_22 rfl ?_
    refine z_istore2 24 dX6_bump_23 (Nat.le_of_ble_eq_true rfl) rfl rfl ?_
    refine z_iconst 25 dX6_bump_24 rfl ?_
    refine z_istore3 26 dX6_bump_25 (Nat.le_of_ble_eq_true rfl) rfl rfl ?_
    refine z_iconst 27 dX6_bump_26 rfl ?_
    refine z_istore4 29 dX6_bump_27 (Nat.le_of_ble_eq_true rfl) rfl rfl ?_
    rw [show oBump A k = (if k = 0 then (sbm A.1 10 0 0 (-1)).1 else (sbm A.1 10 0 0 (-1)).2) by unfold oBump; rw [if_pos (by omega)]]
    exact lp_X6_bump h hT hq (by omega) 10 0 0 (-1) _ _ rfl (by omega)
  · have g := zwi_eq0 h6
    refine z_iconst 10 dX6_bump_9 rfl ?_
    exact z_ireturn dX6_bump_10 rfl (zOp_same h (by unfold oBump; rw [if_neg (by omega)]))
end TOPD
