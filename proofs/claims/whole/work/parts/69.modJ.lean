section MODJ
variable {X : zXs} {sh : zH} {I L : zI2} {R : zR2} {A : zA}
/-- the first step of that search: nothing is found yet -/
theorem lp_X7_fast0 {r w : Int} {J : zI2} {F B : Nat → Int} (h : mCA sh R I L A) (hJ : mFo I J) (hB : J 159 = B) (hF : ∀ j, j < 10 → B j = F j ∧ -4 ≤ F j ∧ F j ≤ 30) (hw : 0 ≤ w ∧ w ≤ 1) {v : Int} (hv : v = (if F (gmx F 9 1 0) = -4 then -4 else if w = 0 then (gmx F 9 1 0 : Int) else F (gmx F 9 1 0))) : zE X mX7_fast 0 0 40 [zR 157, zI r, zI w, zI (-4), zI (-4), zI 0] [] sh (mN J (I 158) (nvw (I 158))) L R (mOp sh I L R (zI v) A) := by
  obtain ⟨hM, -⟩ := id h
  obtain ⟨⟨s0, s1, s2, s3, s4, s5, s6, s7, s8, s9, s10, s11, s12, s13, s14, s15⟩, r0, r1, r2, r3, r4, r5, r6, r7, r8, r9, r10, r11, r12, r13, r14⟩ := id hM
  have h1 := hF 0 (by omega)
  have eB : mN J (I 158) (nvw (I 158)) 159 0 = F 0 := by rw [mN_o _ _ _ (by decide), hB, h1.1]
  have kl := lp_X7_fast (X := X) (r := r) (w := w) h hJ hB hF hw (v := v) 9 1 0 rfl (by omega) hv
  generalize hx : (if F 0 = -4 then (-4 : Int) else ((0 : Nat) : Int)) = x at kl
  have hx2 : (F 0 = -4 ∧ x = -4) ∨ (F 0 ≠ -4 ∧ x = 0) := by
    rw [← hx]
    split
    · exact Or.inl ⟨by assumption, rfl⟩
    · exact Or.inr ⟨by assumption, rfl⟩
  generalize hg : F 0 = g at eB h1 hx2 kl
  refine z_iload5 42 dX7_fast_40 rfl ?_
  refine z_bipush 44 dX7_fast_42 (by decide) rfl ?_
  refine z_icmp_ge 98 47 dX7_fast_44 (by decide) rfl (by omega) (by omega) (fun hz => absurd hz (by omega)) (fun h44 => ?_)
  refine z_aload0 48 dX7_fast_47 rfl ?_
  refine z_getR 51 dX7_fast_48 fl_RX7_13 (by assumption) (by assumption) rfl ?_
  refine z_iload5 53 dX7_fast_51 rfl ?_
  refine z_ialdx 54 (0) dX7_fast_53 (by assumption) (by omega) (by omega) (eB) rfl ?_
  refine z_iload4 56 dX7_fast_54 rfl ?_
  refine z_icmp_le 64 59 dX7_fast_56 (by decide) rfl (by omega) (by omega) (fun h56 => ?_) (fun h56 => ?_)
  · refine z_iload3 65 dX7_fast_64 rfl ?_
    refine z_istore3 66 dX7_fast_65 (Nat.le_of_ble_eq_true rfl) rfl rfl ?_
    refine z_aload0 67 dX7_fast_66 rfl ?_
    refine z_getR 70 dX7_fast_67 fl_RX7_13 (by assumption) (by assumption) rfl ?_
    refine z_iload5 72 dX7_fast_70 rfl ?_
    refine z_ialdx 73 (0) dX7_fast_72 (by assumption) (by omega) (by omega) (eB) rfl ?_
    refine z_iload4 75 dX7_fast_73 rfl ?_
    refine z_icmp_le 88 78 dX7_fast_75 (by decide) rfl (by omega) (by omega) (fun h75 => ?_) (fun h75 => ?_)
    · refine z_iload4 90 dX7_fast_88 rfl ?_
      refine z_istore4 92 dX7_fast_90 (Nat.le_of_ble_eq_true rfl) rfl rfl ?_
      refine z_iinc5 95 dX7_fast_92 (Nat.le_of_ble_eq_true rfl) rfl rfl ?_
      refine z_goto 40 dX7_fast_95 (by decide) ?_
      first | (rw [show x = 0 by omega] at kl; exact kl) | (rw [show x = -4 by omega, show g = -4 by omega] at kl; exact kl) | (exfalso; omega)
    · refine z_aload0 79 dX7_fast_78 rfl ?_
      refine z_getR 82 dX7_fast_79 fl_RX7_13 (by assumption) (by assumption) rfl ?_
      refine z_iload5 84 dX7_fast_82 rfl ?_
      refine z_ialdx 85 (0) dX7_fast_84 (by assumption) (by omega) (by omega) (eB) rfl ?_
      refine z_goto 90 dX7_fast_85 (by decide) ?_
      refine z_istore4 92 dX7_fast_90 (Nat.le_of_ble_eq_true rfl) rfl rfl ?_
      refine z_iinc5 95 dX7_fast_92 (Nat.le_of_ble_eq_true rfl) rfl rfl ?_
      refine z_goto 40 dX7_fast_95 (by decide) ?_
      first | (rw [show x = 0 by omega] at kl; exact kl) | (rw [show x = -4 by omega, show g = -4 by omega] at kl; exact kl) | (exfalso; omega)
  · refine z_iload5 61 dX7_fast_59 rfl ?_
    refine z_goto 65 dX7_fast_61 (by decide) ?_
    refine z_istore3 66 dX7_fast_65 (Nat.le_of_ble_eq_true rfl) rfl rfl ?_
    refine z_aload0 67 dX7_fast_66 rfl ?_
    refine z_getR 70 dX7_fast_67 fl_RX7_13 (by assumption) (by assumption) rfl ?_
    refine z_iload5 72 dX7_fast_70 rfl ?_
    refine z_ialdx 73 (0) dX7_fast_72 (by assumption) (by omega) (by omega) (eB) rfl ?_
    refine z_iload4 75 dX7_fast_73 rfl ?_
    refine z_icmp_le 88 78 dX7_fast_75 (by decide) rfl (by omega) (by omega) (fun h75 => ?_) (fun h75 => ?_)
    · refine z_iload4 90 dX7_fast_88 rfl ?_
      refine z_istore4 92 dX7_fast_90 (Nat.le_of_ble_eq_true rfl) rfl rfl ?_
      refine z_iinc5 95 dX7_fast_92 (Nat.le_of_ble_eq_true rfl) rfl rfl ?_
      refine z_goto 40 dX7_fast_95 (by decide) ?_
      first | (rw [show x = 0 by omega] at kl; exact kl) | (rw [show x = -4 by omega, show g = -4 by omega] at kl; exact kl) | (exfalso; omega)
    · refine z_aload0 79 dX7_fast_78 rfl ?_
      refine z_getR 82 dX7_fast_79 fl_RX7_13 (by assumption) (by assumption) rfl ?_
      refine z_iload5 84 dX7_fast_82 rfl ?_
      refine z_ialdx 85 (0) dX7_fast_84 (by assumption) (by omega) (by omega) (eB) rfl ?_
      refine z_goto 90 dX7_fast_85 (by decide) ?_
      refine z_istore4 92 dX7_fast_90 (Nat.le_of_ble_eq_true rfl) rfl rfl ?_
      refine z_iinc5 95 dX7_fast_92 (Nat.le_of_ble_eq_true rfl) rfl rfl ?_
      refine z_goto 40 dX7_fast_95 (by decide) ?_
      first | (rw [show x = 0 by omega] at kl; exact kl) | (rw [show x = -4 by omega, show g = -4 by omega] at kl; exact kl) | (exfalso; omega)
theorem op_X7_fast {r w : Int} (h : mCA sh R I L A) (hu : zuq A.1) (hr : -2147483648 ≤ r ∧ r ≤ 2147483647) (hw : -2147483648 ≤ w ∧ w ≤ 2147483647) : zE X mX7_fast 0 0 0 [zR 157, zI r, zI w, zX, zX, zX] [] sh I L R (mOp sh I L R (zI (oFast A r w)) A) := by
  obtain ⟨hM, hN, hHis, hKep, hTap, hShe⟩ := id h
  obtain ⟨⟨s0, s1, s2, s3, s4, s5, s6, s7, s8, s9, s10, s11, s12, s13, s14, s15⟩, r0, r1, r2, r3, r4, r5, r6, r7, r8, r9, r10, r11, r12, r13, r14⟩ := id hM
  obtain ⟨⟨hSr, hS7, hS8⟩, hQ⟩ := id hN
  have e6 := hQ.1.1
  have hn5 := hSr.1
  have z1 := zwi_r r 0 (nvw (I 158) 0 6 - 1)
  have z2 := zwi_r w 0 1
  refine z_mN ?_
  refine z_aload0 1 dX7_fast_0 rfl ?_
  refine z_iload1 2 dX7_fast_1 rfl ?_
  refine z_xV1 5 dX7_fast_2 lk_X7_fast_94 (ct_X7_isRider hM hn5 hr) rfl (Nat.le_of_ble_eq_true rfl) (Nat.le_of_ble_eq_true rfl) (by assumption) rfl rfl ?_
  refine z_if_eq 18 8 dX7_fast_5 (by decide) rfl (by omega) (fun h5 => ?_) (fun h5 => ?_)
  · have g5 := zwi_eq0 h5
    refine z_iconst 19 dX7_fast_18 rfl ?_
    exact z_ireturn dX7_fast_19 rfl (mOp_sameN h (by unfold oFast; rw [if_neg (by omega)]))
  · have g5 := zwi_ne0 h5
    refine z_iload2 9 dX7_fast_8 rfl ?_
    refine z_i2l 10 dX7_fast_9 (by omega) rfl ?_
    refine z_lconst0 11 dX7_fast_10 rfl ?_
    refine z_lconst1 12 dX7_fast_11 rfl ?_
    refine z_xS3 15 dX7_fast_12 lk_X7_fast_56 (ct_X7_in (by omega) (by omega) (by omega)) rfl (Nat.le_of_ble_eq_true rfl) (Nat.le_of_ble_eq_true rfl) rfl ?_
    refine z_if_ne 20 18 dX7_fast_15 (by decide) rfl (by omega) (fun h15 => ?_) (fun h15 => ?_)
    · have g15 := zwi_ne0 h15
      obtain ⟨q, rfl⟩ : ∃ q : Nat, r = (q : Int) := ⟨r.toNat, by omega⟩
      obtain ⟨B', hJ, hB, kw⟩ := fo_would (X := X) (L := L) (S := nvw (I 158)) (r := q) hM (mFo_0 I) (by omega) hSr (zuq_q hQ hu) (by omega)
      have hF : ∀ j, j < 10 → B' j = sfw A.1 q j ∧ -4 ≤ sfw A.1 q j ∧ sfw A.1 q j ≤ 30 := fun j hj => ⟨by rw [hB j hj, sfw_c hQ (by omega)], sfw_r A.1 q j hj⟩
      have eo : oFast A q w = (if sfw A.1 q (gmx (sfw A.1 q) 9 1 0) = -4 then -4 else if w = 0 then (gmx (sfw A.1 q) 9 1 0 : Int) else sfw A.1 q (gmx (sfw A.1 q) 9 1 0)) := by unfold oFast; rw [if_pos (by omega), Int.toNat_natCast]
      refine z_aload0 21 dX7_fast_20 rfl ?_
      refine z_xVv0 24 dX7_fast_21 lk_X7_fast_181 (fo_asides hM) rfl (Nat.le_of_ble_eq_true rfl) (Nat.le_of_ble_eq_true rfl) (by assumption) rfl rfl ?_
      refine z_aload0 25 dX7_fast_24 rfl ?_
      refine z_iload1 26 dX7_fast_25 rfl ?_
      refine z_xV1 29 dX7_fast_26 lk_X7_fast_184 (kw) rfl (Nat.le_of_ble_eq_true rfl) (Nat.le_of_ble_eq_true rfl) (by assumption) rfl rfl ?_
      refine z_pop 30 dX7_fast_29 rfl rfl ?_
      refine z_bipush 32 dX7_fast_30 (by decide) rfl ?_
      refine z_istore3 33 dX7_fast_32 (Nat.le_of_ble_eq_true rfl) rfl rfl ?_
      refine z_bipush 35 dX7_fast_33 (by decide) rfl ?_
      refine z_istore4 37 dX7_fast_35 (Nat.le_of_ble_eq_true rfl) rfl rfl ?_
      refine z_iconst 38 dX7_fast_37 rfl ?_
      refine z_istore5 40 dX7_fast_38 (Nat.le_of_ble_eq_true rfl) rfl rfl ?_
      exact lp_X7_fast0 h hJ (funext (zrow_at _ 159 _)) hF g15 eo
    · have g15 := zwi_eq0 h15
      refine z_iconst 19 dX7_fast_18 rfl ?_
      exact z_ireturn dX7_fast_19 rfl (mOp_sameN h (by unfold oFast; rw [if_neg (by omega)]))
theorem lp_X7_who {o : Int} (h : mCA sh R I L A) (hu : zuq A.1) (ho : 0 ≤ o ∧ o ≤ 7) : ∀ (m i : Nat) (x : Int) (J : zI2), i + m = (A.1 0 6).toNat → mFo I J → (-2147483648 ≤ x ∧ x ≤ 2147483647) → zE X mX7_who 0 0 22 [zR 157, zI o, zI x, zI (i : Int)] [] sh (mN J (I 158) (nvw (I 158))) L R (mOp sh I L R (zI (swho A.1 o m i x)) A)
  | 0, i, x, J, hi, hJ, hx => by
    obtain ⟨hM, hN, hHis, hKep, hTap, hShe⟩ := id h
    obtain ⟨⟨s0, s1, s2, s3, s4, s5, s6, s7, s8, s9, s10, s11, s12, s13, s14, s15⟩, r0, r1, r2, r3, r4, r5, r6, r7, r8, r9, r10, r11, r12, r13, r14⟩ := id hM
    obtain ⟨⟨hSr, hS7, hS8⟩, hQ⟩ := id hN
    have e6 := hQ.1.1
    have hn5 := hSr.1
    refine z_iload3 23 dX7_who_22 rfl ?_
    refine z_aload0 24 dX7_who_23 rfl ?_
    refine z_getR 27 dX7_who_24 fl_RX7_7 (by assumption) (by assumption) rfl ?_
    refine z_iconst 28 dX7_who_27 rfl ?_
    refine z_ialdx 29 (0) dX7_who_28 (by assumption) (by omega) (by omega) ((mN_0 _ _ _).trans e6) rfl ?_
    refine z_icmp_ge 57 32 dX7_who_29 (by decide) rfl (by omega) (by omega) (fun h29 => ?_) (fun hz => absurd hz (by omega))
    refine z_iload2 58 dX7_who_57 rfl ?_
    exact z_ireturn dX7_who_58 rfl (mOp_fo h hJ rfl)
  | m + 1, i, x, J, hi, hJ, hx => by
    obtain ⟨hM, hN, hHis, hKep, hTap, hShe⟩ := id h
    obtain ⟨⟨s0, s1, s2, s3, s4, s5, s6, s7, s8, s9, s10, s11, s12, s13, s14, s15⟩, r0, r1, r2, r3, r4, r5, r6, r7, r8, r9, r10, r11, r12, r13, r14⟩ := id hM
    obtain ⟨⟨hSr, hS7, hS8⟩, hQ⟩ := id hN
    have e6 := hQ.1.1
    have hn5 := hSr.1
    obtain ⟨B', hJ2, hB, kw⟩ := fo_would (X := X) (L := L) (S := nvw (I 158)) (r := i) hM hJ (by omega) hSr (zuq_q hQ hu) (by omega)
    have hsf := sfe_r (nvw (I 158)) i hSr (by omega)
    rw [sfe_c hQ (by omega)] at kw hsf
    have hz := zor_0 hx
    have hz2 := zor_r x (zshl 1 (i : Int))
    refine z_iload3 23 dX7_who_22 rfl ?_
    refine z_aload0 24 dX7_who_23 rfl ?_
    refine z_getR 27 dX7_who_24 fl_RX7_7 (by assumption) (by assumption) rfl ?_
    refine z_iconst 28 dX7_who_27 rfl ?_
    refine z_ialdx 29 (0) dX7_who_28 (by assumption) (by omega) (by omega) ((mN_0 _ _ _).trans e6) rfl ?_
    refine z_icmp_ge 57 32 dX7_who_29 (by decide) rfl (by omega) (by omega) (fun hz => absurd hz (by omega)) (fun h29 => ?_)
    refine z_iload2 33 dX7_who_32 rfl ?_
    refine z_aload0 34 dX7_who_33 rfl ?_
    refine z_iload3 35 dX7_who_34 rfl ?_
    refine z_xV1 38 dX7_who_35 lk_X7_who_184 (kw) rfl (Nat.le_of_ble_eq_true rfl) (Nat.le_of_ble_eq_true rfl) (by assumption) rfl rfl ?_
    refine z_iload1 39 dX7_who_38 rfl ?_
    refine z_icmp_ne 48 42 dX7_who_39 (by decide) rfl (by omega) (by omega) (fun h39 => ?_) (fun h39 => ?_)
    · refine z_iconst 49 dX7_who_48 rfl ?_
      refine z_ior 50 dX7_who_49 rfl ?_
      refine z_istore2 51 dX7_who_50 (Nat.le_of_ble_eq_true rfl) rfl rfl ?_
      refine z_iinc3 54 dX7_who_51 (Nat.le_of_ble_eq_true rfl) rfl rfl ?_
      refine z_goto 22 dX7_who_54 (by decide) ?_
      first | (rw [hz]; rw [show swho A.1 o (m + 1) i x = swho A.1 o m (i + 1) x by rw [swho, if_neg (by omega)]]; exact lp_X7_who h hu ho m (i + 1) _ _ (by omega) hJ2 hx) | (rw [show swho A.1 o (m + 1) i x = swho A.1 o m (i + 1) (zor x (zshl 1 (i : Int))) by rw [swho, if_pos (by omega)]]; exact lp_X7_who h hu ho m (i + 1) _ _ (by omega) hJ2 hz2)
    · refine z_iconst 43 dX7_who_42 rfl ?_
      refine z_iload3 44 dX7_who_43 rfl ?_
      refine z_ishl 45 dX7_who_44 rfl ?_
      refine z_goto 49 dX7_who_45 (by decide) ?_
      refine z_ior 50 dX7_who_49 rfl ?_
      refine z_istore2 51 dX7_who_50 (Nat.le_of_ble_eq_true rfl) rfl rfl ?_
      refine z_iinc3 54 dX7_who_51 (Nat.le_of_ble_eq_true rfl) rfl rfl ?_
      refine z_goto 22 dX7_who_54 (by decide) ?_
      first | (rw [hz]; rw [show swho A.1 o (m + 1) i x = swho A.1 o m (i + 1) x by rw [swho, if_neg (by omega)]]; exact lp_X7_who h hu ho m (i + 1) _ _ (by omega) hJ2 hx) | (rw [show swho A.1 o (m + 1) i x = swho A.1 o m (i + 1) (zor x (zshl 1 (i : Int))) by rw [swho, if_pos (by omega)]]; exact lp_X7_who h hu ho m (i + 1) _ _ (by omega) hJ2 hz2)
theorem op_X7_who {o : Int} (h : mCA sh R I L A) (hu : zuq A.1) (ho : -2147483648 ≤ o ∧ o ≤ 2147483647) : zE X mX7_who 0 0 0 [zR 157, zI o, zX, zX] [] sh I L R (mOp sh I L R (zI (oWho A o)) A) := by
  obtain ⟨hM, hN, hHis, hKep, hTap, hShe⟩ := id h
  obtain ⟨⟨s0, s1, s2, s3, s4, s5, s6, s7, s8, s9, s10, s11, s12, s13, s14, s15⟩, r0, r1, r2, r3, r4, r5, r6, r7, r8, r9, r10, r11, r12, r13, r14⟩ := id hM
  obtain ⟨⟨hSr, hS7, hS8⟩, hQ⟩ := id hN
  have e6 := hQ.1.1
  have hn5 := hSr.1
  have z1 := zwi_r o 0 7
  refine z_mN ?_
  refine z_iload1 1 dX7_who_0 rfl ?_
  refine z_i2l 2 dX7_who_1 (by omega) rfl ?_
  refine z_lconst0 3 dX7_who_2 rfl ?_
  refine z_ldc2 6 dX7_who_3 kl_RX7_89 rfl ?_
  refine z_xS3 9 dX7_who_6 lk_X7_who_56 (ct_X7_in (by omega) (by omega) (by omega)) rfl (Nat.le_of_ble_eq_true rfl) (Nat.le_of_ble_eq_true rfl) rfl ?_
  refine z_if_ne 14 12 dX7_who_9 (by decide) rfl (by omega) (fun h9 => ?_) (fun h9 => ?_)
  · have g9 := zwi_ne0 h9
    refine z_iconst 15 dX7_who_14 rfl ?_
    refine z_istore2 16 dX7_who_15 (Nat.le_of_ble_eq_true rfl) rfl rfl ?_
    refine z_aload0 17 dX7_who_16 rfl ?_
    refine z_xVv0 20 dX7_who_17 lk_X7_who_181 (fo_asides hM) rfl (Nat.le_of_ble_eq_true rfl) (Nat.le_of_ble_eq_true rfl) (by assumption) rfl rfl ?_
    refine z_iconst 21 dX7_who_20 rfl ?_
    refine z_istore3 22 dX7_who_21 (Nat.le_of_ble_eq_true rfl) rfl rfl ?_
    rw [show oWho A o = swho A.1 o (A.1 0 6).toNat 0 0 by unfold oWho; rw [if_pos g9]]
    exact lp_X7_who h hu g9 (A.1 0 6).toNat 0 0 _ (by omega) (mFo_0 I) (by omega)
  · have g9 := zwi_eq0 h9
    refine z_iconst 13 dX7_who_12 rfl ?_
    exact z_ireturn dX7_who_13 rfl (mOp_sameN h (by unfold oWho; rw [if_neg (by omega)]))
theorem lp_X7_waxes {r : Nat} {o : Int} (h : mCA sh R I L A) (hu : zuq A.1) (hr : (r : Int) < A.1 0 6) (ho : 0 ≤ o ∧ o ≤ 7) : ∀ (m : Nat) (x f : Int) (J : zI2), x = (m : Int) - 1 → m ≤ 100 → mFo I J → (-4 ≤ f ∧ f ≤ 100) → zE X mX7_waxes 0 0 45 [zR 157, zI (r : Int), zI o, zI f, zI x] [] sh (mN J (I 158) (nvw (I 158))) L R (mOp sh I L R (zI (mdn (fun v => sfe (zup A.1 1 (v / 10) ((v % 10 : Nat) : Int)) r = o) 0 m f)) A)
  | 0, x, f, J, hx, hm, hJ, hf => by
    subst hx
    refine z_iload4 47 dX7_waxes_45 rfl ?_
    refine z_if_lt 89 50 dX7_waxes_47 (by decide) rfl (by omega) (fun h47 => ?_) (fun hz => absurd hz (by omega))
    refine z_iload3 90 dX7_waxes_89 rfl ?_
    exact z_ireturn dX7_waxes_90 rfl (mOp_fo h hJ rfl)
  | m + 1, x, f, J, hx, hm, hJ, hf => by
    obtain ⟨hM, hN, hHis, hKep, hTap, hShe⟩ := id h
    obtain ⟨⟨s0, s1, s2, s3, s4, s5, s6, s7, s8, s9, s10, s11, s12, s13, s14, s15⟩, r0, r1, r2, r3, r4, r5, r6, r7, r8, r9, r10, r11, r12, r13, r14⟩ := id hM
    obtain ⟨⟨hSr, hS7, hS8⟩, hQ⟩ := id hN
    have e6 := hQ.1.1
    have hn5 := hSr.1
    have hx2 : x = (m : Int) := by omega
    subst hx2
    have ed : (m : Int) / 10 = ((m / 10 : Nat) : Int) := rfl
    have em : (m : Int) % 10 = ((m % 10 : Nat) : Int) := rfl
    have hSi : zSr (zup (nvw (I 158)) 1 (m / 10) ((m % 10 : Nat) : Int)) := zSr_up1 hSr (m / 10) (by omega)
    obtain ⟨B', hJ2, hB, kw⟩ := fo_would (X := X) (L := L) (S := zup (nvw (I 158)) 1 (m / 10) ((m % 10 : Nat) : Int)) (r := r) hM hJ (by omega) hSi (zuq_up (zuq_q hQ hu) (by decide) (by decide) _ _) (by rw [zup_row _ _ (by decide)]; omega)
    have hsf := sfe_r (zup (nvw (I 158)) 1 (m / 10) ((m % 10 : Nat) : Int)) r hSi (by omega)
    rw [sfe_c (zQe_up hQ (i := 1) (j := m / 10) (by omega) _) (by rw [zup_row _ _ (by decide)]; omega)] at kw hsf
    have hxx : nix (3 + m / 10) 1 (m / 10) := Or.inr (Or.inr (Or.inr (Or.inl ⟨rfl, rfl, by omega⟩)))
    refine z_iload4 47 dX7_waxes_45 rfl ?_
    refine z_if_lt 89 50 dX7_waxes_47 (by decide) rfl (by omega) (fun hz => absurd hz (by omega)) (fun h47 => ?_)
    refine z_aload0 51 dX7_waxes_50 rfl ?_
    refine z_getR 54 dX7_waxes_51 fl_RX7_7 (by assumption) (by assumption) rfl ?_
    refine z_iconst 55 dX7_waxes_54 rfl ?_
    refine z_iload4 57 dX7_waxes_55 rfl ?_
    refine z_bipush 59 dX7_waxes_57 (by decide) rfl ?_
    refine z_idiv 60 dX7_waxes_59 (by omega) (by omega) rfl ?_
    refine z_iadd 61 dX7_waxes_60 rfl ?_
    refine z_iload4 63 dX7_waxes_61 rfl ?_
    refine z_bipush 65 dX7_waxes_63 (by decide) rfl ?_
    refine z_irem 66 dX7_waxes_65 (by omega) (by omega) rfl ?_
    refine z_iastx 67 (3 + m / 10) dX7_waxes_66 (by assumption) (by omega) (by omega) (mN_up _ _ _ (i := 1) (j := m / 10) hxx _) rfl ?_
    refine z_aload0 68 dX7_waxes_67 rfl ?_
    refine z_iload1 69 dX7_waxes_68 rfl ?_
    refine z_xV1 72 dX7_waxes_69 lk_X7_waxes_184 (kw) rfl (Nat.le_of_ble_eq_true rfl) (Nat.le_of_ble_eq_true rfl) (by assumption) rfl rfl ?_
    refine z_iload2 73 dX7_waxes_72 rfl ?_
    refine z_icmp_ne 81 76 dX7_waxes_73 (by decide) rfl (by omega) (by omega) (fun h73 => ?_) (fun h73 => ?_)
    · refine z_iload3 82 dX7_waxes_81 rfl ?_
      refine z_istore3 83 dX7_waxes_82 (Nat.le_of_ble_eq_true rfl) rfl rfl ?_
      refine z_iinc4 86 dX7_waxes_83 (Nat.le_of_ble_eq_true rfl) rfl rfl ?_
      refine z_goto 45 dX7_waxes_86 (by decide) ?_
      first | (rw [show mdn (fun v => sfe (zup A.1 1 (v / 10) ((v % 10 : Nat) : Int)) r = o) 0 (m + 1) f = mdn (fun v => sfe (zup A.1 1 (v / 10) ((v % 10 : Nat) : Int)) r = o) 0 m f by rw [mdn, Nat.zero_add, if_neg (by omega)]]; exact lp_X7_waxes h hu hr ho m _ f _ (by omega) (by omega) hJ2 hf) | (rw [show mdn (fun v => sfe (zup A.1 1 (v / 10) ((v % 10 : Nat) : Int)) r = o) 0 (m + 1) f = mdn (fun v => sfe (zup A.1 1 (v / 10) ((v % 10 : Nat) : Int)) r = o) 0 m (m : Int) by rw [mdn, Nat.zero_add, if_pos (by omega)]]; exact lp_X7_waxes h hu hr ho m _ (m : Int) _ (by omega) (by omega) hJ2 (by omega))
    · refine z_iload4 78 dX7_waxes_76 rfl ?_
      refine z_goto 82 dX7_waxes_78 (by decide) ?_
      refine z_istore3 83 dX7_waxes_82 (Nat.le_of_ble_eq_true rfl) rfl rfl ?_
      refine z_iinc4 86 dX7_waxes_83 (Nat.le_of_ble_eq_true rfl) rfl rfl ?_
      refine z_goto 45 dX7_waxes_86 (by decide) ?_
      first | (rw [show mdn (fun v => sfe (zup A.1 1 (v / 10) ((v % 10 : Nat) : Int)) r = o) 0 (m + 1) f = mdn (fun v => sfe (zup A.1 1 (v / 10) ((v % 10 : Nat) : Int)) r = o) 0 m f by rw [mdn, Nat.zero_add, if_neg (by omega)]]; exact lp_X7_waxes h hu hr ho m _ f _ (by omega) (by omega) hJ2 hf) | (rw [show mdn (fun v => sfe (zup A.1 1 (v / 10) ((v % 10 : Nat) : Int)) r = o) 0 (m + 1) f = mdn (fun v => sfe (zup A.1 1 (v / 10) ((v % 10 : Nat) : Int)) r = o) 0 m (m : Int) by rw [mdn, Nat.zero_add, if_pos (by omega)]]; exact lp_X7_waxes h hu hr ho m _ (m : Int) _ (by omega) (by omega) hJ2 (by omega))
theorem op_X7_waxes {r o : Int} (h : mCA sh R I L A) (hu : zuq A.1) (hr : -2147483648 ≤ r ∧ r ≤ 2147483647) (ho : -2147483648 ≤ o ∧ o ≤ 2147483647) : zE X mX7_waxes 0 0 0 [zR 157, zI r, zI o, zX, zX] [] sh I L R (mOp sh I L R (zI (oWaxes A r o)) A) := by
  obtain ⟨hM, hN, hHis, hKep, hTap, hShe⟩ := id h
  obtain ⟨⟨s0, s1, s2, s3, s4, s5, s6, s7, s8, s9, s10, s11, s12, s13, s14, s15⟩, r0, r1, r2, r3, r4, r5, r6, r7, r8, r9, r10, r11, r12, r13, r14⟩ := id hM
  obtain ⟨⟨hSr, hS7, hS8⟩, hQ⟩ := id hN
  have e6 := hQ.1.1
  have hn5 := hSr.1
  have z1 := zwi_r r 0 (nvw (I 158) 0 6 - 1)
  have z2 := zwi_r o 0 7
  refine z_mN ?_
  refine z_aload0 1 dX7_waxes_0 rfl ?_
  refine z_iload1 2 dX7_waxes_1 rfl ?_
  refine z_xV1 5 dX7_waxes_2 lk_X7_waxes_94 (ct_X7_isRider hM hn5 hr) rfl (Nat.le_of_ble_eq_true rfl) (Nat.le_of_ble_eq_true rfl) (by assumption) rfl rfl ?_
  refine z_if_eq 20 8 dX7_waxes_5 (by decide) rfl (by omega) (fun h5 => ?_) (fun h5 => ?_)
  · have g5 := zwi_eq0 h5
    refine z_iconst 21 dX7_waxes_20 rfl ?_
    exact z_ireturn dX7_waxes_21 rfl (mOp_sameN h (by unfold oWaxes; rw [if_neg (by omega)]))
  · have g5 := zwi_ne0 h5
    refine z_iload2 9 dX7_waxes_8 rfl ?_
    refine z_i2l 10 dX7_waxes_9 (by omega) rfl ?_
    refine z_lconst0 11 dX7_waxes_10 rfl ?_
    refine z_ldc2 14 dX7_waxes_11 kl_RX7_89 rfl ?_
    refine z_xS3 17 dX7_waxes_14 lk_X7_waxes_56 (ct_X7_in (by omega) (by omega) (by omega)) rfl (Nat.le_of_ble_eq_true rfl) (Nat.le_of_ble_eq_true rfl) rfl ?_
    refine z_if_ne 22 20 dX7_waxes_17 (by decide) rfl (by omega) (fun h17 => ?_) (fun h17 => ?_)
    · have g17 := zwi_ne0 h17
      obtain ⟨q, rfl⟩ : ∃ q : Nat, r = (q : Int) := ⟨r.toNat, by omega⟩
      obtain ⟨B', hJ, hB, kw⟩ := fo_would (X := X) (L := L) (S := nvw (I 158)) (r := q) hM (mFo_0 I) (by omega) hSr (zuq_q hQ hu) (by omega)
      have hsf := sfe_r (nvw (I 158)) q hSr (by omega)
      rw [sfe_c hQ (by omega)] at kw hsf
      have eo : oWaxes A q o = (if sfe A.1 q = o then 100 else swx A.1 q o 10 0) := by unfold oWaxes; rw [if_pos (by omega), Int.toNat_natCast]
      have el := lp_X7_waxes (X := X) (r := q) (o := o) h hu (by omega) g17 100 99 (-4) _ rfl (by omega) hJ (by omega)
      rw [mdn_l, show (if lup (fun v => sfe (zup A.1 1 (v / 10) ((v % 10 : Nat) : Int)) q = o) 100 0 = -4 then (-4 : Int) else lup (fun v => sfe (zup A.1 1 (v / 10) ((v % 10 : Nat) : Int)) q = o) 100 0) = swx A.1 q o 10 0 by
        rw [swx_l]
        show _ = lup _ 100 0
        split
        · rename_i h1; rw [h1]
        · rfl] at el
      rw [eo]
      refine z_aload0 23 dX7_waxes_22 rfl ?_
      refine z_xVv0 26 dX7_waxes_23 lk_X7_waxes_181 (fo_asides hM) rfl (Nat.le_of_ble_eq_true rfl) (Nat.le_of_ble_eq_true rfl) (by assumption) rfl rfl ?_
      refine z_aload0 27 dX7_waxes_26 rfl ?_
      refine z_iload1 28 dX7_waxes_27 rfl ?_
      refine z_xV1 31 dX7_waxes_28 lk_X7_waxes_184 (kw) rfl (Nat.le_of_ble_eq_true rfl) (Nat.le_of_ble_eq_true rfl) (by assumption) rfl rfl ?_
      refine z_iload2 32 dX7_waxes_31 rfl ?_
      refine z_icmp_ne 38 35 dX7_waxes_32 (by decide) rfl (by omega) (by omega) (fun h32 => ?_) (fun h32 => ?_)
      · refine z_bipush 40 dX7_waxes_38 (by decide) rfl ?_
        refine z_istore3 41 dX7_waxes_40 (Nat.le_of_ble_eq_true rfl) rfl rfl ?_
        refine z_bipush 43 dX7_waxes_41 (by decide) rfl ?_
        refine z_istore4 45 dX7_waxes_43 (Nat.le_of_ble_eq_true rfl) rfl rfl ?_
        rw [if_neg (by omega)]
        exact el
      · refine z_bipush 37 dX7_waxes_35 (by decide) rfl ?_
        exact z_ireturn dX7_waxes_37 rfl (mOp_fo h hJ (by rw [if_pos (by omega)]))
    · have g17 := zwi_eq0 h17
      refine z_iconst 21 dX7_waxes_20 rfl ?_
      exact z_ireturn dX7_waxes_21 rfl (mOp_sameN h (by unfold oWaxes; rw [if_neg (by omega)]))
theorem lp_X7_may {r t : Nat} (h : mCA sh R I L A) (hu : zuq A.1) (hr : (r : Int) < A.1 0 6) (ht : t < 10) : ∀ (m i : Nat) (x : Int) (J : zI2) (z5 : zV), i + m = 10 → mFo I J → (-2147483648 ≤ x ∧ x ≤ 2147483647) → zE X mX7_may 0 0 26 [zR 157, zI (r : Int), zI (t : Int), zI x, zI (i : Int), z5] [] sh (mN J (I 158) (nvw (I 158))) L R (mOp sh I L R (zI (smy A.1 r t m i x)) A)
  | 0, i, x, J, z5, hi, hJ, hx => by
    refine z_iload4 28 dX7_may_26 rfl ?_
    refine z_bipush 30 dX7_may_28 (by decide) rfl ?_
    refine z_icmp_ge 74 33 dX7_may_30 (by decide) rfl (by omega) (by omega) (fun h30 => ?_) (fun hz => absurd hz (by omega))
    refine z_iload3 75 dX7_may_74 rfl ?_
    exact z_ireturn dX7_may_75 rfl (mOp_fo h hJ rfl)
  | m + 1, i, x, J, z5, hi, hJ, hx => by
    obtain ⟨hM, hN, hHis, hKep, hTap, hShe⟩ := id h
    obtain ⟨⟨s0, s1, s2, s3, s4, s5, s6, s7, s8, s9, s10, s11, s12, s13, s14, s15⟩, r0, r1, r2, r3, r4, r5, r6, r7, r8, r9, r10, r11, r12, r13, r14⟩ := id hM
    obtain ⟨⟨hSr, hS7, hS8⟩, hQ⟩ := id hN
    have e6 := hQ.1.1
    have hn5 := hSr.1
    have hSi : zSr (zup (nvw (I 158)) 1 t (i : Int)) := zSr_up1 hSr t (by omega)
    obtain ⟨B', hJ2, hB, kw⟩ := fo_would (X := X) (L := L) (S := zup (nvw (I 158)) 1 t (i : Int)) (r := r) hM hJ (by omega) hSi (zuq_up (zuq_q hQ hu) (by decide) (by decide) _ _) (by rw [zup_row _ _ (by decide)]; omega)
    have hsf := sfe_r (zup (nvw (I 158)) 1 t (i : Int)) r hSi (by omega)
    rw [sfe_c (zQe_up hQ (i := 1) (j := t) (by omega) _) (by rw [zup_row _ _ (by decide)]; omega)] at kw hsf
    have hxx : nix (3 + t) 1 t := Or.inr (Or.inr (Or.inr (Or.inl ⟨rfl, rfl, ht⟩)))
    have hz := zor_0 hx
    have hz2 := zor_r x (zshl 1 (sfe (zup A.1 1 t (i : Int)) r))
    refine z_iload4 28 dX7_may_26 rfl ?_
    refine z_bipush 30 dX7_may_28 (by decide) rfl ?_
    refine z_icmp_ge 74 33 dX7_may_30 (by decide) rfl (by omega) (by omega) (fun hz => absurd hz (by omega)) (fun h30 => ?_)
    refine z_aload0 34 dX7_may_33 rfl ?_
    refine z_getR 37 dX7_may_34 fl_RX7_7 (by assumption) (by assumption) rfl ?_
    refine z_iconst 38 dX7_may_37 rfl ?_
    refine z_iload2 39 dX7_may_38 rfl ?_
    refine z_iadd 40 dX7_may_39 rfl ?_
    refine z_iload4 42 dX7_may_40 rfl ?_
    refine z_iastx 43 (3 + t) dX7_may_42 (by assumption) (by omega) (by omega) (mN_up _ _ _ (i := 1) (j := t) hxx _) rfl ?_
    refine z_aload0 44 dX7_may_43 rfl ?_
    refine z_iload1 45 dX7_may_44 rfl ?_
    refine z_xV1 48 dX7_may_45 lk_X7_may_184 (kw) rfl (Nat.le_of_ble_eq_true rfl) (Nat.le_of_ble_eq_true rfl) (by assumption) rfl rfl ?_
    refine z_istore5 50 dX7_may_48 (Nat.le_of_ble_eq_true rfl) rfl rfl ?_
    refine z_iload3 51 dX7_may_50 rfl ?_
    refine z_iload5 53 dX7_may_51 rfl ?_
    refine z_bipush 55 dX7_may_53 (by decide) rfl ?_
    refine z_icmp_ge 65 58 dX7_may_55 (by decide) rfl (by omega) (by omega) (fun h55 => ?_) (fun h55 => ?_)
    · refine z_iconst 66 dX7_may_65 rfl ?_
      refine z_ior 67 dX7_may_66 rfl ?_
      refine z_istore3 68 dX7_may_67 (Nat.le_of_ble_eq_true rfl) rfl rfl ?_
      refine z_iinc4 71 dX7_may_68 (Nat.le_of_ble_eq_true rfl) rfl rfl ?_
      refine z_goto 26 dX7_may_71 (by decide) ?_
      first | (rw [hz]; rw [show smy A.1 r t (m + 1) i x = smy A.1 r t m (i + 1) x by rw [smy, if_neg (by omega)]]; exact lp_X7_may h hu hr ht m (i + 1) _ _ _ (by omega) hJ2 hx) | (rw [show smy A.1 r t (m + 1) i x = smy A.1 r t m (i + 1) (zor x (zshl 1 (sfe (zup A.1 1 t (i : Int)) r))) by rw [smy, if_pos (by omega)]]; exact lp_X7_may h hu hr ht m (i + 1) _ _ _ (by omega) hJ2 hz2)
    · refine z_iconst 59 dX7_may_58 rfl ?_
      refine z_iload5 61 dX7_may_59 rfl ?_
      refine z_ishl 62 dX7_may_61 rfl ?_
      refine z_goto 66 dX7_may_62 (by decide) ?_
      refine z_ior 67 dX7_may_66 rfl ?_
      refine z_istore3 68 dX7_may_67 (Nat.le_of_ble_eq_true rfl) rfl rfl ?_
      refine z_iinc4 71 dX7_may_68 (Nat.le_of_ble_eq_true rfl) rfl rfl ?_
      refine z_goto 26 dX7_may_71 (by decide) ?_
      first | (rw [hz]; rw [show smy A.1 r t (m + 1) i x = smy A.1 r t m (i + 1) x by rw [smy, if_neg (by omega)]]; exact lp_X7_may h hu hr ht m (i + 1) _ _ _ (by omega) hJ2 hx) | (rw [show smy A.1 r t (m + 1) i x = smy A.1 r t m (i + 1) (zor x (zshl 1 (sfe (zup A.1 1 t (i : Int)) r))) by rw [smy, if_pos (by omega)]]; exact lp_X7_may h hu hr ht m (i + 1) _ _ _ (by omega) hJ2 hz2)
theorem op_X7_may {r t : Int} (h : mCA sh R I L A) (hu : zuq A.1) (hr : -2147483648 ≤ r ∧ r ≤ 2147483647) (ht : -2147483648 ≤ t ∧ t ≤ 2147483647) : zE X mX7_may 0 0 0 [zR 157, zI r, zI t, zX, zX, zX] [] sh I L R (mOp sh I L R (zI (oMay A r t)) A) := by
  obtain ⟨hM, hN, hHis, hKep, hTap, hShe⟩ := id h
  obtain ⟨⟨s0, s1, s2, s3, s4, s5, s6, s7, s8, s9, s10, s11, s12, s13, s14, s15⟩, r0, r1, r2, r3, r4, r5, r6, r7, r8, r9, r10, r11, r12, r13, r14⟩ := id hM
  obtain ⟨⟨hSr, hS7, hS8⟩, hQ⟩ := id hN
  have e6 := hQ.1.1
  have hn5 := hSr.1
  have z1 := zwi_r r 0 (nvw (I 158) 0 6 - 1)
  have z2 := zwi_r t 0 9
  refine z_mN ?_
  refine z_aload0 1 dX7_may_0 rfl ?_
  refine z_iload1 2 dX7_may_1 rfl ?_
  refine z_xV1 5 dX7_may_2 lk_X7_may_94 (ct_X7_isRider hM hn5 hr) rfl (Nat.le_of_ble_eq_true rfl) (Nat.le_of_ble_eq_true rfl) (by assumption) rfl rfl ?_
  refine z_if_eq 15 8 dX7_may_5 (by decide) rfl (by omega) (fun h5 => ?_) (fun h5 => ?_)
  · have g5 := zwi_eq0 h5
    refine z_iconst 16 dX7_may_15 rfl ?_
    exact z_ireturn dX7_may_16 rfl (mOp_sameN h (by unfold oMay; rw [if_neg (by omega)]))
  · have g5 := zwi_ne0 h5
    refine z_iload2 9 dX7_may_8 rfl ?_
    refine z_xS1 12 dX7_may_9 lk_X7_may_100 (ct_X7_isTurn ht) rfl (Nat.le_of_ble_eq_true rfl) (Nat.le_of_ble_eq_true rfl) rfl ?_
    refine z_if_ne 17 15 dX7_may_12 (by decide) rfl (by omega) (fun h12 => ?_) (fun h12 => ?_)
    · have g12 := zwi_ne0 h12
      obtain ⟨q, rfl⟩ : ∃ q : Nat, r = (q : Int) := ⟨r.toNat, by omega⟩
      obtain ⟨p, rfl⟩ : ∃ q : Nat, t = (q : Int) := ⟨t.toNat, by omega⟩
      refine z_iconst 18 dX7_may_17 rfl ?_
      refine z_istore3 19 dX7_may_18 (Nat.le_of_ble_eq_true rfl) rfl rfl ?_
      refine z_aload0 20 dX7_may_19 rfl ?_
      refine z_xVv0 23 dX7_may_20 lk_X7_may_181 (fo_asides hM) rfl (Nat.le_of_ble_eq_true rfl) (Nat.le_of_ble_eq_true rfl) (by assumption) rfl rfl ?_
      refine z_iconst 24 dX7_may_23 rfl ?_
      refine z_istore4 26 dX7_may_24 (Nat.le_of_ble_eq_true rfl) rfl rfl ?_
      rw [show oMay A q p = smy A.1 q p 10 0 0 by unfold oMay; rw [if_pos (by omega), Int.toNat_natCast, Int.toNat_natCast]]
      exact lp_X7_may h hu (by omega) (by omega) 10 0 0 _ _ rfl (mFo_0 I) (by omega)
    · have g12 := zwi_eq0 h12
      refine z_iconst 16 dX7_may_15 rfl ?_
      exact z_ireturn dX7_may_16 rfl (mOp_sameN h (by unfold oMay; rw [if_neg (by omega)]))
theorem lp_X7_weight {r : Nat} (h : mCA sh R I L A) (hu : zuq A.1) (hr : (r : Int) < A.1 0 6) : ∀ (m : Nat) (x f : Int) (J : zI2), x = (m : Int) → m ≤ 20 → mFo I J → zE X mX7_weight 0 0 20 [zR 157, zI (r : Int), zI f, zI x] [] sh (mN J (I 158) (nvw (I 158))) L R (mOp sh I L R (zI (mdn (fun v => 0 ≤ sfe (zup A.1 4 r (v : Int)) r ∧ sfe (zup A.1 4 r (v : Int)) r ≤ 7) 1 m f)) A)
  | 0, x, f, J, hx, hm, hJ => by
    subst hx
    refine z_iload3 21 dX7_weight_20 rfl ?_
    refine z_if_le 53 24 dX7_weight_21 (by decide) rfl (by omega) (fun h21 => ?_) (fun hz => absurd hz (by omega))
    refine z_iload2 54 dX7_weight_53 rfl ?_
    exact z_ireturn dX7_weight_54 rfl (mOp_fo h hJ rfl)
  | m + 1, x, f, J, hx, hm, hJ => by
    obtain ⟨hM, hN, hHis, hKep, hTap, hShe⟩ := id h
    obtain ⟨⟨s0, s1, s2, s3, s4, s5, s6, s7, s8, s9, s10, s11, s12, s13, s14, s15⟩, r0, r1, r2, r3, r4, r5, r6, r7, r8, r9, r10, r11, r12, r13, r14⟩ := id hM
    obtain ⟨⟨hSr, hS7, hS8⟩, hQ⟩ := id hN
    have e6 := hQ.1.1
    have hn5 := hSr.1
    subst hx
    have hSi : zSr (zup (nvw (I 158)) 4 r ((m + 1 : Nat) : Int)) := zSr_up4 hSr r (by omega)
    obtain ⟨B', hJ2, hB, kw⟩ := fo_would (X := X) (L := L) (S := zup (nvw (I 158)) 4 r ((m + 1 : Nat) : Int)) (r := r) hM hJ (by omega) hSi (zuq_up (zuq_q hQ hu) (by decide) (by decide) _ _) (by rw [zup_row _ _ (by decide)]; omega)
    have hsf := sfe_r (zup (nvw (I 158)) 4 r ((m + 1 : Nat) : Int)) r hSi (by omega)
    rw [sfe_c (zQe_up hQ (i := 4) (j := r) (by omega) _) (by rw [zup_row _ _ (by decide)]; omega)] at kw hsf
    have e1 : 1 + m = m + 1 := Nat.add_comm 1 m
    refine z_iload3 21 dX7_weight_20 rfl ?_
    refine z_if_le 53 24 dX7_weight_21 (by decide) rfl (by omega) (fun hz => absurd hz (by omega)) (fun h21 => ?_)
    refine z_aload0 25 dX7_weight_24 rfl ?_
    refine z_iload1 26 dX7_weight_25 rfl ?_
    refine z_iconst 27 dX7_weight_26 rfl ?_
    refine z_iload3 28 dX7_weight_27 rfl ?_
    refine z_xVv3 31 dX7_weight_28 lk_X7_weight_70 (ct_X7_tells (w := 1) (k := 4) hM (by omega) (by decide) rfl) rfl (Nat.le_of_ble_eq_true rfl) (Nat.le_of_ble_eq_true rfl) (by assumption) rfl rfl ?_
    refine z_aload0 32 dX7_weight_31 rfl ?_
    refine z_iload1 33 dX7_weight_32 rfl ?_
    refine z_xV1 36 dX7_weight_33 lk_X7_weight_184 (kw) rfl (Nat.le_of_ble_eq_true rfl) (Nat.le_of_ble_eq_true rfl) (by assumption) rfl rfl ?_
    refine z_bipush 38 dX7_weight_36 (by decide) rfl ?_
    refine z_icmp_ge 45 41 dX7_weight_38 (by decide) rfl (by omega) (by omega) (fun h38 => ?_) (fun h38 => ?_)
    · refine z_iload2 46 dX7_weight_45 rfl ?_
      refine z_istore2 47 dX7_weight_46 (Nat.le_of_ble_eq_true rfl) rfl rfl ?_
      refine z_iinc3 50 dX7_weight_47 (Nat.le_of_ble_eq_true rfl) rfl rfl ?_
      refine z_goto 20 dX7_weight_50 (by decide) ?_
      first | (rw [show mdn (fun v => 0 ≤ sfe (zup A.1 4 r (v : Int)) r ∧ sfe (zup A.1 4 r (v : Int)) r ≤ 7) 1 (m + 1) f = mdn (fun v => 0 ≤ sfe (zup A.1 4 r (v : Int)) r ∧ sfe (zup A.1 4 r (v : Int)) r ≤ 7) 1 m f by rw [mdn, e1, if_neg (by omega)]]; exact lp_X7_weight h hu hr m _ f _ (by omega) (by omega) hJ2) | (rw [show mdn (fun v => 0 ≤ sfe (zup A.1 4 r (v : Int)) r ∧ sfe (zup A.1 4 r (v : Int)) r ≤ 7) 1 (m + 1) f = mdn (fun v => 0 ≤ sfe (zup A.1 4 r (v : Int)) r ∧ sfe (zup A.1 4 r (v : Int)) r ≤ 7) 1 m ((m + 1 : Nat) : Int) by rw [mdn, e1, if_pos (by omega)]]; exact lp_X7_weight h hu hr m _ _ _ (by omega) (by omega) hJ2)
    · refine z_iload3 42 dX7_weight_41 rfl ?_
      refine z_goto 46 dX7_weight_42 (by decide) ?_
      refine z_istore2 47 dX7_weight_46 (Nat.le_of_ble_eq_true rfl) rfl rfl ?_
      refine z_iinc3 50 dX7_weight_47 (Nat.le_of_ble_eq_true rfl) rfl rfl ?_
      refine z_goto 20 dX7_weight_50 (by decide) ?_
      first | (rw [show mdn (fun v => 0 ≤ sfe (zup A.1 4 r (v : Int)) r ∧ sfe (zup A.1 4 r (v : Int)) r ≤ 7) 1 (m + 1) f = mdn (fun v => 0 ≤ sfe (zup A.1 4 r (v : Int)) r ∧ sfe (zup A.1 4 r (v : Int)) r ≤ 7) 1 m f by rw [mdn, e1, if_neg (by omega)]]; exact lp_X7_weight h hu hr m _ f _ (by omega) (by omega) hJ2) | (rw [show mdn (fun v => 0 ≤ sfe (zup A.1 4 r (v : Int)) r ∧ sfe (zup A.1 4 r (v : Int)) r ≤ 7) 1 (m + 1) f = mdn (fun v => 0 ≤ sfe (zup A.1 4 r (v : Int)) r ∧ sfe (zup A.1 4 r (v : Int)) r ≤ 7) 1 m ((m + 1 : Nat) : Int) by rw [mdn, e1, if_pos (by omega)]]; exact lp_X7_weight h hu hr m _ _ _ (by omega) (by omega) hJ2)
theorem op_X7_weight {r : Int} (h : mCA sh R I L A) (hu : zuq A.1) (hr : -2147483648 ≤ r ∧ r ≤ 2147483647) : zE X mX7_weight 0 0 0 [zR 157, zI r, zX, zX] [] sh I L R (mOp sh I L R (zI (oWeight A r)) A) := by
  obtain ⟨hM, hN, hHis, hKep, hTap, hShe⟩ := id h
  obtain ⟨⟨s0, s1, s2, s3, s4, s5, s6, s7, s8, s9, s10, s11, s12, s13, s14, s15⟩, r0, r1, r2, r3, r4, r5, r6, r7, r8, r9, r10, r11, r12, r13, r14⟩ := id hM
  obtain ⟨⟨hSr, hS7, hS8⟩, hQ⟩ := id hN
  have e6 := hQ.1.1
  have hn5 := hSr.1
  have z1 := zwi_r r 0 (nvw (I 158) 0 6 - 1)
  refine z_mN ?_
  refine z_aload0 1 dX7_weight_0 rfl ?_
  refine z_iload1 2 dX7_weight_1 rfl ?_
  refine z_xV1 5 dX7_weight_2 lk_X7_weight_94 (ct_X7_isRider hM hn5 hr) rfl (Nat.le_of_ble_eq_true rfl) (Nat.le_of_ble_eq_true rfl) (by assumption) rfl rfl ?_
  refine z_if_ne 10 8 dX7_weight_5 (by decide) rfl (by omega) (fun h5 => ?_) (fun h5 => ?_)
  · have g5 := zwi_ne0 h5
    obtain ⟨q, rfl⟩ : ∃ q : Nat, r = (q : Int) := ⟨r.toNat, by omega⟩
    have el := lp_X7_weight (X := X) (r := q) h hu (by omega) 20 20 (-4) _ rfl (by omega) (mFo_0 I)
    rw [mdn_l, show (if lup (fun v => 0 ≤ sfe (zup A.1 4 q (v : Int)) q ∧ sfe (zup A.1 4 q (v : Int)) q ≤ 7) 20 1 = -4 then (-4 : Int) else lup (fun v => 0 ≤ sfe (zup A.1 4 q (v : Int)) q ∧ sfe (zup A.1 4 q (v : Int)) q ≤ 7) 20 1) = swg A.1 q 20 1 by
      rw [swg_l]
      split
      · rename_i h1; rw [h1]
      · rfl] at el
    rw [show oWeight A q = swg A.1 q 20 1 by unfold oWeight; rw [if_pos (by omega), Int.toNat_natCast]]
    refine z_bipush 12 dX7_weight_10 (by decide) rfl ?_
    refine z_istore2 13 dX7_weight_12 (Nat.le_of_ble_eq_true rfl) rfl rfl ?_
    refine z_aload0 14 dX7_weight_13 rfl ?_
    refine z_xVv0 17 dX7_weight_14 lk_X7_weight_181 (fo_asides hM) rfl (Nat.le_of_ble_eq_true rfl) (Nat.le_of_ble_eq_true rfl) (by assumption) rfl rfl ?_
    refine z_bipush 19 dX7_weight_17 (by decide) rfl ?_
    refine z_istore3 20 dX7_weight_19 (Nat.le_of_ble_eq_true rfl) rfl rfl ?_
    exact el
  · have g5 := zwi_eq0 h5
    refine z_iconst 9 dX7_weight_8 rfl ?_
    exact z_ireturn dX7_weight_9 rfl (mOp_sameN h (by unfold oWeight; rw [if_neg (by omega)]))
end MODJ
