/-! ===== calls on the reference: riders, turns, the tape, the draw ===== -/
theorem zuq_q {S S' : zT} (h : zQe S S') (hu : zuq S') : zuq S := fun p q hp hq h1 h2 h3 => by
  rw [(h.2.2 p hp).2.2.2] at h1 h2 h3
  rw [(h.2.2 q hq).2.2.2] at h3
  exact hu p q (by rw [← h.1.1]; exact hp) (by rw [← h.1.1]; exact hq) h1 h2 h3
theorem zor_0 {x : Int} (h : -2147483648 ≤ x ∧ x ≤ 2147483647) : zor x 0 = x := by
  unfold zor
  rw [show Int32.ofInt 0 = 0 from rfl, Int32.or_zero, zn_T h]
theorem zor_r (x y : Int) : -2147483648 ≤ zor x y ∧ zor x y ≤ 2147483647 := z32_r _
section MODE
variable {X : zXs} {sh : zH} {I J L : zI2} {R : zR2} {N : Nat → Int} {S : zT} {A : zA}
theorem ct_X7_riderComes {n : Nat} {k v l : Int} (hM : zMs sh R) (hn : S 0 6 = (n : Int)) (h5 : n < 5) : zE X mX7_riderComes 0 0 0 [zR 157, zI k, zI v, zI l, zX] [] sh (mN J N S) L R (zEq [] sh (mN (zup J 157 9 0) N (sad S n k v l)) L R) := by
  obtain ⟨⟨s0, s1, s2, s3, s4, s5, s6, s7, s8, s9, s10, s11, s12, s13, s14, s15⟩, r0, r1, r2, r3, r4, r5, r6, r7, r8, r9, r10, r11, r12, r13, r14⟩ := id hM
  refine z_aload0 1 dX7_riderComes_0 rfl ?_
  refine z_getR 4 dX7_riderComes_1 fl_RX7_7 (by assumption) (by assumption) rfl ?_
  refine z_iconst 5 dX7_riderComes_4 rfl ?_
  refine z_ialdx 6 (0) dX7_riderComes_5 (by assumption) (by omega) (by omega) ((mN_0 _ _ _).trans hn) rfl ?_
  refine z_istore4 8 dX7_riderComes_6 (Nat.le_of_ble_eq_true rfl) rfl rfl ?_
  refine z_aload0 9 dX7_riderComes_8 rfl ?_
  refine z_iload4 11 dX7_riderComes_9 rfl ?_
  refine z_iconst 12 dX7_riderComes_11 rfl ?_
  refine z_iload1 13 dX7_riderComes_12 rfl ?_
  refine z_xVv3 16 dX7_riderComes_13 lk_X7_riderComes_70 (ct_X7_tells (w := 0) (k := 3) hM h5 (by decide) rfl) rfl (Nat.le_of_ble_eq_true rfl) (Nat.le_of_ble_eq_true rfl) (by assumption) rfl rfl ?_
  refine z_aload0 17 dX7_riderComes_16 rfl ?_
  refine z_iload4 19 dX7_riderComes_17 rfl ?_
  refine z_iconst 20 dX7_riderComes_19 rfl ?_
  refine z_iload2 21 dX7_riderComes_20 rfl ?_
  refine z_xVv3 24 dX7_riderComes_21 lk_X7_riderComes_70 (ct_X7_tells (w := 1) (k := 4) hM h5 (by decide) rfl) rfl (Nat.le_of_ble_eq_true rfl) (Nat.le_of_ble_eq_true rfl) (by assumption) rfl rfl ?_
  refine z_aload0 25 dX7_riderComes_24 rfl ?_
  refine z_iload4 27 dX7_riderComes_25 rfl ?_
  refine z_iconst 28 dX7_riderComes_27 rfl ?_
  refine z_iload3 29 dX7_riderComes_28 rfl ?_
  refine z_xVv3 32 dX7_riderComes_29 lk_X7_riderComes_70 (ct_X7_tells (w := 2) (k := 5) hM h5 (by decide) rfl) rfl (Nat.le_of_ble_eq_true rfl) (Nat.le_of_ble_eq_true rfl) (by assumption) rfl rfl ?_
  refine z_aload0 33 dX7_riderComes_32 rfl ?_
  refine z_iload4 35 dX7_riderComes_33 rfl ?_
  refine z_iconst 36 dX7_riderComes_35 rfl ?_
  refine z_bipush 38 dX7_riderComes_36 (by decide) rfl ?_
  refine z_xVv3 41 dX7_riderComes_38 lk_X7_riderComes_70 (ct_X7_tells (w := 3) (k := 6) hM h5 (by decide) rfl) rfl (Nat.le_of_ble_eq_true rfl) (Nat.le_of_ble_eq_true rfl) (by assumption) rfl rfl ?_
  refine z_aload0 42 dX7_riderComes_41 rfl ?_
  refine z_getR 45 dX7_riderComes_42 fl_RX7_7 (by assumption) (by assumption) rfl ?_
  refine z_iconst 46 dX7_riderComes_45 rfl ?_
  refine z_dup2 47 dX7_riderComes_46 rfl rfl rfl ?_
  refine z_ialdx 48 (0) dX7_riderComes_47 (by assumption) (by omega) (by omega) ((mN_0 _ _ _).trans (show zup (zup (zup (zup S 3 n k) 4 n v) 5 n l) 6 n 30 0 6 = (n : Int) by rw [zup_row _ _ (by decide), zup_row _ _ (by decide), zup_row _ _ (by decide), zup_row _ _ (by decide)]; exact hn)) rfl ?_
  refine z_iconst 49 dX7_riderComes_48 rfl ?_
  refine z_iadd 50 dX7_riderComes_49 rfl ?_
  refine z_iastx 51 (0) dX7_riderComes_50 (by assumption) (by omega) (by omega) (mN_up _ _ _ (i := 0) (j := 6) (by unfold nix; omega) _) rfl ?_
  refine z_aload0 52 dX7_riderComes_51 rfl ?_
  refine z_iconst 53 dX7_riderComes_52 rfl ?_
  refine z_putIx 56 dX7_riderComes_53 fp_RX7_81 (by assumption) (mN_upo _ _ _ (by decide) _ _) rfl ?_
  exact z_return dX7_riderComes_56 rfl (⟨rfl, rfl, rfl, rfl, rfl⟩)
theorem op_X7_rider {k v l : Int} (h : mCA sh R I L A) (hk : -2147483648 ≤ k ∧ k ≤ 2147483647) (hv : -2147483648 ≤ v ∧ v ≤ 2147483647) (hl : -2147483648 ≤ l ∧ l ≤ 2147483647) : zE X mX7_rider 0 0 0 [zR 157, zI k, zI v, zI l] [] sh I L R (mOp sh I L R (zI (oRider A k v l).1) (oRider A k v l).2) := by
  obtain ⟨hM, hN, hHis, hKep, hTap, hShe⟩ := id h
  obtain ⟨⟨s0, s1, s2, s3, s4, s5, s6, s7, s8, s9, s10, s11, s12, s13, s14, s15⟩, r0, r1, r2, r3, r4, r5, r6, r7, r8, r9, r10, r11, r12, r13, r14⟩ := id hM
  obtain ⟨⟨hSr, hS7, hS8⟩, hQ⟩ := id hN
  have e6 := hQ.1.1
  have hn5 := hSr.1
  have z1 := zwi_r k 0 4
  have z2 := zwi_r v 1 20
  have z3 := zwi_r l 0 7
  refine z_mN ?_
  refine z_iload1 1 dX7_rider_0 rfl ?_
  refine z_i2l 2 dX7_rider_1 (by omega) rfl ?_
  refine z_lconst0 3 dX7_rider_2 rfl ?_
  refine z_ldc2 6 dX7_rider_3 kl_RX7_85 rfl ?_
  refine z_xS3 9 dX7_rider_6 lk_X7_rider_56 (ct_X7_in (by omega) (by omega) (by omega)) rfl (Nat.le_of_ble_eq_true rfl) (Nat.le_of_ble_eq_true rfl) rfl ?_
  refine z_if_eq 36 12 dX7_rider_9 (by decide) rfl (by omega) (fun h9 => ?_) (fun h9 => ?_)
  · have g9 := zwi_eq0 h9
    refine z_iconst 37 dX7_rider_36 rfl ?_
    exact z_ireturn dX7_rider_37 rfl ((by rw [show oRider A k v l = (-1, A) by unfold oRider; rw [if_neg (by omega)]]; exact mOp_sameN h rfl))
  · have g9 := zwi_ne0 h9
    refine z_iload2 13 dX7_rider_12 rfl ?_
    refine z_i2l 14 dX7_rider_13 (by omega) rfl ?_
    refine z_lconst1 15 dX7_rider_14 rfl ?_
    refine z_ldc2 18 dX7_rider_15 kl_RX7_87 rfl ?_
    refine z_xS3 21 dX7_rider_18 lk_X7_rider_56 (ct_X7_in (by omega) (by omega) (by omega)) rfl (Nat.le_of_ble_eq_true rfl) (Nat.le_of_ble_eq_true rfl) rfl ?_
    refine z_if_eq 36 24 dX7_rider_21 (by decide) rfl (by omega) (fun h21 => ?_) (fun h21 => ?_)
    · have g21 := zwi_eq0 h21
      refine z_iconst 37 dX7_rider_36 rfl ?_
      exact z_ireturn dX7_rider_37 rfl ((by rw [show oRider A k v l = (-1, A) by unfold oRider; rw [if_neg (by omega)]]; exact mOp_sameN h rfl))
    · have g21 := zwi_ne0 h21
      refine z_iload3 25 dX7_rider_24 rfl ?_
      refine z_i2l 26 dX7_rider_25 (by omega) rfl ?_
      refine z_lconst0 27 dX7_rider_26 rfl ?_
      refine z_ldc2 30 dX7_rider_27 kl_RX7_89 rfl ?_
      refine z_xS3 33 dX7_rider_30 lk_X7_rider_56 (ct_X7_in (by omega) (by omega) (by omega)) rfl (Nat.le_of_ble_eq_true rfl) (Nat.le_of_ble_eq_true rfl) rfl ?_
      refine z_if_ne 38 36 dX7_rider_33 (by decide) rfl (by omega) (fun h33 => ?_) (fun h33 => ?_)
      · have g33 := zwi_ne0 h33
        refine z_aload0 39 dX7_rider_38 rfl ?_
        refine z_getR 42 dX7_rider_39 fl_RX7_7 (by assumption) (by assumption) rfl ?_
        refine z_iconst 43 dX7_rider_42 rfl ?_
        refine z_ialdx 44 (0) dX7_rider_43 (by assumption) (by omega) (by omega) (mN_0 _ _ _) rfl ?_
        refine z_iconst 45 dX7_rider_44 rfl ?_
        refine z_icmp_ne 51 48 dX7_rider_45 (by decide) rfl (by omega) (by omega) (fun h45 => ?_) (fun h45 => ?_)
        · obtain ⟨n, hn⟩ : ∃ n : Nat, nvw (I 158) 0 6 = (n : Int) := ⟨(nvw (I 158) 0 6).toNat, by omega⟩
          refine z_aload0 52 dX7_rider_51 rfl ?_
          refine z_iload1 53 dX7_rider_52 rfl ?_
          refine z_iload2 54 dX7_rider_53 rfl ?_
          refine z_iload3 55 dX7_rider_54 rfl ?_
          refine z_xVv3 58 dX7_rider_55 lk_X7_rider_91 (ct_X7_riderComes hM hn (by omega)) rfl (Nat.le_of_ble_eq_true rfl) (Nat.le_of_ble_eq_true rfl) (by assumption) rfl rfl ?_
          refine z_aload0 59 dX7_rider_58 rfl ?_
          refine z_getR 62 dX7_rider_59 fl_RX7_7 (by assumption) (by assumption) rfl ?_
          refine z_iconst 63 dX7_rider_62 rfl ?_
          refine z_ialdx 64 (0) dX7_rider_63 (by assumption) (by omega) (by omega) ((mN_0 _ _ _).trans (sad_6 _ _ _ _ _)) rfl ?_
          refine z_iconst 65 dX7_rider_64 rfl ?_
          refine z_isub 66 dX7_rider_65 rfl ?_
          exact z_ireturn dX7_rider_66 rfl ((by
              rw [show oRider A k v l = ((n : Int), (sad A.1 n k v l, [], A.2.2)) by unfold oRider; rw [if_pos (by omega), if_neg (by omega), show (A.1 0 6).toNat = n by omega, ← e6, hn]]
              have h1 : mCA sh R (zup I 157 9 0) L (A.1, [], A.2.2) := ⟨hM, by rw [zup_row _ _ (by decide)]; exact hN, ⟨zup_at _ _ _ _, Nat.zero_le _, fun i s hs => by cases hs⟩, mKep_of (zup_ne _ _ (by omega)) (zup_ne _ _ (by omega)) (zup_row _ _ (by decide)) hKep, mTap_of (zup_ne _ _ (by omega)) (zup_row _ _ (by decide)) hTap, mShe_of (zup_row _ _ (by decide)) (zup_row _ _ (by decide)) rfl hShe⟩
              have k1 := mOp_now (N := I 158) (x := zI ((n : Int) + 1 - 1)) (y := zI (n : Int)) h1 (fun _ _ => rfl) (sad_sg ⟨hSr, hS7, hS8⟩ (n := n) (by omega) g9 g21 g33) (sad_c hQ hn k v l) (by rw [show (n : Int) + 1 - 1 = n by omega])
              exact ⟨k1.1, k1.2.1, k1.2.2.1, k1.2.2.2.1, fun a ha => ⟨by rw [(k1.2.2.2.2 a ha).1, zup_row _ _ (by omega)], rfl⟩⟩))
        · refine z_bipush 50 dX7_rider_48 (by decide) rfl ?_
          exact z_ireturn dX7_rider_50 rfl ((by rw [show oRider A k v l = (-3, A) by unfold oRider; rw [if_pos (by omega), if_pos (by omega)]]; exact mOp_sameN h rfl))
      · have g33 := zwi_eq0 h33
        refine z_iconst 37 dX7_rider_36 rfl ?_
        exact z_ireturn dX7_rider_37 rfl ((by rw [show oRider A k v l = (-1, A) by unfold oRider; rw [if_neg (by omega)]]; exact mOp_sameN h rfl))
theorem op_X7_lean {r v : Int} (h : mCA sh R I L A) (hr : -2147483648 ≤ r ∧ r ≤ 2147483647) (hv : -2147483648 ≤ v ∧ v ≤ 2147483647) : zE X mX7_lean 0 0 0 [zR 157, zI r, zI v, zX] [] sh I L R (mOp sh I L R (zI (oLean A r v).1) (oLean A r v).2) := by
  obtain ⟨hM, hN, hHis, hKep, hTap, hShe⟩ := id h
  obtain ⟨⟨s0, s1, s2, s3, s4, s5, s6, s7, s8, s9, s10, s11, s12, s13, s14, s15⟩, r0, r1, r2, r3, r4, r5, r6, r7, r8, r9, r10, r11, r12, r13, r14⟩ := id hM
  obtain ⟨⟨hSr, hS7, hS8⟩, hQ⟩ := id hN
  have e6 := hQ.1.1
  have hn5 := hSr.1
  have z1 := zwi_r r 0 (nvw (I 158) 0 6 - 1)
  have z2 := zwi_r v 0 7
  refine z_mN ?_
  refine z_aload0 1 dX7_lean_0 rfl ?_
  refine z_iload1 2 dX7_lean_1 rfl ?_
  refine z_xV1 5 dX7_lean_2 lk_X7_lean_94 (ct_X7_isRider hM hn5 hr) rfl (Nat.le_of_ble_eq_true rfl) (Nat.le_of_ble_eq_true rfl) (by assumption) rfl rfl ?_
  refine z_if_eq 20 8 dX7_lean_5 (by decide) rfl (by omega) (fun h5 => ?_) (fun h5 => ?_)
  · have g5 := zwi_eq0 h5
    refine z_iconst 21 dX7_lean_20 rfl ?_
    exact z_ireturn dX7_lean_21 rfl ((by rw [show oLean A r v = (-1, A) by unfold oLean; rw [if_neg (by omega)]]; exact mOp_sameN h rfl))
  · have g5 := zwi_ne0 h5
    refine z_iload2 9 dX7_lean_8 rfl ?_
    refine z_i2l 10 dX7_lean_9 (by omega) rfl ?_
    refine z_lconst0 11 dX7_lean_10 rfl ?_
    refine z_ldc2 14 dX7_lean_11 kl_RX7_89 rfl ?_
    refine z_xS3 17 dX7_lean_14 lk_X7_lean_56 (ct_X7_in (by omega) (by omega) (by omega)) rfl (Nat.le_of_ble_eq_true rfl) (Nat.le_of_ble_eq_true rfl) rfl ?_
    refine z_if_ne 22 20 dX7_lean_17 (by decide) rfl (by omega) (fun h17 => ?_) (fun h17 => ?_)
    · have g17 := zwi_ne0 h17
      obtain ⟨q, rfl⟩ : ∃ q : Nat, r = (q : Int) := ⟨r.toNat, by omega⟩
      have hq := hQ.2.2 q (by omega)
      refine z_aload0 23 dX7_lean_22 rfl ?_
      refine z_iload1 24 dX7_lean_23 rfl ?_
      refine z_iconst 25 dX7_lean_24 rfl ?_
      refine z_xV2 28 dX7_lean_25 lk_X7_lean_62 (ct_X7_told (w := 2) (k := 5) hM (by omega) (by decide) rfl) rfl (Nat.le_of_ble_eq_true rfl) (Nat.le_of_ble_eq_true rfl) (by assumption) rfl rfl ?_
      refine z_istore3 29 dX7_lean_28 (Nat.le_of_ble_eq_true rfl) rfl rfl ?_
      refine z_aload0 30 dX7_lean_29 rfl ?_
      refine z_iload1 31 dX7_lean_30 rfl ?_
      refine z_iconst 32 dX7_lean_31 rfl ?_
      refine z_iload2 33 dX7_lean_32 rfl ?_
      refine z_xVv3 36 dX7_lean_33 lk_X7_lean_70 (ct_X7_tells (w := 2) (k := 5) hM (by omega) (by decide) rfl) rfl (Nat.le_of_ble_eq_true rfl) (Nat.le_of_ble_eq_true rfl) (by assumption) rfl rfl ?_
      refine z_iload3 37 dX7_lean_36 rfl ?_
      exact z_ireturn dX7_lean_37 rfl ((by
          rw [show oLean A q v = (A.1 5 q, (zup A.1 5 q v, A.2)) by unfold oLean; rw [if_pos (by omega), Int.toNat_natCast]]
          exact mOp_now h (fun _ _ => rfl) ⟨zSr_up5 hSr q (by omega), by rw [zup_row _ _ (by decide)]; exact hS7, by rw [zup_row _ _ (by decide)]; exact hS8⟩ (zQe_up hQ (by omega) v) (by rw [hq.2.2.1])))
    · have g17 := zwi_eq0 h17
      refine z_iconst 21 dX7_lean_20 rfl ?_
      exact z_ireturn dX7_lean_21 rfl ((by rw [show oLean A r v = (-1, A) by unfold oLean; rw [if_neg (by omega)]]; exact mOp_sameN h rfl))
theorem op_X7_of {r w : Int} (h : mCA sh R I L A) (hr : -2147483648 ≤ r ∧ r ≤ 2147483647) (hw : -2147483648 ≤ w ∧ w ≤ 2147483647) : zE X mX7_of 0 0 0 [zR 157, zI r, zI w] [] sh I L R (mOp sh I L R (zI (oOf A r w)) A) := by
  obtain ⟨hM, hN, hHis, hKep, hTap, hShe⟩ := id h
  obtain ⟨⟨s0, s1, s2, s3, s4, s5, s6, s7, s8, s9, s10, s11, s12, s13, s14, s15⟩, r0, r1, r2, r3, r4, r5, r6, r7, r8, r9, r10, r11, r12, r13, r14⟩ := id hM
  obtain ⟨⟨hSr, hS7, hS8⟩, hQ⟩ := id hN
  have e6 := hQ.1.1
  have hn5 := hSr.1
  have z1 := zwi_r r 0 (nvw (I 158) 0 6 - 1)
  have z2 := zwi_r w 0 3
  refine z_mN ?_
  refine z_aload0 1 dX7_of_0 rfl ?_
  refine z_iload1 2 dX7_of_1 rfl ?_
  refine z_xV1 5 dX7_of_2 lk_X7_of_94 (ct_X7_isRider hM hn5 hr) rfl (Nat.le_of_ble_eq_true rfl) (Nat.le_of_ble_eq_true rfl) (by assumption) rfl rfl ?_
  refine z_if_eq 29 8 dX7_of_5 (by decide) rfl (by omega) (fun h5 => ?_) (fun h5 => ?_)
  · have g5 := zwi_eq0 h5
    refine z_iconst 30 dX7_of_29 rfl ?_
    exact z_ireturn dX7_of_30 rfl (mOp_sameN h (by
        first
          | (rw [show oOf A r w = -1 by unfold oOf; first | rw [if_neg (by omega)] | (rw [if_pos (by omega), if_neg (by omega), if_neg (by omega), if_neg (by omega), if_neg (by omega)])])
          | (have eo : oOf A q u = (if (u : Int) = 0 then A.1 3 q else if (u : Int) = 1 then A.1 4 q else if (u : Int) = 2 then A.1 5 q else if (u : Int) = 3 then A.1 6 q else -1) := by unfold oOf; rw [if_pos (by omega), Int.toNat_natCast]
             rw [eo]
             rcases (by omega : u = 0 ∨ u = 1 ∨ u = 2 ∨ u = 3) with rfl | rfl | rfl | rfl
             · exact congrArg zI hq.1
             · exact congrArg zI hq.2.1
             · exact congrArg zI hq.2.2.1
             · exact congrArg zI hq.2.2.2)))
  · have g5 := zwi_ne0 h5
    refine z_iload2 9 dX7_of_8 rfl ?_
    refine z_i2l 10 dX7_of_9 (by omega) rfl ?_
    refine z_lconst0 11 dX7_of_10 rfl ?_
    refine z_ldc2 14 dX7_of_11 kl_RX7_98 rfl ?_
    refine z_xS3 17 dX7_of_14 lk_X7_of_56 (ct_X7_in (by omega) (by omega) (by omega)) rfl (Nat.le_of_ble_eq_true rfl) (Nat.le_of_ble_eq_true rfl) rfl ?_
    refine z_if_eq 29 20 dX7_of_17 (by decide) rfl (by omega) (fun h17 => ?_) (fun h17 => ?_)
    · have g17 := zwi_eq0 h17
      refine z_iconst 30 dX7_of_29 rfl ?_
      exact z_ireturn dX7_of_30 rfl (mOp_sameN h (by
          first
            | (rw [show oOf A r w = -1 by unfold oOf; first | rw [if_neg (by omega)] | (rw [if_pos (by omega), if_neg (by omega), if_neg (by omega), if_neg (by omega), if_neg (by omega)])])
            | (have eo : oOf A q u = (if (u : Int) = 0 then A.1 3 q else if (u : Int) = 1 then A.1 4 q else if (u : Int) = 2 then A.1 5 q else if (u : Int) = 3 then A.1 6 q else -1) := by unfold oOf; rw [if_pos (by omega), Int.toNat_natCast]
               rw [eo]
               rcases (by omega : u = 0 ∨ u = 1 ∨ u = 2 ∨ u = 3) with rfl | rfl | rfl | rfl
               · exact congrArg zI hq.1
               · exact congrArg zI hq.2.1
               · exact congrArg zI hq.2.2.1
               · exact congrArg zI hq.2.2.2)))
    · have g17 := zwi_ne0 h17
      obtain ⟨q, rfl⟩ : ∃ q : Nat, r = (q : Int) := ⟨r.toNat, by omega⟩
      obtain ⟨u, rfl⟩ : ∃ q : Nat, w = (q : Int) := ⟨w.toNat, by omega⟩
      have hq := hQ.2.2 q (by omega)
      refine z_aload0 21 dX7_of_20 rfl ?_
      refine z_iload1 22 dX7_of_21 rfl ?_
      refine z_iload2 23 dX7_of_22 rfl ?_
      refine z_xV2 26 dX7_of_23 lk_X7_of_62 (ct_X7_told (k := 3 + u) hM (by omega) (by omega) rfl) rfl (Nat.le_of_ble_eq_true rfl) (Nat.le_of_ble_eq_true rfl) (by assumption) rfl rfl ?_
      refine z_goto 30 dX7_of_26 (by decide) ?_
      exact z_ireturn dX7_of_30 rfl (mOp_sameN h (by
          first
            | (rw [show oOf A r w = -1 by unfold oOf; first | rw [if_neg (by omega)] | (rw [if_pos (by omega), if_neg (by omega), if_neg (by omega), if_neg (by omega), if_neg (by omega)])])
            | (have eo : oOf A q u = (if (u : Int) = 0 then A.1 3 q else if (u : Int) = 1 then A.1 4 q else if (u : Int) = 2 then A.1 5 q else if (u : Int) = 3 then A.1 6 q else -1) := by unfold oOf; rw [if_pos (by omega), Int.toNat_natCast]
               rw [eo]
               rcases (by omega : u = 0 ∨ u = 1 ∨ u = 2 ∨ u = 3) with rfl | rfl | rfl | rfl
               · exact congrArg zI hq.1
               · exact congrArg zI hq.2.1
               · exact congrArg zI hq.2.2.1
               · exact congrArg zI hq.2.2.2)))
theorem op_X7_at {t w : Int} (h : mCA sh R I L A) (hu : zuq A.1) (ht : -2147483648 ≤ t ∧ t ≤ 2147483647) (hw : -2147483648 ≤ w ∧ w ≤ 2147483647) : zE X mX7_at 0 0 0 [zR 157, zI t, zI w] [] sh I L R (mOp sh I L R (zI (oAt A t w)) A) := by
  obtain ⟨hM, hN, hHis, hKep, hTap, hShe⟩ := id h
  obtain ⟨⟨s0, s1, s2, s3, s4, s5, s6, s7, s8, s9, s10, s11, s12, s13, s14, s15⟩, r0, r1, r2, r3, r4, r5, r6, r7, r8, r9, r10, r11, r12, r13, r14⟩ := id hM
  obtain ⟨⟨hSr, hS7, hS8⟩, hQ⟩ := id hN
  have e6 := hQ.1.1
  have hn5 := hSr.1
  have z1 := zwi_r t 0 9
  have z2 := zwi_r w 0 2
  have huN := zuq_q hQ hu
  refine z_mN ?_
  refine z_iload1 1 dX7_at_0 rfl ?_
  refine z_xS1 4 dX7_at_1 lk_X7_at_100 (ct_X7_isTurn ht) rfl (Nat.le_of_ble_eq_true rfl) (Nat.le_of_ble_eq_true rfl) rfl ?_
  refine z_if_eq 19 7 dX7_at_4 (by decide) rfl (by omega) (fun h4 => ?_) (fun h4 => ?_)
  · have g4 := zwi_eq0 h4
    refine z_iconst 20 dX7_at_19 rfl ?_
    exact z_ireturn dX7_at_20 rfl (mOp_sameN h (by
        rw [show oAt A t w = -1 by unfold oAt; first | rw [if_neg (by omega)] | rw [if_pos (by omega), if_neg (by omega), if_neg (by omega), if_neg (by omega)]]))
  · have g4 := zwi_ne0 h4
    refine z_iload2 8 dX7_at_7 rfl ?_
    refine z_i2l 9 dX7_at_8 (by omega) rfl ?_
    refine z_lconst0 10 dX7_at_9 rfl ?_
    refine z_ldc2 13 dX7_at_10 kl_RX7_103 rfl ?_
    refine z_xS3 16 dX7_at_13 lk_X7_at_56 (ct_X7_in (by omega) (by omega) (by omega)) rfl (Nat.le_of_ble_eq_true rfl) (Nat.le_of_ble_eq_true rfl) rfl ?_
    refine z_if_ne 21 19 dX7_at_16 (by decide) rfl (by omega) (fun h16 => ?_) (fun h16 => ?_)
    · have g16 := zwi_ne0 h16
      obtain ⟨q, rfl⟩ : ∃ q : Nat, t = (q : Int) := ⟨t.toNat, by omega⟩
      have hq := hQ.2.1 q (by omega)
      have eo : oAt A q w = (if w = 0 then A.1 1 q else if w = 1 then A.1 2 q else if w = 2 then sst A.1 q else -1) := by unfold oAt; rw [if_pos (by omega), Int.toNat_natCast]
      rw [eo]
      refine z_iload2 22 dX7_at_21 rfl ?_
      refine z_if_ne 36 25 dX7_at_22 (by decide) rfl (by omega) (fun h22 => ?_) (fun h22 => ?_)
      · refine z_iload2 37 dX7_at_36 rfl ?_
        refine z_iconst 38 dX7_at_37 rfl ?_
        refine z_icmp_ne 53 41 dX7_at_38 (by decide) rfl (by omega) (by omega) (fun h38 => ?_) (fun h38 => ?_)
        · refine z_aload0 54 dX7_at_53 rfl ?_
          refine z_iload1 55 dX7_at_54 rfl ?_
          refine z_xV1 58 dX7_at_55 lk_X7_at_78 (ct_X7_whoStuck hM hSr (by omega)) rfl (Nat.le_of_ble_eq_true rfl) (Nat.le_of_ble_eq_true rfl) (by assumption) rfl rfl ?_
          exact z_ireturn dX7_at_58 rfl (mOp_sameN h (by
              first
                | (rw [if_pos (by omega), hq.1])
                | (rw [if_neg (by omega), if_pos (by omega), hq.2])
                | (rw [if_neg (by omega), if_neg (by omega), if_pos (by omega), mwho_s hn5.1 huN (by omega), sst_c hQ q])))
        · refine z_aload0 42 dX7_at_41 rfl ?_
          refine z_getR 45 dX7_at_42 fl_RX7_7 (by assumption) (by assumption) rfl ?_
          refine z_bipush 47 dX7_at_45 (by decide) rfl ?_
          refine z_iload1 48 dX7_at_47 rfl ?_
          refine z_iadd 49 dX7_at_48 rfl ?_
          refine z_ialdx 50 (13 + q) dX7_at_49 (by assumption) (by omega) (by omega) (mN_b _ _ _ (by omega)) rfl ?_
          refine z_goto 58 dX7_at_50 (by decide) ?_
          exact z_ireturn dX7_at_58 rfl (mOp_sameN h (by
              first
                | (rw [if_pos (by omega), hq.1])
                | (rw [if_neg (by omega), if_pos (by omega), hq.2])
                | (rw [if_neg (by omega), if_neg (by omega), if_pos (by omega), mwho_s hn5.1 huN (by omega), sst_c hQ q])))
      · refine z_aload0 26 dX7_at_25 rfl ?_
        refine z_getR 29 dX7_at_26 fl_RX7_7 (by assumption) (by assumption) rfl ?_
        refine z_iconst 30 dX7_at_29 rfl ?_
        refine z_iload1 31 dX7_at_30 rfl ?_
        refine z_iadd 32 dX7_at_31 rfl ?_
        refine z_ialdx 33 (3 + q) dX7_at_32 (by assumption) (by omega) (by omega) (mN_r _ _ _ (by omega)) rfl ?_
        refine z_goto 58 dX7_at_33 (by decide) ?_
        exact z_ireturn dX7_at_58 rfl (mOp_sameN h (by
            first
              | (rw [if_pos (by omega), hq.1])
              | (rw [if_neg (by omega), if_pos (by omega), hq.2])
              | (rw [if_neg (by omega), if_neg (by omega), if_pos (by omega), mwho_s hn5.1 huN (by omega), sst_c hQ q])))
    · have g16 := zwi_eq0 h16
      refine z_iconst 20 dX7_at_19 rfl ?_
      exact z_ireturn dX7_at_20 rfl (mOp_sameN h (by
          rw [show oAt A t w = -1 by unfold oAt; first | rw [if_neg (by omega)] | rw [if_pos (by omega), if_neg (by omega), if_neg (by omega), if_neg (by omega)]]))
theorem op_X7_gains {r t v : Int} (h : mCA sh R I L A) (hr : -2147483648 ≤ r ∧ r ≤ 2147483647) (ht : -2147483648 ≤ t ∧ t ≤ 2147483647) (hv : -2147483648 ≤ v ∧ v ≤ 2147483647) : zE X mX7_gains 0 0 0 [zR 157, zI r, zI t, zI v] [] sh I L R (mOp sh I L R (zI (oGains A r t v)) A) := by
  obtain ⟨hM, hN, hHis, hKep, hTap, hShe⟩ := id h
  obtain ⟨⟨s0, s1, s2, s3, s4, s5, s6, s7, s8, s9, s10, s11, s12, s13, s14, s15⟩, r0, r1, r2, r3, r4, r5, r6, r7, r8, r9, r10, r11, r12, r13, r14⟩ := id hM
  obtain ⟨⟨hSr, hS7, hS8⟩, hQ⟩ := id hN
  have e6 := hQ.1.1
  have hn5 := hSr.1
  have z1 := zwi_r r 0 (nvw (I 158) 0 6 - 1)
  have z2 := zwi_r t 0 9
  have z3 := zwi_r v 0 30
  refine z_mN ?_
  refine z_aload0 1 dX7_gains_0 rfl ?_
  refine z_iload1 2 dX7_gains_1 rfl ?_
  refine z_xV1 5 dX7_gains_2 lk_X7_gains_94 (ct_X7_isRider hM hn5 hr) rfl (Nat.le_of_ble_eq_true rfl) (Nat.le_of_ble_eq_true rfl) (by assumption) rfl rfl ?_
  refine z_if_eq 37 8 dX7_gains_5 (by decide) rfl (by omega) (fun h5 => ?_) (fun h5 => ?_)
  · have g5 := zwi_eq0 h5
    refine z_iconst 38 dX7_gains_37 rfl ?_
    exact z_ireturn dX7_gains_38 rfl (mOp_sameN h (by first | rfl | (unfold oGains; rw [if_neg (by omega)])))
  · have g5 := zwi_ne0 h5
    refine z_iload2 9 dX7_gains_8 rfl ?_
    refine z_xS1 12 dX7_gains_9 lk_X7_gains_100 (ct_X7_isTurn ht) rfl (Nat.le_of_ble_eq_true rfl) (Nat.le_of_ble_eq_true rfl) rfl ?_
    refine z_if_eq 37 15 dX7_gains_12 (by decide) rfl (by omega) (fun h12 => ?_) (fun h12 => ?_)
    · have g12 := zwi_eq0 h12
      refine z_iconst 38 dX7_gains_37 rfl ?_
      exact z_ireturn dX7_gains_38 rfl (mOp_sameN h (by first | rfl | (unfold oGains; rw [if_neg (by omega)])))
    · have g12 := zwi_ne0 h12
      refine z_iload3 16 dX7_gains_15 rfl ?_
      refine z_i2l 17 dX7_gains_16 (by omega) rfl ?_
      refine z_lconst0 18 dX7_gains_17 rfl ?_
      refine z_ldc2 21 dX7_gains_18 kl_RX7_105 rfl ?_
      refine z_xS3 24 dX7_gains_21 lk_X7_gains_56 (ct_X7_in (by omega) (by omega) (by omega)) rfl (Nat.le_of_ble_eq_true rfl) (Nat.le_of_ble_eq_true rfl) rfl ?_
      refine z_if_eq 37 27 dX7_gains_24 (by decide) rfl (by omega) (fun h24 => ?_) (fun h24 => ?_)
      · have g24 := zwi_eq0 h24
        refine z_iconst 38 dX7_gains_37 rfl ?_
        exact z_ireturn dX7_gains_38 rfl (mOp_sameN h (by first | rfl | (unfold oGains; rw [if_neg (by omega)])))
      · have g24 := zwi_ne0 h24
        obtain ⟨q, rfl⟩ : ∃ q : Nat, r = (q : Int) := ⟨r.toNat, by omega⟩
        obtain ⟨p, rfl⟩ : ∃ q : Nat, t = (q : Int) := ⟨t.toNat, by omega⟩
        have eo : oGains A q p v = sgn A.1 q p v := by unfold oGains; rw [if_pos (by omega), Int.toNat_natCast, Int.toNat_natCast]
        rw [eo, ← sgn_c hQ (by omega) (by omega) v]
        refine z_aload0 28 dX7_gains_27 rfl ?_
        refine z_iload1 29 dX7_gains_28 rfl ?_
        refine z_iload2 30 dX7_gains_29 rfl ?_
        refine z_iload3 31 dX7_gains_30 rfl ?_
        refine z_xV3 34 dX7_gains_31 lk_X7_gains_74 (ct_X7_gain hM hSr (by omega) (by omega) hv) rfl (Nat.le_of_ble_eq_true rfl) (Nat.le_of_ble_eq_true rfl) (by assumption) rfl rfl ?_
        refine z_goto 38 dX7_gains_34 (by decide) ?_
        exact z_ireturn dX7_gains_38 rfl (mOp_sameN h (by first | rfl | (unfold oGains; rw [if_neg (by omega)])))
theorem lp_X7_through (hM : zMs sh R) (hr : zSr S) : ∀ (m r : Nat) (x : Int), r + m = (S 0 6).toNat → (-2147483648 ≤ x ∧ x ≤ 2147483647) → zE X mX7_through 0 0 4 [zR 157, zI x, zI (r : Int)] [] sh (mN J N S) L R (zEq [zI (zst (fun r => 0 ≤ S 6 r ∧ S 6 r ≤ 7) m r x)] sh (mN J N S) L R)
  | 0, r, x, h, hx => by
    obtain ⟨⟨s0, s1, s2, s3, s4, s5, s6, s7, s8, s9, s10, s11, s12, s13, s14, s15⟩, r0, r1, r2, r3, r4, r5, r6, r7, r8, r9, r10, r11, r12, r13, r14⟩ := id hM
    have h6 := hr.1
    refine z_iload2 5 dX7_through_4 rfl ?_
    refine z_aload0 6 dX7_through_5 rfl ?_
    refine z_getR 9 dX7_through_6 fl_RX7_7 (by assumption) (by assumption) rfl ?_
    refine z_iconst 10 dX7_through_9 rfl ?_
    refine z_ialdx 11 (0) dX7_through_10 (by assumption) (by omega) (by omega) (mN_0 _ _ _) rfl ?_
    refine z_icmp_ge 38 14 dX7_through_11 (by decide) rfl (by omega) (by omega) (fun h11 => ?_) (fun hz => absurd hz (by omega))
    refine z_iload1 39 dX7_through_38 rfl ?_
    exact z_ireturn dX7_through_39 rfl (⟨rfl, rfl, rfl, rfl, rfl⟩)
  | m + 1, r, x, h, hx => by
    obtain ⟨⟨s0, s1, s2, s3, s4, s5, s6, s7, s8, s9, s10, s11, s12, s13, s14, s15⟩, r0, r1, r2, r3, r4, r5, r6, r7, r8, r9, r10, r11, r12, r13, r14⟩ := id hM
    have h6 := hr.1
    have hp := hr.2.2.2.2.2.2 r (by omega)
    have hz := zor_0 hx
    have hz2 := zor_r x (zshl 1 (r : Int))
    have hi : (if S 6 r < 8 then (1 : Int) else 0) = 0 ∧ ¬ S 6 r < 8 ∨ (if S 6 r < 8 then (1 : Int) else 0) = 1 ∧ S 6 r < 8 := by split <;> omega
    have hct := ct_X7_isThrough (X := X) (I := J) (L := L) (R := R) (N := N) hM (r := r) (by omega) hp
    generalize (if S 6 r < 8 then (1 : Int) else 0) = b at hi hct
    refine z_iload2 5 dX7_through_4 rfl ?_
    refine z_aload0 6 dX7_through_5 rfl ?_
    refine z_getR 9 dX7_through_6 fl_RX7_7 (by assumption) (by assumption) rfl ?_
    refine z_iconst 10 dX7_through_9 rfl ?_
    refine z_ialdx 11 (0) dX7_through_10 (by assumption) (by omega) (by omega) (mN_0 _ _ _) rfl ?_
    refine z_icmp_ge 38 14 dX7_through_11 (by decide) rfl (by omega) (by omega) (fun hz => absurd hz (by omega)) (fun h11 => ?_)
    refine z_iload1 15 dX7_through_14 rfl ?_
    refine z_aload0 16 dX7_through_15 rfl ?_
    refine z_iload2 17 dX7_through_16 rfl ?_
    refine z_xV1 20 dX7_through_17 lk_X7_through_107 (hct) rfl (Nat.le_of_ble_eq_true rfl) (Nat.le_of_ble_eq_true rfl) (by assumption) rfl rfl ?_
    refine z_if_eq 29 23 dX7_through_20 (by decide) rfl (by omega) (fun h20 => ?_) (fun h20 => ?_)
    · refine z_iconst 30 dX7_through_29 rfl ?_
      refine z_ior 31 dX7_through_30 rfl ?_
      refine z_istore1 32 dX7_through_31 (Nat.le_of_ble_eq_true rfl) rfl rfl ?_
      refine z_iinc2 35 dX7_through_32 (Nat.le_of_ble_eq_true rfl) rfl rfl ?_
      refine z_goto 4 dX7_through_35 (by decide) ?_
      first | (rw [hz]; rw [show zst (fun r => 0 ≤ S 6 r ∧ S 6 r ≤ 7) (m + 1) r x = zst (fun r => 0 ≤ S 6 r ∧ S 6 r ≤ 7) m (r + 1) x by rw [zst, if_neg (by omega)]]; exact lp_X7_through hM hr m (r + 1) _ (by omega) hx) | (rw [show zst (fun r => 0 ≤ S 6 r ∧ S 6 r ≤ 7) (m + 1) r x = zst (fun r => 0 ≤ S 6 r ∧ S 6 r ≤ 7) m (r + 1) (zor x (zshl 1 (r : Int))) by rw [zst, if_pos (by omega)]]; exact lp_X7_through hM hr m (r + 1) _ (by omega) hz2)
    · refine z_iconst 24 dX7_through_23 rfl ?_
      refine z_iload2 25 dX7_through_24 rfl ?_
      refine z_ishl 26 dX7_through_25 rfl ?_
      refine z_goto 30 dX7_through_26 (by decide) ?_
      refine z_ior 31 dX7_through_30 rfl ?_
      refine z_istore1 32 dX7_through_31 (Nat.le_of_ble_eq_true rfl) rfl rfl ?_
      refine z_iinc2 35 dX7_through_32 (Nat.le_of_ble_eq_true rfl) rfl rfl ?_
      refine z_goto 4 dX7_through_35 (by decide) ?_
      first | (rw [hz]; rw [show zst (fun r => 0 ≤ S 6 r ∧ S 6 r ≤ 7) (m + 1) r x = zst (fun r => 0 ≤ S 6 r ∧ S 6 r ≤ 7) m (r + 1) x by rw [zst, if_neg (by omega)]]; exact lp_X7_through hM hr m (r + 1) _ (by omega) hx) | (rw [show zst (fun r => 0 ≤ S 6 r ∧ S 6 r ≤ 7) (m + 1) r x = zst (fun r => 0 ≤ S 6 r ∧ S 6 r ≤ 7) m (r + 1) (zor x (zshl 1 (r : Int))) by rw [zst, if_pos (by omega)]]; exact lp_X7_through hM hr m (r + 1) _ (by omega) hz2)
theorem ct_X7_through (hM : zMs sh R) (hr : zSr S) : zE X mX7_through 0 0 0 [zR 157, zX, zX] [] sh (mN J N S) L R (zEq [zI (sthr S)] sh (mN J N S) L R) := by
  refine z_iconst 1 dX7_through_0 rfl ?_
  refine z_istore1 2 dX7_through_1 (Nat.le_of_ble_eq_true rfl) rfl rfl ?_
  refine z_iconst 3 dX7_through_2 rfl ?_
  refine z_istore2 4 dX7_through_3 (Nat.le_of_ble_eq_true rfl) rfl rfl ?_
  exact lp_X7_through hM hr (S 0 6).toNat 0 0 (by omega) (by omega)
theorem lp_X7_atTop (hM : zMs sh R) (hr : zSr S) : ∀ (m r : Nat) (x : Int), r + m = (S 0 6).toNat → (-2147483648 ≤ x ∧ x ≤ 2147483647) → zE X mX7_atTop 0 0 4 [zR 157, zI x, zI (r : Int)] [] sh (mN J N S) L R (zEq [zI (zst (fun r => S 6 r = 30) m r x)] sh (mN J N S) L R)
  | 0, r, x, h, hx => by
    obtain ⟨⟨s0, s1, s2, s3, s4, s5, s6, s7, s8, s9, s10, s11, s12, s13, s14, s15⟩, r0, r1, r2, r3, r4, r5, r6, r7, r8, r9, r10, r11, r12, r13, r14⟩ := id hM
    have h6 := hr.1
    refine z_iload2 5 dX7_atTop_4 rfl ?_
    refine z_aload0 6 dX7_atTop_5 rfl ?_
    refine z_getR 9 dX7_atTop_6 fl_RX7_7 (by assumption) (by assumption) rfl ?_
    refine z_iconst 10 dX7_atTop_9 rfl ?_
    refine z_ialdx 11 (0) dX7_atTop_10 (by assumption) (by omega) (by omega) (mN_0 _ _ _) rfl ?_
    refine z_icmp_ge 40 14 dX7_atTop_11 (by decide) rfl (by omega) (by omega) (fun h11 => ?_) (fun hz => absurd hz (by omega))
    refine z_iload1 41 dX7_atTop_40 rfl ?_
    exact z_ireturn dX7_atTop_41 rfl (⟨rfl, rfl, rfl, rfl, rfl⟩)
  | m + 1, r, x, h, hx => by
    obtain ⟨⟨s0, s1, s2, s3, s4, s5, s6, s7, s8, s9, s10, s11, s12, s13, s14, s15⟩, r0, r1, r2, r3, r4, r5, r6, r7, r8, r9, r10, r11, r12, r13, r14⟩ := id hM
    have h6 := hr.1
    have hp := hr.2.2.2.2.2.2 r (by omega)
    have hz := zor_0 hx
    have hz2 := zor_r x (zshl 1 (r : Int))
    refine z_iload2 5 dX7_atTop_4 rfl ?_
    refine z_aload0 6 dX7_atTop_5 rfl ?_
    refine z_getR 9 dX7_atTop_6 fl_RX7_7 (by assumption) (by assumption) rfl ?_
    refine z_iconst 10 dX7_atTop_9 rfl ?_
    refine z_ialdx 11 (0) dX7_atTop_10 (by assumption) (by omega) (by omega) (mN_0 _ _ _) rfl ?_
    refine z_icmp_ge 40 14 dX7_atTop_11 (by decide) rfl (by omega) (by omega) (fun hz => absurd hz (by omega)) (fun h11 => ?_)
    refine z_iload1 15 dX7_atTop_14 rfl ?_
    refine z_aload0 16 dX7_atTop_15 rfl ?_
    refine z_iload2 17 dX7_atTop_16 rfl ?_
    refine z_xV1 20 dX7_atTop_17 lk_X7_atTop_66 (ct_X7_where hM (by omega)) rfl (Nat.le_of_ble_eq_true rfl) (Nat.le_of_ble_eq_true rfl) (by assumption) rfl rfl ?_
    refine z_bipush 22 dX7_atTop_20 (by decide) rfl ?_
    refine z_icmp_ne 31 25 dX7_atTop_22 (by decide) rfl (by omega) (by omega) (fun h22 => ?_) (fun h22 => ?_)
    · refine z_iconst 32 dX7_atTop_31 rfl ?_
      refine z_ior 33 dX7_atTop_32 rfl ?_
      refine z_istore1 34 dX7_atTop_33 (Nat.le_of_ble_eq_true rfl) rfl rfl ?_
      refine z_iinc2 37 dX7_atTop_34 (Nat.le_of_ble_eq_true rfl) rfl rfl ?_
      refine z_goto 4 dX7_atTop_37 (by decide) ?_
      first | (rw [hz]; rw [show zst (fun r => S 6 r = 30) (m + 1) r x = zst (fun r => S 6 r = 30) m (r + 1) x by rw [zst, if_neg (by omega)]]; exact lp_X7_atTop hM hr m (r + 1) _ (by omega) hx) | (rw [show zst (fun r => S 6 r = 30) (m + 1) r x = zst (fun r => S 6 r = 30) m (r + 1) (zor x (zshl 1 (r : Int))) by rw [zst, if_pos (by omega)]]; exact lp_X7_atTop hM hr m (r + 1) _ (by omega) hz2)
    · refine z_iconst 26 dX7_atTop_25 rfl ?_
      refine z_iload2 27 dX7_atTop_26 rfl ?_
      refine z_ishl 28 dX7_atTop_27 rfl ?_
      refine z_goto 32 dX7_atTop_28 (by decide) ?_
      refine z_ior 33 dX7_atTop_32 rfl ?_
      refine z_istore1 34 dX7_atTop_33 (Nat.le_of_ble_eq_true rfl) rfl rfl ?_
      refine z_iinc2 37 dX7_atTop_34 (Nat.le_of_ble_eq_true rfl) rfl rfl ?_
      refine z_goto 4 dX7_atTop_37 (by decide) ?_
      first | (rw [hz]; rw [show zst (fun r => S 6 r = 30) (m + 1) r x = zst (fun r => S 6 r = 30) m (r + 1) x by rw [zst, if_neg (by omega)]]; exact lp_X7_atTop hM hr m (r + 1) _ (by omega) hx) | (rw [show zst (fun r => S 6 r = 30) (m + 1) r x = zst (fun r => S 6 r = 30) m (r + 1) (zor x (zshl 1 (r : Int))) by rw [zst, if_pos (by omega)]]; exact lp_X7_atTop hM hr m (r + 1) _ (by omega) hz2)
theorem lp_X7_stuckTurns (hM : zMs sh R) (hr : zSr S) (hu : zuq S) : ∀ (m t : Nat) (x : Int), t + m = 10 → (-2147483648 ≤ x ∧ x ≤ 2147483647) → zE X mX7_stuckTurns 0 0 4 [zR 157, zI x, zI (t : Int)] [] sh (mN J N S) L R (zEq [zI (zst (fun t => ¬ sst S t = -4) m t x)] sh (mN J N S) L R)
  | 0, t, x, h, hx => by
    refine z_iload2 5 dX7_stuckTurns_4 rfl ?_
    refine z_bipush 7 dX7_stuckTurns_5 (by decide) rfl ?_
    refine z_icmp_ge 36 10 dX7_stuckTurns_7 (by decide) rfl (by omega) (by omega) (fun h7 => ?_) (fun hz => absurd hz (by omega))
    refine z_iload1 37 dX7_stuckTurns_36 rfl ?_
    exact z_ireturn dX7_stuckTurns_37 rfl (⟨rfl, rfl, rfl, rfl, rfl⟩)
  | m + 1, t, x, h, hx => by
    obtain ⟨⟨s0, s1, s2, s3, s4, s5, s6, s7, s8, s9, s10, s11, s12, s13, s14, s15⟩, r0, r1, r2, r3, r4, r5, r6, r7, r8, r9, r10, r11, r12, r13, r14⟩ := id hM
    have hz := zor_0 hx
    have hz2 := zor_r x (zshl 1 (t : Int))
    have hw := ct_X7_whoStuck (X := X) (I := J) (L := L) (R := R) (N := N) (t := t) hM hr (by omega)
    rw [mwho_s hr.1.1 hu (by omega)] at hw
    have hsr := sst_r S t hr.1.2
    refine z_iload2 5 dX7_stuckTurns_4 rfl ?_
    refine z_bipush 7 dX7_stuckTurns_5 (by decide) rfl ?_
    refine z_icmp_ge 36 10 dX7_stuckTurns_7 (by decide) rfl (by omega) (by omega) (fun hz => absurd hz (by omega)) (fun h7 => ?_)
    refine z_iload1 11 dX7_stuckTurns_10 rfl ?_
    refine z_aload0 12 dX7_stuckTurns_11 rfl ?_
    refine z_iload2 13 dX7_stuckTurns_12 rfl ?_
    refine z_xV1 16 dX7_stuckTurns_13 lk_X7_stuckTurns_78 (hw) rfl (Nat.le_of_ble_eq_true rfl) (Nat.le_of_ble_eq_true rfl) (by assumption) rfl rfl ?_
    refine z_bipush 18 dX7_stuckTurns_16 (by decide) rfl ?_
    refine z_icmp_ne 25 21 dX7_stuckTurns_18 (by decide) rfl (by omega) (by omega) (fun h18 => ?_) (fun h18 => ?_)
    · refine z_iconst 26 dX7_stuckTurns_25 rfl ?_
      refine z_iload2 27 dX7_stuckTurns_26 rfl ?_
      refine z_ishl 28 dX7_stuckTurns_27 rfl ?_
      refine z_ior 29 dX7_stuckTurns_28 rfl ?_
      refine z_istore1 30 dX7_stuckTurns_29 (Nat.le_of_ble_eq_true rfl) rfl rfl ?_
      refine z_iinc2 33 dX7_stuckTurns_30 (Nat.le_of_ble_eq_true rfl) rfl rfl ?_
      refine z_goto 4 dX7_stuckTurns_33 (by decide) ?_
      first | (rw [hz]; rw [show zst (fun t => ¬ sst S t = -4) (m + 1) t x = zst (fun t => ¬ sst S t = -4) m (t + 1) x by rw [zst, if_neg (by omega)]]; exact lp_X7_stuckTurns hM hr hu m (t + 1) _ (by omega) hx) | (rw [show zst (fun t => ¬ sst S t = -4) (m + 1) t x = zst (fun t => ¬ sst S t = -4) m (t + 1) (zor x (zshl 1 (t : Int))) by rw [zst, if_pos (by omega)]]; exact lp_X7_stuckTurns hM hr hu m (t + 1) _ (by omega) hz2)
    · refine z_iconst 22 dX7_stuckTurns_21 rfl ?_
      refine z_goto 28 dX7_stuckTurns_22 (by decide) ?_
      refine z_ior 29 dX7_stuckTurns_28 rfl ?_
      refine z_istore1 30 dX7_stuckTurns_29 (Nat.le_of_ble_eq_true rfl) rfl rfl ?_
      refine z_iinc2 33 dX7_stuckTurns_30 (Nat.le_of_ble_eq_true rfl) rfl rfl ?_
      refine z_goto 4 dX7_stuckTurns_33 (by decide) ?_
      first | (rw [hz]; rw [show zst (fun t => ¬ sst S t = -4) (m + 1) t x = zst (fun t => ¬ sst S t = -4) m (t + 1) x by rw [zst, if_neg (by omega)]]; exact lp_X7_stuckTurns hM hr hu m (t + 1) _ (by omega) hx) | (rw [show zst (fun t => ¬ sst S t = -4) (m + 1) t x = zst (fun t => ¬ sst S t = -4) m (t + 1) (zor x (zshl 1 (t : Int))) by rw [zst, if_pos (by omega)]]; exact lp_X7_stuckTurns hM hr hu m (t + 1) _ (by omega) hz2)
theorem lp_X7_sumOf {o : Nat} {F : Nat → Int} (hM : zMs sh R) (ho : o ≤ 33) (hF : ∀ t, t < 10 → mN J N S 158 (o + t) = F t) : ∀ (m t : Nat) (x : Int), t + m = 10 → zE X mX7_sumOf 0 0 4 [zR 157, zI (o : Int), zI x, zI (t : Int)] [] sh (mN J N S) L R (zEq [zI (rsm F m t x)] sh (mN J N S) L R)
  | 0, t, x, h => by
    refine z_iload3 5 dX7_sumOf_4 rfl ?_
    refine z_bipush 7 dX7_sumOf_5 (by decide) rfl ?_
    refine z_icmp_ge 27 10 dX7_sumOf_7 (by decide) rfl (by omega) (by omega) (fun h7 => ?_) (fun hz => absurd hz (by omega))
    refine z_iload2 28 dX7_sumOf_27 rfl ?_
    exact z_ireturn dX7_sumOf_28 rfl (⟨rfl, rfl, rfl, rfl, rfl⟩)
  | m + 1, t, x, h => by
    obtain ⟨⟨s0, s1, s2, s3, s4, s5, s6, s7, s8, s9, s10, s11, s12, s13, s14, s15⟩, r0, r1, r2, r3, r4, r5, r6, r7, r8, r9, r10, r11, r12, r13, r14⟩ := id hM
    refine z_iload3 5 dX7_sumOf_4 rfl ?_
    refine z_bipush 7 dX7_sumOf_5 (by decide) rfl ?_
    refine z_icmp_ge 27 10 dX7_sumOf_7 (by decide) rfl (by omega) (by omega) (fun hz => absurd hz (by omega)) (fun h7 => ?_)
    refine z_iload2 11 dX7_sumOf_10 rfl ?_
    refine z_aload0 12 dX7_sumOf_11 rfl ?_
    refine z_getR 15 dX7_sumOf_12 fl_RX7_7 (by assumption) (by assumption) rfl ?_
    refine z_iload1 16 dX7_sumOf_15 rfl ?_
    refine z_iload3 17 dX7_sumOf_16 rfl ?_
    refine z_iadd 18 dX7_sumOf_17 rfl ?_
    refine z_ialdx 19 (o + t) dX7_sumOf_18 (by assumption) (by omega) (by omega) (hF t (by omega)) rfl ?_
    refine z_iadd 20 dX7_sumOf_19 rfl ?_
    refine z_istore2 21 dX7_sumOf_20 (Nat.le_of_ble_eq_true rfl) rfl rfl ?_
    refine z_iinc3 24 dX7_sumOf_21 (Nat.le_of_ble_eq_true rfl) rfl rfl ?_
    refine z_goto 4 dX7_sumOf_24 (by decide) ?_
    exact lp_X7_sumOf hM ho hF m (t + 1) _ (by omega)
theorem op_X7_count {w : Int} (h : mCA sh R I L A) (hu : zuq A.1) (hw : -2147483648 ≤ w ∧ w ≤ 2147483647) : zE X mX7_count 0 0 0 [zR 157, zI w] [] sh I L R (mOp sh I L R (zI (oCount A w)) A) := by
  obtain ⟨hM, hN, hHis, hKep, hTap, hShe⟩ := id h
  obtain ⟨⟨s0, s1, s2, s3, s4, s5, s6, s7, s8, s9, s10, s11, s12, s13, s14, s15⟩, r0, r1, r2, r3, r4, r5, r6, r7, r8, r9, r10, r11, r12, r13, r14⟩ := id hM
  obtain ⟨⟨hSr, hS7, hS8⟩, hQ⟩ := id hN
  have e6 := hQ.1.1
  have hn5 := hSr.1
  have huN := zuq_q hQ hu
  have k2 : zE X mX7_atTop 0 0 0 [zR 157, zX, zX] [] sh (mN I (I 158) (nvw (I 158))) L R (zEq [zI (stop_ (nvw (I 158)))] sh (mN I (I 158) (nvw (I 158))) L R) := by
    refine z_iconst 1 dX7_atTop_0 rfl ?_
    refine z_istore1 2 dX7_atTop_1 (Nat.le_of_ble_eq_true rfl) rfl rfl ?_
    refine z_iconst 3 dX7_atTop_2 rfl ?_
    refine z_istore2 4 dX7_atTop_3 (Nat.le_of_ble_eq_true rfl) rfl rfl ?_
    exact lp_X7_atTop hM hSr (nvw (I 158) 0 6).toNat 0 0 (by omega) (by omega)
  have k4 : zE X mX7_stuckTurns 0 0 0 [zR 157, zX, zX] [] sh (mN I (I 158) (nvw (I 158))) L R (zEq [zI (stak (nvw (I 158)))] sh (mN I (I 158) (nvw (I 158))) L R) := by
    refine z_iconst 1 dX7_stuckTurns_0 rfl ?_
    refine z_istore1 2 dX7_stuckTurns_1 (Nat.le_of_ble_eq_true rfl) rfl rfl ?_
    refine z_iconst 3 dX7_stuckTurns_2 rfl ?_
    refine z_istore2 4 dX7_stuckTurns_3 (Nat.le_of_ble_eq_true rfl) rfl rfl ?_
    exact lp_X7_stuckTurns hM hSr huN 10 0 0 (by omega) (by omega)
  have k5 : zE X mX7_sumOf 0 0 0 [zR 157, zI 3, zX, zX] [] sh (mN I (I 158) (nvw (I 158))) L R (zEq [zI (rsm (nvw (I 158) 1) 10 0 0)] sh (mN I (I 158) (nvw (I 158))) L R) := by
    refine z_iconst 1 dX7_sumOf_0 rfl ?_
    refine z_istore2 2 dX7_sumOf_1 (Nat.le_of_ble_eq_true rfl) rfl rfl ?_
    refine z_iconst 3 dX7_sumOf_2 rfl ?_
    refine z_istore3 4 dX7_sumOf_3 (Nat.le_of_ble_eq_true rfl) rfl rfl ?_
    exact lp_X7_sumOf (o := 3) hM (by decide) (fun t ht => mN_r _ _ _ ht) 10 0 0 rfl
  have k6 : zE X mX7_sumOf 0 0 0 [zR 157, zI 13, zX, zX] [] sh (mN I (I 158) (nvw (I 158))) L R (zEq [zI (rsm (nvw (I 158) 2) 10 0 0)] sh (mN I (I 158) (nvw (I 158))) L R) := by
    refine z_iconst 1 dX7_sumOf_0 rfl ?_
    refine z_istore2 2 dX7_sumOf_1 (Nat.le_of_ble_eq_true rfl) rfl rfl ?_
    refine z_iconst 3 dX7_sumOf_2 rfl ?_
    refine z_istore3 4 dX7_sumOf_3 (Nat.le_of_ble_eq_true rfl) rfl rfl ?_
    exact lp_X7_sumOf (o := 13) hM (by decide) (fun t ht => mN_b _ _ _ ht) 10 0 0 rfl
  have h9 : mN I (I 158) (nvw (I 158)) 157 9 = (A.2.1.length : Int) := by rw [mN_o _ _ _ (by decide)]; exact hHis.1
  refine z_mN ?_
  unfold oCount
  refine z_iload1 1 dX7_count_0 rfl ?_
  rcases (by omega : w = 0 ∨ w = 1 ∨ w = 2 ∨ w = 3 ∨ w = 4 ∨ w = 5 ∨ w = 6 ∨ w = 7 ∨ (w < 0 ∨ 7 < w)) with hk | hk | hk | hk | hk | hk | hk | hk | hk
  · first | rw [hk] | skip
    refine z_swIn 48 (off := 47) dX7_count_1 (by omega) (by omega) (by decide) (by decide) ?_
    refine z_aload0 49 dX7_count_48 rfl ?_
    refine z_getR 52 dX7_count_49 fl_RX7_7 (by assumption) (by assumption) rfl ?_
    refine z_iload1 53 dX7_count_52 rfl ?_
    refine z_iald 54 dX7_count_53 (by assumption) (by omega) rfl ?_
    exact z_ireturn dX7_count_54 rfl (mOp_sameN h (by first | (rw [if_pos rfl]; exact congrArg zI e6) | (rw [if_neg (by decide), if_pos rfl]; exact congrArg zI hQ.1.2.1)))
  · first | rw [hk] | skip
    refine z_swIn 48 (off := 47) dX7_count_1 (by omega) (by omega) (by decide) (by decide) ?_
    refine z_aload0 49 dX7_count_48 rfl ?_
    refine z_getR 52 dX7_count_49 fl_RX7_7 (by assumption) (by assumption) rfl ?_
    refine z_iload1 53 dX7_count_52 rfl ?_
    refine z_iald 54 dX7_count_53 (by assumption) (by omega) rfl ?_
    exact z_ireturn dX7_count_54 rfl (mOp_sameN h (by first | (rw [if_pos rfl]; exact congrArg zI e6) | (rw [if_neg (by decide), if_pos rfl]; exact congrArg zI hQ.1.2.1)))
  · first | rw [hk] | skip
    refine z_swIn 55 (off := 54) dX7_count_1 (by omega) (by omega) (by decide) (by decide) ?_
    refine z_aload0 56 dX7_count_55 rfl ?_
    refine z_xV0 59 dX7_count_56 lk_X7_count_110 (k2) rfl (Nat.le_of_ble_eq_true rfl) (Nat.le_of_ble_eq_true rfl) (by assumption) rfl rfl ?_
    exact z_ireturn dX7_count_59 rfl (mOp_sameN h (by rw [if_neg (by decide), if_neg (by decide), if_pos rfl, stop_c hQ]))
  · first | rw [hk] | skip
    refine z_swIn 60 (off := 59) dX7_count_1 (by omega) (by omega) (by decide) (by decide) ?_
    refine z_aload0 61 dX7_count_60 rfl ?_
    refine z_xV0 64 dX7_count_61 lk_X7_count_114 (ct_X7_through hM hSr) rfl (Nat.le_of_ble_eq_true rfl) (Nat.le_of_ble_eq_true rfl) (by assumption) rfl rfl ?_
    exact z_ireturn dX7_count_64 rfl (mOp_sameN h (by rw [if_neg (by decide), if_neg (by decide), if_neg (by decide), if_pos rfl, sthr_c hQ]))
  · first | rw [hk] | skip
    refine z_swIn 65 (off := 64) dX7_count_1 (by omega) (by omega) (by decide) (by decide) ?_
    refine z_aload0 66 dX7_count_65 rfl ?_
    refine z_xV0 69 dX7_count_66 lk_X7_count_117 (k4) rfl (Nat.le_of_ble_eq_true rfl) (Nat.le_of_ble_eq_true rfl) (by assumption) rfl rfl ?_
    exact z_ireturn dX7_count_69 rfl (mOp_sameN h (by rw [if_neg (by decide), if_neg (by decide), if_neg (by decide), if_neg (by decide), if_pos rfl, stak_c hQ]))
  · first | rw [hk] | skip
    refine z_swIn 70 (off := 69) dX7_count_1 (by omega) (by omega) (by decide) (by decide) ?_
    refine z_aload0 71 dX7_count_70 rfl ?_
    refine z_iconst 72 dX7_count_71 rfl ?_
    refine z_xV1 75 dX7_count_72 lk_X7_count_120 (k5) rfl (Nat.le_of_ble_eq_true rfl) (Nat.le_of_ble_eq_true rfl) (by assumption) rfl rfl ?_
    exact z_ireturn dX7_count_75 rfl (mOp_sameN h (by rw [if_neg (by decide), if_neg (by decide), if_neg (by decide), if_neg (by decide), if_neg (by decide), if_pos rfl, rsm_c 10 0 0 (fun q _ hq => (hQ.2.1 q (by omega)).1)]))
  · first | rw [hk] | skip
    refine z_swIn 76 (off := 75) dX7_count_1 (by omega) (by omega) (by decide) (by decide) ?_
    refine z_aload0 77 dX7_count_76 rfl ?_
    refine z_bipush 79 dX7_count_77 (by decide) rfl ?_
    refine z_xV1 82 dX7_count_79 lk_X7_count_120 (k6) rfl (Nat.le_of_ble_eq_true rfl) (Nat.le_of_ble_eq_true rfl) (by assumption) rfl rfl ?_
    exact z_ireturn dX7_count_82 rfl (mOp_sameN h (by rw [if_neg (by decide), if_neg (by decide), if_neg (by decide), if_neg (by decide), if_neg (by decide), if_neg (by decide), if_pos rfl, rsm_c 10 0 0 (fun q _ hq => (hQ.2.1 q (by omega)).2)]))
  · first | rw [hk] | skip
    refine z_swIn 83 (off := 82) dX7_count_1 (by omega) (by omega) (by decide) (by decide) ?_
    refine z_aload0 84 dX7_count_83 rfl ?_
    refine z_getIx 87 dX7_count_84 fl_RX7_81 (by assumption) (h9) rfl ?_
    exact z_ireturn dX7_count_87 rfl (mOp_sameN h (by rw [if_neg (by decide), if_neg (by decide), if_neg (by decide), if_neg (by decide), if_neg (by decide), if_neg (by decide), if_neg (by decide), if_pos rfl]))
  · first | rw [hk] | skip
    refine z_swOut 88 dX7_count_1 (by omega) (by omega) (by decide) ?_
    refine z_iconst 89 dX7_count_88 rfl ?_
    exact z_ireturn dX7_count_89 rfl (mOp_sameN h (by rw [if_neg (by omega), if_neg (by omega), if_neg (by omega), if_neg (by omega), if_neg (by omega), if_neg (by omega), if_neg (by omega), if_neg (by omega)]))
theorem op_X7_type {x : Int} (h : mCA sh R I L A) (hx : -2147483648 ≤ x ∧ x ≤ 2147483647) : zE X mX7_type 0 0 0 [zR 157, zI x] [] sh I L R (mOp sh I L R (zI (oType A x).1) (oType A x).2) := by
  obtain ⟨hM, hN, hHis, hKep, hTap, hShe⟩ := id h
  obtain ⟨⟨s0, s1, s2, s3, s4, s5, s6, s7, s8, s9, s10, s11, s12, s13, s14, s15⟩, r0, r1, r2, r3, r4, r5, r6, r7, r8, r9, r10, r11, r12, r13, r14⟩ := id hM
  obtain ⟨⟨hSr, hS7, hS8⟩, hQ⟩ := id hN
  have e6 := hQ.1.1
  have hn5 := hSr.1
  have z1 := zwi_r x 32 126
  obtain ⟨t1, t2, t3⟩ := id hTap
  refine z_iload1 1 dX7_type_0 rfl ?_
  refine z_i2l 2 dX7_type_1 (by omega) rfl ?_
  refine z_ldc2 5 dX7_type_2 kl_RX7_123 rfl ?_
  refine z_ldc2 8 dX7_type_5 kl_RX7_125 rfl ?_
  refine z_xS3 11 dX7_type_8 lk_X7_type_56 (ct_X7_in (by omega) (by omega) (by omega)) rfl (Nat.le_of_ble_eq_true rfl) (Nat.le_of_ble_eq_true rfl) rfl ?_
  refine z_if_ne 16 14 dX7_type_11 (by decide) rfl (by omega) (fun h11 => ?_) (fun h11 => ?_)
  · have g11 := zwi_ne0 h11
    refine z_aload0 17 dX7_type_16 rfl ?_
    refine z_getIx 20 dX7_type_17 fl_RX7_127 (by assumption) (t1) rfl ?_
    refine z_bipush 22 dX7_type_20 (by decide) rfl ?_
    refine z_icmp_ne 28 25 dX7_type_22 (by decide) rfl (by omega) (by omega) (fun h22 => ?_) (fun h22 => ?_)
    · refine z_aload0 29 dX7_type_28 rfl ?_
      refine z_getR 32 dX7_type_29 fl_RX7_16 (by assumption) (by assumption) rfl ?_
      refine z_aload0 33 dX7_type_32 rfl ?_
      refine z_getIx 36 dX7_type_33 fl_RX7_127 (by assumption) (t1) rfl ?_
      refine z_iload1 37 dX7_type_36 rfl ?_
      refine z_iastN 38 (A.2.2.2.1.length) dX7_type_37 (by assumption) (by omega) (by omega) rfl ?_
      refine z_aload0 39 dX7_type_38 rfl ?_
      refine z_dup 40 dX7_type_39 rfl rfl ?_
      refine z_getIx 43 dX7_type_40 fl_RX7_127 (by assumption) ((zup_row _ _ (by decide) : zup I 160 _ _ 157 = I 157) ▸ t1) rfl ?_
      refine z_iconst 44 dX7_type_43 rfl ?_
      refine z_iadd 45 dX7_type_44 rfl ?_
      refine z_putI 48 dX7_type_45 fp_RX7_127 (by assumption) rfl ?_
      refine z_aload0 49 dX7_type_48 rfl ?_
      refine z_getIx 52 dX7_type_49 fl_RX7_127 (by assumption) (zup_at _ _ _ _) rfl ?_
      exact z_ireturn dX7_type_52 rfl ((by
          rw [show oType A x = ((A.2.2.2.1.length : Int) + 1, (A.1, A.2.1, A.2.2.1, A.2.2.2.1 ++ [x], A.2.2.2.2)) by unfold oType; rw [if_pos (by omega), if_neg (by omega)]]
          have hd : ∀ a, ¬ (a = 157 ∨ a = 160) → zup (zup I 160 A.2.2.2.1.length x) 157 3 ((A.2.2.2.1.length : Int) + 1) a = I a := fun a ha => by rw [zup_row _ _ (by omega), zup_row _ _ (by omega)]
          have h7 : ∀ c, c ≠ 3 → zup (zup I 160 A.2.2.2.1.length x) 157 3 ((A.2.2.2.1.length : Int) + 1) 157 c = I 157 c := fun c hc => by rw [zup_ne _ _ (by omega), zup_ne _ _ (by omega)]
          refine ⟨rfl, rfl, rfl, ⟨hM, by rw [hd 158 (by omega)]; exact hN, mHis_of (h7 9 (by decide)) (hd 163 (by omega)) hHis, mKep_of (h7 16 (by decide)) (h7 15 (by decide)) (hd 168 (by omega)) hKep, ⟨by rw [zup_at]; simp, by simp; omega, fun j y hy => ?_⟩, mShe_of (hd 169 (by omega)) (hd 170 (by omega)) rfl hShe⟩, fun a ha => ⟨hd a (by omega), rfl⟩⟩
          rw [zup_row _ _ (show (160 : Nat) ≠ 157 by decide)]
          by_cases hj : j < A.2.2.2.1.length
          · rw [zup_ne _ _ (by omega)]
            exact t3 j y (by rw [List.getElem?_append_left hj] at hy; exact hy)
          · rw [List.getElem?_append_right (by omega)] at hy
            have hj2 : j = A.2.2.2.1.length := by
              have := (List.getElem?_eq_some_iff.mp hy).1
              simp at this
              omega
            subst hj2
            simp at hy
            subst hy
            rw [zup_at]
            exact ⟨rfl, g11⟩))
    · refine z_bipush 27 dX7_type_25 (by decide) rfl ?_
      exact z_ireturn dX7_type_27 rfl ((by rw [show oType A x = (-3, A) by unfold oType; rw [if_pos (by omega), if_pos (by omega)]]; exact mOp_same h rfl))
  · have g11 := zwi_eq0 h11
    refine z_iconst 15 dX7_type_14 rfl ?_
    exact z_ireturn dX7_type_15 rfl ((by rw [show oType A x = (-1, A) by unfold oType; rw [if_neg (by omega)]]; exact mOp_same h rfl))
theorem op_X7_seed {v : Int} (h : mCA sh R I L A) (hv : -2147483648 ≤ v ∧ v ≤ 2147483647) : zE X mX7_seed 0 0 0 [zR 157, zI v, zX] [] sh I L R (mOp sh I L R (zI (oSeed A v).1) (oSeed A v).2) := by
  obtain ⟨hM, hN, hHis, hKep, hTap, hShe⟩ := id h
  obtain ⟨⟨s0, s1, s2, s3, s4, s5, s6, s7, s8, s9, s10, s11, s12, s13, s14, s15⟩, r0, r1, r2, r3, r4, r5, r6, r7, r8, r9, r10, r11, r12, r13, r14⟩ := id hM
  obtain ⟨⟨hSr, hS7, hS8⟩, hQ⟩ := id hN
  have e6 := hQ.1.1
  have hn5 := hSr.1
  refine z_mN ?_
  refine z_iload1 1 dX7_seed_0 rfl ?_
  refine z_if_ge 6 4 dX7_seed_1 (by decide) rfl (by omega) (fun h1 => ?_) (fun h1 => ?_)
  · refine z_aload0 7 dX7_seed_6 rfl ?_
    refine z_getR 10 dX7_seed_7 fl_RX7_7 (by assumption) (by assumption) rfl ?_
    refine z_iconst 11 dX7_seed_10 rfl ?_
    refine z_ialdx 12 (2) dX7_seed_11 (by assumption) (by omega) (by omega) (mN_2 _ _ _) rfl ?_
    refine z_istore2 13 dX7_seed_12 (Nat.le_of_ble_eq_true rfl) rfl rfl ?_
    refine z_aload0 14 dX7_seed_13 rfl ?_
    refine z_getR 17 dX7_seed_14 fl_RX7_7 (by assumption) (by assumption) rfl ?_
    refine z_iconst 18 dX7_seed_17 rfl ?_
    refine z_iload1 19 dX7_seed_18 rfl ?_
    refine z_iastx 20 (2) dX7_seed_19 (by assumption) (by omega) (by omega) (mN_up _ _ _ (i := 0) (j := 8) (by unfold nix; omega) _) rfl ?_
    refine z_iload2 21 dX7_seed_20 rfl ?_
    exact z_ireturn dX7_seed_21 rfl ((by
        rw [show oSeed A v = (A.1 0 8, (zup A.1 0 8 v, A.2)) by unfold oSeed; rw [if_neg (by omega)]]
        exact mOp_now h (fun _ _ => rfl) ⟨zSr_up0 hSr (Or.inl (by decide)), by rw [zup_ne _ _ (by omega)]; exact hS7, by rw [zup_at]; omega⟩ (zQe_up hQ (by omega) v) (by rw [hQ.1.2.2])))
  · refine z_iconst 5 dX7_seed_4 rfl ?_
    exact z_ireturn dX7_seed_5 rfl ((by rw [show oSeed A v = (-1, A) by unfold oSeed; rw [if_pos (by omega)]]; exact mOp_sameN h rfl))
end MODE
