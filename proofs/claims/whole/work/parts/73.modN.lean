section MODN
variable {X : zXs} {sh : zH} {I L : zI2} {R : zR2} {A : zA}
theorem lp_X7_image28 {U : Nat → Int} (hM : zMs sh R) : ∀ (m k : Nat), k + m = 344 → zE X mX7_image 0 0 28 [zR 157, zI (k : Int)] [] sh (zrow I 168 (fln U (I 163) 43 k)) L R (zEq [zI 1] sh (zup (zup (zrow I 168 (fln U (I 163) 43 344)) 157 15 (I 157 9)) 157 16 1) L R)
  | 0, k, h => by
    have e : k = 344 := by omega
    subst e
    obtain ⟨⟨s0, s1, s2, s3, s4, s5, s6, s7, s8, s9, s10, s11, s12, s13, s14, s15⟩, r0, r1, r2, r3, r4, r5, r6, r7, r8, r9, r10, r11, r12, r13, r14⟩ := id hM
    refine z_iload1 29 dX7_image_28 rfl ?_
    refine z_sipush 32 dX7_image_29 (by decide) rfl ?_
    refine z_icmp_ge 56 35 dX7_image_32 (by decide) rfl (by omega) (by omega) (fun h32 => ?_) (fun hz => absurd hz (by omega))
    refine z_aload0 57 dX7_image_56 rfl ?_
    refine z_aload0 58 dX7_image_57 rfl ?_
    refine z_getIx 61 dX7_image_58 fl_RX7_81 (by assumption) (congrFun (zrow_oR _ _ (by decide)) 9) rfl ?_
    refine z_putI 64 dX7_image_61 fp_RX7_198 (by assumption) rfl ?_
    refine z_aload0 65 dX7_image_64 rfl ?_
    refine z_iconst 66 dX7_image_65 rfl ?_
    refine z_putZ 69 dX7_image_66 fp_RX7_201 (by omega) (by assumption) rfl ?_
    refine z_iconst 70 dX7_image_69 rfl ?_
    exact z_ireturn dX7_image_70 rfl (⟨rfl, rfl, rfl, rfl, rfl⟩)
  | m + 1, k, h => by
    obtain ⟨⟨s0, s1, s2, s3, s4, s5, s6, s7, s8, s9, s10, s11, s12, s13, s14, s15⟩, r0, r1, r2, r3, r4, r5, r6, r7, r8, r9, r10, r11, r12, r13, r14⟩ := id hM
    refine z_iload1 29 dX7_image_28 rfl ?_
    refine z_sipush 32 dX7_image_29 (by decide) rfl ?_
    refine z_icmp_ge 56 35 dX7_image_32 (by decide) rfl (by omega) (by omega) (fun hz => absurd hz (by omega)) (fun h32 => ?_)
    refine z_aload0 36 dX7_image_35 rfl ?_
    refine z_getR 39 dX7_image_36 fl_RX7_40 (by assumption) (by assumption) rfl ?_
    refine z_bipush 41 dX7_image_39 (by decide) rfl ?_
    refine z_iload1 42 dX7_image_41 rfl ?_
    refine z_iadd 43 dX7_image_42 rfl ?_
    refine z_aload0 44 dX7_image_43 rfl ?_
    refine z_getR 47 dX7_image_44 fl_RX7_25 (by assumption) (by assumption) rfl ?_
    refine z_iload1 48 dX7_image_47 rfl ?_
    refine z_ialdx 49 (k) dX7_image_48 (by assumption) (by omega) (by omega) (zrow_o _ _ (by decide) _) rfl ?_
    refine z_iastx 50 (43 + k) dX7_image_49 (by assumption) (by omega) (by omega) (zrow_up _ _ _ _ _) rfl ?_
    refine z_iinc1 53 dX7_image_50 (Nat.le_of_ble_eq_true rfl) rfl rfl ?_
    refine z_goto 28 dX7_image_53 (by decide) ?_
    rw [fln_s]
    exact lp_X7_image28 hM m (k + 1) (by omega)
theorem lp_X7_image2 (hM : zMs sh R) : ∀ (m k : Nat), k + m = 43 → zE X mX7_image 0 0 2 [zR 157, zI (k : Int)] [] sh (zrow I 168 (fln (I 168) (I 158) 0 k)) L R (zEq [zI 1] sh (zup (zup (zrow I 168 (fln (fln (I 168) (I 158) 0 43) (I 163) 43 344)) 157 15 (I 157 9)) 157 16 1) L R)
  | 0, k, h => by
    have e : k = 43 := by omega
    subst e
    have k1 := lp_X7_image28 (X := X) (I := I) (L := L) (U := fln (I 168) (I 158) 0 43) hM 344 0 rfl
    rw [fln_0] at k1
    refine z_iload1 3 dX7_image_2 rfl ?_
    refine z_bipush 5 dX7_image_3 (by decide) rfl ?_
    refine z_icmp_ge 26 8 dX7_image_5 (by decide) rfl (by omega) (by omega) (fun h5 => ?_) (fun hz => absurd hz (by omega))
    refine z_iconst 27 dX7_image_26 rfl ?_
    refine z_istore1 28 dX7_image_27 (Nat.le_of_ble_eq_true rfl) rfl rfl ?_
    exact k1
  | m + 1, k, h => by
    obtain ⟨⟨s0, s1, s2, s3, s4, s5, s6, s7, s8, s9, s10, s11, s12, s13, s14, s15⟩, r0, r1, r2, r3, r4, r5, r6, r7, r8, r9, r10, r11, r12, r13, r14⟩ := id hM
    refine z_iload1 3 dX7_image_2 rfl ?_
    refine z_bipush 5 dX7_image_3 (by decide) rfl ?_
    refine z_icmp_ge 26 8 dX7_image_5 (by decide) rfl (by omega) (by omega) (fun hz => absurd hz (by omega)) (fun h5 => ?_)
    refine z_aload0 9 dX7_image_8 rfl ?_
    refine z_getR 12 dX7_image_9 fl_RX7_40 (by assumption) (by assumption) rfl ?_
    refine z_iload1 13 dX7_image_12 rfl ?_
    refine z_aload0 14 dX7_image_13 rfl ?_
    refine z_getR 17 dX7_image_14 fl_RX7_7 (by assumption) (by assumption) rfl ?_
    refine z_iload1 18 dX7_image_17 rfl ?_
    refine z_ialdx 19 (k) dX7_image_18 (by assumption) (by omega) (by omega) (zrow_o _ _ (by decide) _) rfl ?_
    refine z_iastx 20 (k) dX7_image_19 (by assumption) (by omega) (by omega) (zrow_up _ _ _ _ _) rfl ?_
    refine z_iinc1 23 dX7_image_20 (Nat.le_of_ble_eq_true rfl) rfl rfl ?_
    refine z_goto 2 dX7_image_23 (by decide) ?_
    have ef := fln_s (I 168) (I 158) 0 k
    rw [Nat.zero_add] at ef
    rw [ef]
    exact lp_X7_image2 hM m (k + 1) (by omega)
theorem op_X7_image (h : mCA sh R I L A) : zE X mX7_image 0 0 0 [zR 157, zX] [] sh I L R (mOp sh I L R (zI 1) (oImage A)) := by
  obtain ⟨hM, hN, hHis, hKep, hTap, hShe⟩ := id h
  have k1 := lp_X7_image2 (X := X) (I := I) (L := L) hM 43 0 rfl
  rw [fln_0, zrow_self] at k1
  refine z_iconst 1 dX7_image_0 rfl ?_
  refine z_istore1 2 dX7_image_1 (Nat.le_of_ble_eq_true rfl) rfl rfl ?_
  refine zE_mono (fun r' sh' I' L' R' hz => ?_) k1
  obtain ⟨y1, y2, y3, y4, y5⟩ := hz
  subst y1 y2 y4 y5
  have hd : ∀ a, ¬ (a = 157 ∨ a = 168) → I' a = I a := fun a ha => by rw [y3, zup_row _ _ (by omega), zup_row _ _ (by omega), zrow_oR _ _ (by omega)]
  have h7 : ∀ c, c ≠ 15 → c ≠ 16 → I' 157 c = I 157 c := fun c h1 h2 => by rw [y3, zup_ne _ _ (by omega), zup_ne _ _ (by omega), zrow_oR _ _ (by decide)]
  have e168 : ∀ j, I' 168 j = fln (fln (I 168) (I 158) 0 43) (I 163) 43 344 j := fun j => by rw [y3, zup_row _ _ (by decide), zup_row _ _ (by decide), zrow_at]
  refine ⟨rfl, rfl, rfl, ⟨hM, by rw [hd 158 (by omega)]; exact hN, mHis_of (h7 9 (by decide) (by decide)) (hd 163 (by omega)) hHis, ⟨by rw [y3, zup_at], ?_, ?_, hHis.2.1, fun i s hs => ?_⟩, mTap_of (h7 3 (by decide) (by decide)) (hd 160 (by omega)) hTap, mShe_of (hd 169 (by omega)) (hd 170 (by omega)) rfl hShe⟩, fun a ha => ⟨hd a (by omega), rfl⟩⟩
  · refine mRe_c (fun k hk => ?_) hN
    rw [e168]
    unfold fln
    rw [if_neg (by omega), if_pos (by omega)]
    rfl
  · rw [y3, zup_ne _ _ (by omega), zup_at]
    exact hHis.1
  · have hi := (List.getElem?_eq_some_iff.mp hs).1
    have h8 := hHis.2.1
    refine mRe_c (fun k hk => ?_) (hHis.2.2 i s hs)
    have hi8 : i < 8 := Nat.lt_of_lt_of_le hi h8
    show I 163 (43 * i + k) = I' 168 (43 + 43 * i + k)
    rw [e168]
    unfold fln
    rw [if_pos (by omega)]
    congr 1
    omega
theorem lp_X7_restore38 {N : Nat → Int} (hM : zMs sh R) : ∀ (m k : Nat), k + m = 344 → zE X mX7_restore 0 0 38 [zR 157, zI (k : Int)] [] sh (zrow (zrow I 158 N) 163 (fln (I 163) (fun c => I 168 (43 + c)) 0 k)) L R (zEq [zI 1] sh (zup (zrow (zrow I 158 N) 163 (fln (I 163) (fun c => I 168 (43 + c)) 0 344)) 157 9 (I 157 15)) L R)
  | 0, k, h => by
    have e : k = 344 := by omega
    subst e
    obtain ⟨⟨s0, s1, s2, s3, s4, s5, s6, s7, s8, s9, s10, s11, s12, s13, s14, s15⟩, r0, r1, r2, r3, r4, r5, r6, r7, r8, r9, r10, r11, r12, r13, r14⟩ := id hM
    refine z_iload1 39 dX7_restore_38 rfl ?_
    refine z_sipush 42 dX7_restore_39 (by decide) rfl ?_
    refine z_icmp_ge 66 45 dX7_restore_42 (by decide) rfl (by omega) (by omega) (fun h42 => ?_) (fun hz => absurd hz (by omega))
    refine z_aload0 67 dX7_restore_66 rfl ?_
    refine z_aload0 68 dX7_restore_67 rfl ?_
    refine z_getIx 71 dX7_restore_68 fl_RX7_198 (by assumption) ((congrFun (zrow_oR _ _ (by decide)) 15).trans (congrFun (zrow_oR _ _ (by decide)) 15)) rfl ?_
    refine z_putI 74 dX7_restore_71 fp_RX7_81 (by assumption) rfl ?_
    refine z_iconst 75 dX7_restore_74 rfl ?_
    exact z_ireturn dX7_restore_75 rfl (⟨rfl, rfl, rfl, rfl, rfl⟩)
  | m + 1, k, h => by
    obtain ⟨⟨s0, s1, s2, s3, s4, s5, s6, s7, s8, s9, s10, s11, s12, s13, s14, s15⟩, r0, r1, r2, r3, r4, r5, r6, r7, r8, r9, r10, r11, r12, r13, r14⟩ := id hM
    refine z_iload1 39 dX7_restore_38 rfl ?_
    refine z_sipush 42 dX7_restore_39 (by decide) rfl ?_
    refine z_icmp_ge 66 45 dX7_restore_42 (by decide) rfl (by omega) (by omega) (fun hz => absurd hz (by omega)) (fun h42 => ?_)
    refine z_aload0 46 dX7_restore_45 rfl ?_
    refine z_getR 49 dX7_restore_46 fl_RX7_25 (by assumption) (by assumption) rfl ?_
    refine z_iload1 50 dX7_restore_49 rfl ?_
    refine z_aload0 51 dX7_restore_50 rfl ?_
    refine z_getR 54 dX7_restore_51 fl_RX7_40 (by assumption) (by assumption) rfl ?_
    refine z_bipush 56 dX7_restore_54 (by decide) rfl ?_
    refine z_iload1 57 dX7_restore_56 rfl ?_
    refine z_iadd 58 dX7_restore_57 rfl ?_
    refine z_ialdx 59 (43 + k) dX7_restore_58 (by assumption) (by omega) (by omega) ((zrow_o _ _ (by decide) _).trans (zrow_o _ _ (by decide) _)) rfl ?_
    refine z_iastx 60 (k) dX7_restore_59 (by assumption) (by omega) (by omega) (zrow_up _ _ _ _ _) rfl ?_
    refine z_iinc1 63 dX7_restore_60 (Nat.le_of_ble_eq_true rfl) rfl rfl ?_
    refine z_goto 38 dX7_restore_63 (by decide) ?_
    have ef := fln_s (I 163) (fun c => I 168 (43 + c)) 0 k
    rw [Nat.zero_add] at ef
    rw [ef]
    exact lp_X7_restore38 hM m (k + 1) (by omega)
theorem lp_X7_restore12 (hM : zMs sh R) : ∀ (m k : Nat), k + m = 43 → zE X mX7_restore 0 0 12 [zR 157, zI (k : Int)] [] sh (zrow I 158 (fln (I 158) (I 168) 0 k)) L R (zEq [zI 1] sh (zup (zrow (zrow I 158 (fln (I 158) (I 168) 0 43)) 163 (fln (I 163) (fun c => I 168 (43 + c)) 0 344)) 157 9 (I 157 15)) L R)
  | 0, k, h => by
    have e : k = 43 := by omega
    subst e
    have k1 := lp_X7_restore38 (X := X) (I := I) (L := L) (N := fln (I 158) (I 168) 0 43) hM 344 0 rfl
    rw [fln_0, show zrow (zrow I 158 (fln (I 158) (I 168) 0 43)) 163 (I 163) = zrow I 158 (fln (I 158) (I 168) 0 43) by rw [← zrow_rowo I (by decide), zrow_self]] at k1
    refine z_iload1 13 dX7_restore_12 rfl ?_
    refine z_bipush 15 dX7_restore_13 (by decide) rfl ?_
    refine z_icmp_ge 36 18 dX7_restore_15 (by decide) rfl (by omega) (by omega) (fun h15 => ?_) (fun hz => absurd hz (by omega))
    refine z_iconst 37 dX7_restore_36 rfl ?_
    refine z_istore1 38 dX7_restore_37 (Nat.le_of_ble_eq_true rfl) rfl rfl ?_
    exact k1
  | m + 1, k, h => by
    obtain ⟨⟨s0, s1, s2, s3, s4, s5, s6, s7, s8, s9, s10, s11, s12, s13, s14, s15⟩, r0, r1, r2, r3, r4, r5, r6, r7, r8, r9, r10, r11, r12, r13, r14⟩ := id hM
    refine z_iload1 13 dX7_restore_12 rfl ?_
    refine z_bipush 15 dX7_restore_13 (by decide) rfl ?_
    refine z_icmp_ge 36 18 dX7_restore_15 (by decide) rfl (by omega) (by omega) (fun hz => absurd hz (by omega)) (fun h15 => ?_)
    refine z_aload0 19 dX7_restore_18 rfl ?_
    refine z_getR 22 dX7_restore_19 fl_RX7_7 (by assumption) (by assumption) rfl ?_
    refine z_iload1 23 dX7_restore_22 rfl ?_
    refine z_aload0 24 dX7_restore_23 rfl ?_
    refine z_getR 27 dX7_restore_24 fl_RX7_40 (by assumption) (by assumption) rfl ?_
    refine z_iload1 28 dX7_restore_27 rfl ?_
    refine z_ialdx 29 (k) dX7_restore_28 (by assumption) (by omega) (by omega) (zrow_o _ _ (by decide) _) rfl ?_
    refine z_iastx 30 (k) dX7_restore_29 (by assumption) (by omega) (by omega) (zrow_up _ _ _ _ _) rfl ?_
    refine z_iinc1 33 dX7_restore_30 (Nat.le_of_ble_eq_true rfl) rfl rfl ?_
    refine z_goto 12 dX7_restore_33 (by decide) ?_
    have ef := fln_s (I 158) (I 168) 0 k
    rw [Nat.zero_add] at ef
    rw [ef]
    exact lp_X7_restore12 hM m (k + 1) (by omega)
theorem op_X7_restore (h : mCA sh R I L A) : zE X mX7_restore 0 0 0 [zR 157, zX] [] sh I L R (mOp sh I L R (zI (oRestore A).1) (oRestore A).2) := by
  obtain ⟨hM, hN, hHis, hKep, hTap, hShe⟩ := id h
  obtain ⟨⟨s0, s1, s2, s3, s4, s5, s6, s7, s8, s9, s10, s11, s12, s13, s14, s15⟩, r0, r1, r2, r3, r4, r5, r6, r7, r8, r9, r10, r11, r12, r13, r14⟩ := id hM
  have hk := hKep
  unfold mKep at hk
  cases hA : A.2.2.1 with
  | none =>
    rw [hA] at hk
    have e : oRestore A = (-4, A) := by unfold oRestore; rw [hA]
    rw [e]
    refine z_aload0 1 dX7_restore_0 rfl ?_
    refine z_getIx 4 dX7_restore_1 fl_RX7_201 (by assumption) (hk) rfl ?_
    refine z_if_ne 10 7 dX7_restore_4 (by decide) rfl (by omega) (fun hz => absurd hz (by omega)) (fun h4 => ?_)
    refine z_bipush 9 dX7_restore_7 (by decide) rfl ?_
    exact z_ireturn dX7_restore_9 rfl (mOp_same h rfl)
  | some q =>
    rw [hA] at hk
    obtain ⟨k1, k2, k3, k4, k5⟩ := hk
    have e : oRestore A = (1, (q.1, (q.2, A.2.2))) := by unfold oRestore; rw [hA]
    rw [e]
    have kr := lp_X7_restore12 (X := X) (I := I) (L := L) hM 43 0 rfl
    rw [fln_0, zrow_self] at kr
    refine z_aload0 1 dX7_restore_0 rfl ?_
    refine z_getIx 4 dX7_restore_1 fl_RX7_201 (by assumption) (k1) rfl ?_
    refine z_if_ne 10 7 dX7_restore_4 (by decide) rfl (by omega) (fun h4 => ?_) (fun hz => absurd hz (by omega))
    refine z_iconst 11 dX7_restore_10 rfl ?_
    refine z_istore1 12 dX7_restore_11 (Nat.le_of_ble_eq_true rfl) rfl rfl ?_
    refine zE_mono (fun r' sh' I' L' R' hz => ?_) kr
    obtain ⟨y1, y2, y3, y4, y5⟩ := hz
    subst y1 y2 y4 y5
    have hd : ∀ a, ¬ (a = 157 ∨ a = 158 ∨ a = 163) → I' a = I a := fun a ha => by rw [y3, zup_row _ _ (by omega), zrow_oR _ _ (by omega), zrow_oR _ _ (by omega)]
    have h7 : ∀ c, c ≠ 9 → I' 157 c = I 157 c := fun c h1 => by rw [y3, zup_ne _ _ (by omega), zrow_oR _ _ (by decide), zrow_oR _ _ (by decide)]
    refine ⟨rfl, rfl, rfl, ⟨hM, ?_, ⟨?_, k4, fun i s hs => ?_⟩, mKep_of (h7 16 (by decide)) (h7 15 (by decide)) (hd 168 (by omega)) hKep, mTap_of (h7 3 (by decide)) (hd 160 (by omega)) hTap, mShe_of (hd 169 (by omega)) (hd 170 (by omega)) rfl hShe⟩, fun a ha => ⟨hd a (by omega), rfl⟩⟩
    · refine mRe_c (fun k hk => ?_) k2
      rw [y3, zup_row _ _ (by decide), zrow_oR _ _ (by decide), zrow_at]
      unfold fln
      rw [if_pos (by omega)]
      rfl
    · rw [y3, zup_at]
      exact k3
    · have hi := (List.getElem?_eq_some_iff.mp hs).1
      have hi8 : i < 8 := Nat.lt_of_lt_of_le hi k4
      refine mRe_c (fun k hk => ?_) (k5 i s hs)
      show I 168 (43 + 43 * i + k) = I' 163 (43 * i + k)
      rw [y3, zup_row _ _ (by decide), zrow_at]
      unfold fln
      rw [if_pos (by omega)]
      show _ = I 168 (43 + (43 * i + k - 0))
      congr 1
      omega
end MODN
