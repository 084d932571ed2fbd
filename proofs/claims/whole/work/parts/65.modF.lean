/-! ===== calls on the reference that are remembered ===== -/
theorem nvw_c {N N' : Nat → Int} (e : ∀ k, k < 43 → N k = N' k) : nvw N = nvw N' := by
  funext i j
  unfold nvw
  repeat' split
  all_goals first | rfl | (exact e _ (by omega))
theorem mRe_c {N N' : Nat → Int} {s : zT} (e : ∀ k, k < 43 → N k = N' k) (h : mRe N s) : mRe N' s := by
  unfold mRe at h ⊢
  rw [← nvw_c e]
  exact h
theorem mOp_tr {sh : zH} {I J K L : zI2} {R : zR2} {v : zV} {A : zA} (e : ∀ a, a < 157 → J a = I a ∧ K a = L a) {r' : List zV} {sh' : zH} {I' L' : zI2} {R' : zR2} (h : mOp sh J K R v A r' sh' I' L' R') : mOp sh I L R v A r' sh' I' L' R' := ⟨h.1, h.2.1, h.2.2.1, h.2.2.2.1, fun a ha => ⟨(h.2.2.2.2 a ha).1.trans (e a ha).1, (h.2.2.2.2 a ha).2.trans (e a ha).2⟩⟩
def mNq (sh : zH) (I L : zI2) (R : zR2) (A : zA) : zQ := fun r' sh' I' L' R' => r' = [] ∧ sh' = sh ∧ L' = L ∧ R' = R ∧ mCA sh R I' L (oPush A) ∧ ∀ a, ¬ (a = 157 ∨ a = 163) → I' a = I a
theorem zandL_31 (x : Int) : zandL x 2147483647 = x % 2147483648 := by
  unfold zandL
  have h1 : (Int64.ofInt x).toBitVec.toNat = (x % 18446744073709551616).toNat := by
    show (BitVec.ofInt 64 x).toNat = _
    rw [BitVec.toNat_ofInt]
    rfl
  have h3 : (Int64.ofInt x &&& Int64.ofInt 2147483647).toBitVec.toNat = (x % 18446744073709551616).toNat % 2 ^ 31 := by
    rw [Int64.toBitVec_and, BitVec.toNat_and, h1, show (Int64.ofInt 2147483647).toBitVec.toNat = 2 ^ 31 - 1 by decide, Nat.and_two_pow_sub_one_eq_mod]
  have h2 : (x % 18446744073709551616).toNat % 2 ^ 31 < 2147483648 := Nat.mod_lt _ (by decide)
  show (Int64.ofInt x &&& Int64.ofInt 2147483647).toBitVec.toInt = _
  rw [BitVec.toInt_eq_toNat_cond, h3, if_pos (by omega)]
  omega
section MODF
variable {X : zXs} {sh : zH} {I J L : zI2} {R : zR2} {N : Nat → Int} {S : zT} {A : zA}
theorem lp_X7_notes48 {n : Nat} {U : Nat → Int} (hM : zMs sh R) (hn : n < 8) (h9 : I 157 9 = (n : Int)) : ∀ (m k : Nat), k + m = 43 → zE X mX7_notes 0 0 48 [zR 157, zI (k : Int)] [] sh (zrow I 163 (fln U (I 158) (43 * n) k)) L R (zEq [] sh (zup (zrow I 163 (fln U (I 158) (43 * n) 43)) 157 9 ((n : Int) + 1)) L R)
  | 0, k, h => by
    have e : k = 43 := by omega
    subst e
    obtain ⟨⟨s0, s1, s2, s3, s4, s5, s6, s7, s8, s9, s10, s11, s12, s13, s14, s15⟩, r0, r1, r2, r3, r4, r5, r6, r7, r8, r9, r10, r11, r12, r13, r14⟩ := id hM
    refine z_iload1 49 dX7_notes_48 rfl ?_
    refine z_bipush 51 dX7_notes_49 (by decide) rfl ?_
    refine z_icmp_ge 80 54 dX7_notes_51 (by decide) rfl (by omega) (by omega) (fun h51 => ?_) (fun hz => absurd hz (by omega))
    refine z_aload0 81 dX7_notes_80 rfl ?_
    refine z_dup 82 dX7_notes_81 rfl rfl ?_
    refine z_getIx 85 dX7_notes_82 fl_RX7_81 (by assumption) ((congrFun (zrow_oR _ _ (by decide)) 9).trans h9) rfl ?_
    refine z_iconst 86 dX7_notes_85 rfl ?_
    refine z_iadd 87 dX7_notes_86 rfl ?_
    refine z_putI 90 dX7_notes_87 fp_RX7_81 (by assumption) rfl ?_
    exact z_return dX7_notes_90 rfl (⟨rfl, rfl, rfl, rfl, rfl⟩)
  | m + 1, k, h => by
    obtain ⟨⟨s0, s1, s2, s3, s4, s5, s6, s7, s8, s9, s10, s11, s12, s13, s14, s15⟩, r0, r1, r2, r3, r4, r5, r6, r7, r8, r9, r10, r11, r12, r13, r14⟩ := id hM
    refine z_iload1 49 dX7_notes_48 rfl ?_
    refine z_bipush 51 dX7_notes_49 (by decide) rfl ?_
    refine z_icmp_ge 80 54 dX7_notes_51 (by decide) rfl (by omega) (by omega) (fun hz => absurd hz (by omega)) (fun h51 => ?_)
    refine z_aload0 55 dX7_notes_54 rfl ?_
    refine z_getR 58 dX7_notes_55 fl_RX7_25 (by assumption) (by assumption) rfl ?_
    refine z_bipush 60 dX7_notes_58 (by decide) rfl ?_
    refine z_aload0 61 dX7_notes_60 rfl ?_
    refine z_getIx 64 dX7_notes_61 fl_RX7_81 (by assumption) ((congrFun (zrow_oR _ _ (by decide)) 9).trans h9) rfl ?_
    refine z_imul 65 dX7_notes_64 rfl ?_
    refine z_iload1 66 dX7_notes_65 rfl ?_
    refine z_iadd 67 dX7_notes_66 rfl ?_
    refine z_aload0 68 dX7_notes_67 rfl ?_
    refine z_getR 71 dX7_notes_68 fl_RX7_7 (by assumption) (by assumption) rfl ?_
    refine z_iload1 72 dX7_notes_71 rfl ?_
    refine z_ialdx 73 (k) dX7_notes_72 (by assumption) (by omega) (by omega) (zrow_o _ _ (by decide) _) rfl ?_
    refine z_iastx 74 (43 * n + k) dX7_notes_73 (by assumption) (by omega) (by omega) (zrow_up _ _ _ _ _) rfl ?_
    refine z_iinc1 77 dX7_notes_74 (Nat.le_of_ble_eq_true rfl) rfl rfl ?_
    refine z_goto 48 dX7_notes_77 (by decide) ?_
    rw [fln_s]
    exact lp_X7_notes48 hM hn h9 m (k + 1) (by omega)
theorem lp_X7_notes12 (hM : zMs sh R) : ∀ (m k : Nat), k + m = 344 → 43 ≤ k → zE X mX7_notes 0 0 12 [zR 157, zI (k : Int)] [] sh (zrow I 163 (fun j => if j + 43 < k then I 163 (j + 43) else I 163 j)) L R (zEq [] sh (zup (zrow I 163 (fln (fun j => if j < 301 then I 163 (j + 43) else I 163 j) (I 158) 301 43)) 157 9 8) L R)
  | 0, k, h, h43 => by
    have e : k = 344 := by omega
    subst e
    obtain ⟨⟨s0, s1, s2, s3, s4, s5, s6, s7, s8, s9, s10, s11, s12, s13, s14, s15⟩, r0, r1, r2, r3, r4, r5, r6, r7, r8, r9, r10, r11, r12, r13, r14⟩ := id hM
    have k1 := lp_X7_notes48 (X := X) (I := zup I 157 9 7) (L := L) (n := 7) (U := fun j => if j < 301 then I 163 (j + 43) else I 163 j) hM (by decide) (zup_at _ _ _ _) 43 0 rfl
    rw [fln_0] at k1
    have e1 : (fun j => if j + 43 < 344 then I 163 (j + 43) else I 163 j) = (fun j => if j < 301 then I 163 (j + 43) else I 163 j) := funext fun j => by
      by_cases hj : j < 301
      · rw [if_pos hj, if_pos (by omega)]
      · rw [if_neg hj, if_neg (by omega)]
    rw [e1]
    have e2 : ∀ f : Nat → Int, zup (zrow I 163 f) 157 9 7 = zrow (zup I 157 9 7) 163 f := fun f => zrow_upo I (by decide) _ _ _
    have e3 : zup I 157 9 7 158 = I 158 := zup_row _ _ (by decide)
    rw [e3] at k1
    have e4 : ∀ f : Nat → Int, zup (zrow (zup I 157 9 7) 163 f) 157 9 8 = zup (zrow I 163 f) 157 9 8 := fun f => by rw [← e2, zup_up]
    have e5 : ((7 : Nat) : Int) + 1 = 8 := rfl
    rw [e5, e4] at k1
    refine z_iload1 13 dX7_notes_12 rfl ?_
    refine z_sipush 16 dX7_notes_13 (by decide) rfl ?_
    refine z_icmp_ge 40 19 dX7_notes_16 (by decide) rfl (by omega) (by omega) (fun h16 => ?_) (fun hz => absurd hz (by omega))
    refine z_aload0 41 dX7_notes_40 rfl ?_
    refine z_bipush 43 dX7_notes_41 (by decide) rfl ?_
    refine z_putIx 46 dX7_notes_43 fp_RX7_81 (by assumption) (e2 _) rfl ?_
    refine z_iconst 47 dX7_notes_46 rfl ?_
    refine z_istore1 48 dX7_notes_47 (Nat.le_of_ble_eq_true rfl) rfl rfl ?_
    exact k1
  | m + 1, k, h, h43 => by
    obtain ⟨⟨s0, s1, s2, s3, s4, s5, s6, s7, s8, s9, s10, s11, s12, s13, s14, s15⟩, r0, r1, r2, r3, r4, r5, r6, r7, r8, r9, r10, r11, r12, r13, r14⟩ := id hM
    refine z_iload1 13 dX7_notes_12 rfl ?_
    refine z_sipush 16 dX7_notes_13 (by decide) rfl ?_
    refine z_icmp_ge 40 19 dX7_notes_16 (by decide) rfl (by omega) (by omega) (fun hz => absurd hz (by omega)) (fun h16 => ?_)
    refine z_aload0 20 dX7_notes_19 rfl ?_
    refine z_getR 23 dX7_notes_20 fl_RX7_25 (by assumption) (by assumption) rfl ?_
    refine z_iload1 24 dX7_notes_23 rfl ?_
    refine z_bipush 26 dX7_notes_24 (by decide) rfl ?_
    refine z_isub 27 dX7_notes_26 rfl ?_
    refine z_aload0 28 dX7_notes_27 rfl ?_
    refine z_getR 31 dX7_notes_28 fl_RX7_25 (by assumption) (by assumption) rfl ?_
    refine z_iload1 32 dX7_notes_31 rfl ?_
    refine z_ialdx 33 (k) dX7_notes_32 (by assumption) (by omega) (by omega) ((show zrow I 163 (fun j => if j + 43 < k then I 163 (j + 43) else I 163 j) 163 k = I 163 k by rw [zrow_at, if_neg (by omega)])) rfl ?_
    refine z_iastx 34 (k - 43) dX7_notes_33 (by assumption) (by omega) (by omega) (zrow_up _ _ _ _ _) rfl ?_
    refine z_iinc1 37 dX7_notes_34 (Nat.le_of_ble_eq_true rfl) rfl rfl ?_
    refine z_goto 12 dX7_notes_37 (by decide) ?_
    have e : (fun q => if q = k - 43 then I 163 k else if q + 43 < k then I 163 (q + 43) else I 163 q) = (fun j => if j + 43 < k + 1 then I 163 (j + 43) else I 163 j) := by
      funext q
      by_cases h1 : q = k - 43
      · rw [if_pos h1, if_pos (by omega), show q + 43 = k by omega]
      · rw [if_neg h1]
        by_cases h2 : q + 43 < k
        · rw [if_pos h2, if_pos (by omega)]
        · rw [if_neg h2, if_neg (by omega)]
    rw [e]
    exact lp_X7_notes12 hM m (k + 1) (by omega) (by omega)
theorem ct_X7_notes (h : mCA sh R I L A) : zE X mX7_notes 0 0 0 [zR 157, zX] [] sh I L R (mNq sh I L R A) := by
  obtain ⟨hM, hN, hHis, hKep, hTap, hShe⟩ := id h
  obtain ⟨⟨s0, s1, s2, s3, s4, s5, s6, s7, s8, s9, s10, s11, s12, s13, s14, s15⟩, r0, r1, r2, r3, r4, r5, r6, r7, r8, r9, r10, r11, r12, r13, r14⟩ := id hM
  obtain ⟨h9, h8, hH⟩ := id hHis
  have fin : ∀ (U : Nat → Int) (n : Nat) (l : List zT), n < 8 → l.length = n → (∀ i s, l[i]? = some s → mRe (mrw U (43 * i)) s) → oPush A = (A.1, (l ++ [A.1], A.2.2)) → mNq sh I L R A [] sh (zup (zrow I 163 (fln U (I 158) (43 * n) 43)) 157 9 ((n : Int) + 1)) L R := fun U n l hn hl hq eo => by
    have hd : ∀ a, ¬ (a = 157 ∨ a = 163) → zup (zrow I 163 (fln U (I 158) (43 * n) 43)) 157 9 ((n : Int) + 1) a = I a := fun a ha => by rw [zup_row _ _ (by omega), zrow_oR _ _ (by omega)]
    have h7 : ∀ c, c ≠ 9 → zup (zrow I 163 (fln U (I 158) (43 * n) 43)) 157 9 ((n : Int) + 1) 157 c = I 157 c := fun c hc => by rw [zup_ne _ _ (by omega), zrow_oR _ _ (by decide)]
    rw [mNq, eo]
    refine ⟨rfl, rfl, rfl, rfl, ⟨hM, by rw [hd 158 (by omega)]; exact hN, ⟨by rw [zup_at]; simp [hl], by simp [hl]; omega, fun i s hs => ?_⟩, mKep_of (h7 16 (by decide)) (h7 15 (by decide)) (hd 168 (by omega)) hKep, mTap_of (h7 3 (by decide)) (hd 160 (by omega)) hTap, mShe_of (hd 169 (by omega)) (hd 170 (by omega)) rfl hShe⟩, hd⟩
    rw [zup_row _ _ (show (163 : Nat) ≠ 157 by decide)]
    by_cases hi : i < n
    · refine mRe_c (fun k hk => ?_) (hq i s (by rw [List.getElem?_append_left (by omega)] at hs; exact hs))
      unfold mrw
      rw [zrow_at]
      unfold fln
      rw [if_neg (by omega)]
    · have hi2 := (List.getElem?_eq_some_iff.mp hs).1
      simp [hl] at hi2
      have hin : i = n := by omega
      subst hin
      have es : s = A.1 := by
        have h3 : (l ++ [A.1])[i]? = some A.1 := by rw [← hl]; simp
        exact Option.some.inj (hs.symm.trans h3)
      rw [es]
      refine mRe_c (fun k hk => ?_) hN
      unfold mrw
      rw [zrow_at]
      unfold fln
      rw [if_pos (by omega)]
      congr 1
      omega
  by_cases hl : A.2.1.length = 8
  · have k1 := lp_X7_notes12 (X := X) (I := I) (L := L) hM 301 43 rfl (by decide)
    rw [show (fun j => if j + 43 < 43 then I 163 (j + 43) else I 163 j) = I 163 from funext fun j => if_neg (by omega), zrow_self] at k1
    have kf := fin (fun j => if j < 301 then I 163 (j + 43) else I 163 j) 7 (A.2.1.drop 1) (by decide) (by simp [hl]) (fun i s hs => by
      have hi := (List.getElem?_eq_some_iff.mp hs).1
      simp [hl] at hi
      refine mRe_c (fun k hk => ?_) (hH (i + 1) s (by rw [← hs]; simp [Nat.add_comm]))
      show I 163 (43 * (i + 1) + k) = (if 43 * i + k < 301 then I 163 (43 * i + k + 43) else I 163 (43 * i + k))
      rw [if_pos (by omega)]
      congr 1
      omega) (by unfold oPush; rw [if_pos hl])
    refine z_aload0 1 dX7_notes_0 rfl ?_
    refine z_getIx 4 dX7_notes_1 fl_RX7_81 (by assumption) (h9) rfl ?_
    refine z_bipush 6 dX7_notes_4 (by decide) rfl ?_
    refine z_icmp_ne 46 9 dX7_notes_6 (by decide) rfl (by omega) (by omega) (fun hz => absurd hz (by omega)) (fun h6 => ?_)
    refine z_bipush 11 dX7_notes_9 (by decide) rfl ?_
    refine z_istore1 12 dX7_notes_11 (Nat.le_of_ble_eq_true rfl) rfl rfl ?_
    refine zE_mono (fun r' sh' I' L' R' hz => ?_) k1
    obtain ⟨q1, q2, q3, q4, q5⟩ := hz
    subst q1 q2 q3 q4 q5
    exact kf
  · have k1 := lp_X7_notes48 (X := X) (I := I) (L := L) (n := A.2.1.length) (U := I 163) hM (by omega) h9 43 0 rfl
    rw [fln_0, zrow_self] at k1
    have kf := fin (I 163) A.2.1.length A.2.1 (by omega) rfl hH (by unfold oPush; rw [if_neg hl])
    refine z_aload0 1 dX7_notes_0 rfl ?_
    refine z_getIx 4 dX7_notes_1 fl_RX7_81 (by assumption) (h9) rfl ?_
    refine z_bipush 6 dX7_notes_4 (by decide) rfl ?_
    refine z_icmp_ne 46 9 dX7_notes_6 (by decide) rfl (by omega) (by omega) (fun h6 => ?_) (fun hz => absurd hz (by omega))
    refine z_iconst 47 dX7_notes_46 rfl ?_
    refine z_istore1 48 dX7_notes_47 (Nat.le_of_ble_eq_true rfl) rfl rfl ?_
    refine zE_mono (fun r' sh' I' L' R' hz => ?_) k1
    obtain ⟨q1, q2, q3, q4, q5⟩ := hz
    subst q1 q2 q3 q4 q5
    exact kf
end MODF
