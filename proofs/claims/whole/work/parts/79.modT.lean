/-! ===== the reference: the tape read ===== -/
def mT (I : zI2) (k : Nat) (f : Int) : zI2 := zup (zup I 157 4 (k : Int)) 157 5 f
def zTm (I : zI2) (T : Nat → Int) (n : Nat) : Prop := I 157 3 = (n : Int) ∧ n ≤ 70 ∧ (∀ j, j < n → I 160 j = T j) ∧ ∀ j, j < n → 32 ≤ T j ∧ T j ≤ 126
def mat (T : Nat → Int) (n k : Nat) : Int := if k < n then T k else 0
theorem mT_4 (I : zI2) (k : Nat) (f : Int) : mT I k f 157 4 = (k : Int) := by unfold mT; rw [zup_ne _ _ (by omega), zup_at]
theorem mT_5 (I : zI2) (k : Nat) (f : Int) : mT I k f 157 5 = f := zup_at _ _ _ _
theorem mT_c (I : zI2) (k : Nat) (f : Int) {c : Nat} (h4 : c ≠ 4) (h5 : c ≠ 5) : mT I k f 157 c = I 157 c := by unfold mT; rw [zup_ne _ _ (by omega), zup_ne _ _ (by omega)]
theorem mT_o (I : zI2) (k : Nat) (f : Int) {a : Nat} (h : a ≠ 157) : mT I k f a = I a := by unfold mT; rw [zup_row _ _ h, zup_row _ _ h]
theorem mT_u4 (I : zI2) (k k' : Nat) (f : Int) {v : Int} (hv : v = (k' : Int)) : zup (mT I k f) 157 4 v = mT I k' f := by
  subst hv
  unfold mT
  rw [zup_comm _ (by omega), zup_up]
theorem mT_u5 (I : zI2) (k : Nat) (f g : Int) : zup (mT I k f) 157 5 g = mT I k g := by unfold mT; rw [zup_up]
theorem mT_uo (I : zI2) (k : Nat) (f : Int) {a : Nat} (h : a ≠ 157) (j : Nat) (v : Int) : zup (mT I k f) a j v = mT (zup I a j v) k f := by
  unfold mT
  rw [zup_comm (zup I 157 4 (k : Int)) (show ¬ (157 = a ∧ 5 = j) by omega), zup_comm I (show ¬ (157 = a ∧ 4 = j) by omega)]
theorem zTm_row {I : zI2} {T : Nat → Int} {n : Nat} (h : zTm I T n) {a : Nat} (h1 : a ≠ 157) (h2 : a ≠ 160) (V : Nat → Int) : zTm (zrow I a V) T n := ⟨by rw [zrow_oR _ _ (Ne.symm h1)]; exact h.1, h.2.1, by rw [zrow_oR _ _ (Ne.symm h2)]; exact h.2.2.1, h.2.2.2⟩
theorem tsk_i (T : Nat → Int) (n : Nat) : ∀ m k, k + m = n → tsk T n (n - tsk T n m k) (tsk T n m k) = tsk T n m k
  | 0, k, h => by
    show tsk T n (n - k) k = k
    rw [show n - k = 0 by omega]
    rfl
  | m + 1, k, h => by
    have e : tsk T n (m + 1) k = if T k = 32 then tsk T n m (k + 1) else k := rfl
    rw [e]
    by_cases hc : T k = 32
    · rw [if_pos hc]
      have ih := tsk_i T n m (k + 1) (by omega)
      exact ih
    · rw [if_neg hc, show n - k = m + 1 by omega]
      show (if T k = 32 then tsk T n m (k + 1) else k) = k
      rw [if_neg hc]
theorem tnl_i (T : Nat → Int) {n k : Nat} (h : k ≤ n) : tnl T n (tnl T n k) = tnl T n k := tsk_i T n (n - k) k (by omega)
theorem mat_t {T : Nat → Int} {n k : Nat} (h : ∀ j, j < n → 32 ≤ T j ∧ T j ≤ 126) : (tat T n k = -1 ∧ mat T n k = 0 ∧ n ≤ k) ∨ (tat T n k = mat T n k ∧ 32 ≤ mat T n k ∧ mat T n k ≤ 126 ∧ k < n) := by
  unfold tat mat
  by_cases hk : k < n
  · rw [if_pos hk, if_pos hk]
    have := h k hk
    exact Or.inr ⟨rfl, this.1, this.2, hk⟩
  · rw [if_neg hk, if_neg hk]
    exact Or.inl ⟨rfl, rfl, by omega⟩
section MODT
variable {X : zXs} {sh : zH} {I L : zI2} {R : zR2} {T : Nat → Int} {n : Nat}
theorem lp_X7_here (hM : zMs sh R) (ht : zTm I T n) (f : Int) : ∀ (m k : Nat), k + m = n → zE X mX7_here 0 0 0 [zR 157] [] sh (mT I k f) L R (zEq [zI (mat T n (tsk T n m k))] sh (mT I (tsk T n m k) f) L R)
  | 0, k, h => by
    obtain ⟨⟨s0, s1, s2, s3, s4, s5, s6, s7, s8, s9, s10, s11, s12, s13, s14, s15⟩, r0, r1, r2, r3, r4, r5, r6, r7, r8, r9, r10, r11, r12, r13, r14⟩ := id hM
    obtain ⟨t1, t2, t3, t4⟩ := id ht
    have e : mat T n (tsk T n 0 k) = 0 := by unfold mat; rw [if_neg (by show ¬ k < n; omega)]
    rw [e]
    refine z_aload0 1 dX7_here_0 rfl ?_
    refine z_getIx 4 dX7_here_1 fl_RX7_130 (by assumption) (mT_4 _ _ _) rfl ?_
    refine z_aload0 5 dX7_here_4 rfl ?_
    refine z_getIx 8 dX7_here_5 fl_RX7_127 (by assumption) ((mT_c _ _ _ (by decide) (by decide)).trans t1) rfl ?_
    refine z_icmp_ge 38 11 dX7_here_8 (by decide) rfl (by omega) (by omega) (fun h8 => ?_) (fun hz => absurd hz (by omega))
    refine z_aload0 39 dX7_here_38 rfl ?_
    refine z_getIx 42 dX7_here_39 fl_RX7_130 (by assumption) (mT_4 _ _ _) rfl ?_
    refine z_aload0 43 dX7_here_42 rfl ?_
    refine z_getIx 46 dX7_here_43 fl_RX7_127 (by assumption) ((mT_c _ _ _ (by decide) (by decide)).trans t1) rfl ?_
    refine z_icmp_ge 61 49 dX7_here_46 (by decide) rfl (by omega) (by omega) (fun h46 => ?_) (fun hz => absurd hz (by omega))
    refine z_iconst 62 dX7_here_61 rfl ?_
    exact z_ireturn dX7_here_62 rfl (⟨rfl, rfl, rfl, rfl, rfl⟩)
  | m + 1, k, h => by
    obtain ⟨⟨s0, s1, s2, s3, s4, s5, s6, s7, s8, s9, s10, s11, s12, s13, s14, s15⟩, r0, r1, r2, r3, r4, r5, r6, r7, r8, r9, r10, r11, r12, r13, r14⟩ := id hM
    obtain ⟨t1, t2, t3, t4⟩ := id ht
    have hk := t4 k (by omega)
    have eT : mT I k f 160 k = T k := by rw [mT_o _ _ _ (by decide), t3 k (by omega)]
    have er : tsk T n (m + 1) k = if T k = 32 then tsk T n m (k + 1) else k := rfl
    rw [er]
    by_cases hb : T k = 32
    · rw [if_pos hb]
      refine z_aload0 1 dX7_here_0 rfl ?_
      refine z_getIx 4 dX7_here_1 fl_RX7_130 (by assumption) (mT_4 _ _ _) rfl ?_
      refine z_aload0 5 dX7_here_4 rfl ?_
      refine z_getIx 8 dX7_here_5 fl_RX7_127 (by assumption) ((mT_c _ _ _ (by decide) (by decide)).trans t1) rfl ?_
      refine z_icmp_ge 38 11 dX7_here_8 (by decide) rfl (by omega) (by omega) (fun hz => absurd hz (by omega)) (fun h8 => ?_)
      refine z_aload0 12 dX7_here_11 rfl ?_
      refine z_getR 15 dX7_here_12 fl_RX7_16 (by assumption) (by assumption) rfl ?_
      refine z_aload0 16 dX7_here_15 rfl ?_
      refine z_getIx 19 dX7_here_16 fl_RX7_130 (by assumption) (mT_4 _ _ _) rfl ?_
      refine z_ialdx 20 (k) dX7_here_19 (by assumption) (by omega) (by omega) (eT) rfl ?_
      refine z_bipush 22 dX7_here_20 (by decide) rfl ?_
      refine z_icmp_ne 38 25 dX7_here_22 (by decide) rfl (by omega) (by omega) (fun hz => absurd hz (by omega)) (fun h22 => ?_)
      refine z_aload0 26 dX7_here_25 rfl ?_
      refine z_dup 27 dX7_here_26 rfl rfl ?_
      refine z_getIx 30 dX7_here_27 fl_RX7_130 (by assumption) (mT_4 _ _ _) rfl ?_
      refine z_iconst 31 dX7_here_30 rfl ?_
      refine z_iadd 32 dX7_here_31 rfl ?_
      refine z_putIx 35 dX7_here_32 fp_RX7_130 (by assumption) (mT_u4 _ _ (k + 1) _ (by omega)) rfl ?_
      refine z_goto 0 dX7_here_35 (by decide) ?_
      exact lp_X7_here hM ht f m (k + 1) (by omega)
    · rw [if_neg hb]
      have e : mat T n k = T k := by unfold mat; rw [if_pos (by omega)]
      rw [e]
      refine z_aload0 1 dX7_here_0 rfl ?_
      refine z_getIx 4 dX7_here_1 fl_RX7_130 (by assumption) (mT_4 _ _ _) rfl ?_
      refine z_aload0 5 dX7_here_4 rfl ?_
      refine z_getIx 8 dX7_here_5 fl_RX7_127 (by assumption) ((mT_c _ _ _ (by decide) (by decide)).trans t1) rfl ?_
      refine z_icmp_ge 38 11 dX7_here_8 (by decide) rfl (by omega) (by omega) (fun hz => absurd hz (by omega)) (fun h8 => ?_)
      refine z_aload0 12 dX7_here_11 rfl ?_
      refine z_getR 15 dX7_here_12 fl_RX7_16 (by assumption) (by assumption) rfl ?_
      refine z_aload0 16 dX7_here_15 rfl ?_
      refine z_getIx 19 dX7_here_16 fl_RX7_130 (by assumption) (mT_4 _ _ _) rfl ?_
      refine z_ialdx 20 (k) dX7_here_19 (by assumption) (by omega) (by omega) (eT) rfl ?_
      refine z_bipush 22 dX7_here_20 (by decide) rfl ?_
      refine z_icmp_ne 38 25 dX7_here_22 (by decide) rfl (by omega) (by omega) (fun h22 => ?_) (fun hz => absurd hz (by omega))
      refine z_aload0 39 dX7_here_38 rfl ?_
      refine z_getIx 42 dX7_here_39 fl_RX7_130 (by assumption) (mT_4 _ _ _) rfl ?_
      refine z_aload0 43 dX7_here_42 rfl ?_
      refine z_getIx 46 dX7_here_43 fl_RX7_127 (by assumption) ((mT_c _ _ _ (by decide) (by decide)).trans t1) rfl ?_
      refine z_icmp_ge 61 49 dX7_here_46 (by decide) rfl (by omega) (by omega) (fun hz => absurd hz (by omega)) (fun h46 => ?_)
      refine z_aload0 50 dX7_here_49 rfl ?_
      refine z_getR 53 dX7_here_50 fl_RX7_16 (by assumption) (by assumption) rfl ?_
      refine z_aload0 54 dX7_here_53 rfl ?_
      refine z_getIx 57 dX7_here_54 fl_RX7_130 (by assumption) (mT_4 _ _ _) rfl ?_
      refine z_ialdx 58 (k) dX7_here_57 (by assumption) (by omega) (by omega) (eT) rfl ?_
      refine z_goto 62 dX7_here_58 (by decide) ?_
      exact z_ireturn dX7_here_62 rfl (⟨rfl, rfl, rfl, rfl, rfl⟩)
theorem ct_X7_here {k : Nat} {f : Int} (hM : zMs sh R) (ht : zTm I T n) (hk : k ≤ n) : zE X mX7_here 0 0 0 [zR 157] [] sh (mT I k f) L R (zEq [zI (mat T n (tnl T n k))] sh (mT I (tnl T n k) f) L R) := lp_X7_here hM ht f (n - k) k (by omega)
theorem ct_X7_must0 {k : Nat} {b : Int} (hM : zMs sh R) (hk : k ≤ 100) (hb : b = 0 ∨ b = 1) : zE X mX7_must 0 0 0 [zR 157, zI b] [] sh (mT I k 0) L R (zEq [] sh (if b = 1 then mT I (k + 1) 0 else mT I k 1) L R) := by
  obtain ⟨⟨s0, s1, s2, s3, s4, s5, s6, s7, s8, s9, s10, s11, s12, s13, s14, s15⟩, r0, r1, r2, r3, r4, r5, r6, r7, r8, r9, r10, r11, r12, r13, r14⟩ := id hM
  rcases hb with rfl | rfl
  · rw [if_neg (by decide)]
    refine z_aload0 1 dX7_must_0 rfl ?_
    refine z_aload0 2 dX7_must_1 rfl ?_
    refine z_getIx 5 dX7_must_2 fl_RX7_133 (by assumption) (mT_5 _ _ _) rfl ?_
    refine z_if_ne 12 8 dX7_must_5 (by decide) rfl (by omega) (fun hz => absurd hz (by omega)) (fun h5 => ?_)
    refine z_iload1 9 dX7_must_8 rfl ?_
    refine z_if_ne 16 12 dX7_must_9 (by decide) rfl (by omega) (fun hz => absurd hz (by omega)) (fun h9 => ?_)
    refine z_iconst 13 dX7_must_12 rfl ?_
    refine z_goto 17 dX7_must_13 (by decide) ?_
    refine z_putZx 20 dX7_must_17 fp_RX7_133 (by omega) (by assumption) (mT_u5 _ _ _ _) rfl ?_
    refine z_aload0 21 dX7_must_20 rfl ?_
    refine z_dup 22 dX7_must_21 rfl rfl ?_
    refine z_getIx 25 dX7_must_22 fl_RX7_130 (by assumption) (mT_4 _ _ _) rfl ?_
    refine z_aload0 26 dX7_must_25 rfl ?_
    refine z_getIx 29 dX7_must_26 fl_RX7_133 (by assumption) (mT_5 _ _ _) rfl ?_
    refine z_if_eq 36 32 dX7_must_29 (by decide) rfl (by omega) (fun hz => absurd hz (by omega)) (fun h29 => ?_)
    refine z_iconst 33 dX7_must_32 rfl ?_
    refine z_goto 37 dX7_must_33 (by decide) ?_
    refine z_iadd 38 dX7_must_37 rfl ?_
    refine z_putIx 41 dX7_must_38 fp_RX7_130 (by assumption) (mT_u4 _ _ k _ (by omega)) rfl ?_
    exact z_return dX7_must_41 rfl (⟨rfl, rfl, rfl, rfl, rfl⟩)
  · rw [if_pos rfl]
    refine z_aload0 1 dX7_must_0 rfl ?_
    refine z_aload0 2 dX7_must_1 rfl ?_
    refine z_getIx 5 dX7_must_2 fl_RX7_133 (by assumption) (mT_5 _ _ _) rfl ?_
    refine z_if_ne 12 8 dX7_must_5 (by decide) rfl (by omega) (fun hz => absurd hz (by omega)) (fun h5 => ?_)
    refine z_iload1 9 dX7_must_8 rfl ?_
    refine z_if_ne 16 12 dX7_must_9 (by decide) rfl (by omega) (fun h9 => ?_) (fun hz => absurd hz (by omega))
    refine z_iconst 17 dX7_must_16 rfl ?_
    refine z_putZx 20 dX7_must_17 fp_RX7_133 (by omega) (by assumption) (mT_u5 _ _ _ _) rfl ?_
    refine z_aload0 21 dX7_must_20 rfl ?_
    refine z_dup 22 dX7_must_21 rfl rfl ?_
    refine z_getIx 25 dX7_must_22 fl_RX7_130 (by assumption) (mT_4 _ _ _) rfl ?_
    refine z_aload0 26 dX7_must_25 rfl ?_
    refine z_getIx 29 dX7_must_26 fl_RX7_133 (by assumption) (mT_5 _ _ _) rfl ?_
    refine z_if_eq 36 32 dX7_must_29 (by decide) rfl (by omega) (fun h29 => ?_) (fun hz => absurd hz (by omega))
    refine z_iconst 37 dX7_must_36 rfl ?_
    refine z_iadd 38 dX7_must_37 rfl ?_
    refine z_putIx 41 dX7_must_38 fp_RX7_130 (by assumption) (mT_u4 _ _ (k + 1) _ (by omega)) rfl ?_
    exact z_return dX7_must_41 rfl (⟨rfl, rfl, rfl, rfl, rfl⟩)
theorem ct_X7_must1 {k : Nat} {b : Int} (hM : zMs sh R) (hk : k ≤ 100) : zE X mX7_must 0 0 0 [zR 157, zI b] [] sh (mT I k 1) L R (zEq [] sh (mT I k 1) L R) := by
  obtain ⟨⟨s0, s1, s2, s3, s4, s5, s6, s7, s8, s9, s10, s11, s12, s13, s14, s15⟩, r0, r1, r2, r3, r4, r5, r6, r7, r8, r9, r10, r11, r12, r13, r14⟩ := id hM
  refine z_aload0 1 dX7_must_0 rfl ?_
  refine z_aload0 2 dX7_must_1 rfl ?_
  refine z_getIx 5 dX7_must_2 fl_RX7_133 (by assumption) (mT_5 _ _ _) rfl ?_
  refine z_if_ne 12 8 dX7_must_5 (by decide) rfl (by omega) (fun h5 => ?_) (fun hz => absurd hz (by omega))
  refine z_iconst 13 dX7_must_12 rfl ?_
  refine z_goto 17 dX7_must_13 (by decide) ?_
  refine z_putZx 20 dX7_must_17 fp_RX7_133 (by omega) (by assumption) (mT_u5 _ _ _ _) rfl ?_
  refine z_aload0 21 dX7_must_20 rfl ?_
  refine z_dup 22 dX7_must_21 rfl rfl ?_
  refine z_getIx 25 dX7_must_22 fl_RX7_130 (by assumption) (mT_4 _ _ _) rfl ?_
  refine z_aload0 26 dX7_must_25 rfl ?_
  refine z_getIx 29 dX7_must_26 fl_RX7_133 (by assumption) (mT_5 _ _ _) rfl ?_
  refine z_if_eq 36 32 dX7_must_29 (by decide) rfl (by omega) (fun hz => absurd hz (by omega)) (fun h29 => ?_)
  refine z_iconst 33 dX7_must_32 rfl ?_
  refine z_goto 37 dX7_must_33 (by decide) ?_
  refine z_iadd 38 dX7_must_37 rfl ?_
  refine z_putIx 41 dX7_must_38 fp_RX7_130 (by assumption) (mT_u4 _ _ k _ (by omega)) rfl ?_
  exact z_return dX7_must_41 rfl (⟨rfl, rfl, rfl, rfl, rfl⟩)
theorem ct_X7_digit0 {k : Nat} {lo hi : Int} (hM : zMs sh R) (ht : zTm I T n) (hk : k ≤ n) (hlo : 0 ≤ lo ∧ lo ≤ 9) (hhi : 0 ≤ hi ∧ hi ≤ 9) : ∃ v : Int, (¬ (tdg T n (lo + 48) (hi + 48) k).1 = -4 → v = (tdg T n (lo + 48) (hi + 48) k).1) ∧ (-100 ≤ v ∧ v ≤ 100) ∧ zE X mX7_digit 0 0 0 [zR 157, zI lo, zI hi, zX] [] sh (mT I k 0) L R (zEq [zI v] sh (mT I (tdg T n (lo + 48) (hi + 48) k).2 (if (tdg T n (lo + 48) (hi + 48) k).1 = -4 then 1 else 0)) L R) := by
  have s0 := hM.1.1
  have hk1 := tnl_r T n k hk
  have h70 := ht.2.1
  have hm := mat_t (k := tnl T n k) ht.2.2.2
  have z1 := zwi_r (mat T n (tnl T n k) - 48) lo hi
  have hmu := ct_X7_must0 (X := X) (I := I) (L := L) (R := R) (k := tnl T n k) (b := zwi (mat T n (tnl T n k) - 48) lo hi) hM (by omega) z1
  by_cases hc : lo + 48 ≤ tat T n (tnl T n k) ∧ tat T n (tnl T n k) ≤ hi + 48
  · have e : tdg T n (lo + 48) (hi + 48) k = (tat T n (tnl T n k) - 48, tnl T n k + 1) := by unfold tdg; rw [if_pos hc]
    rw [e, if_neg (by show ¬ tat T n (tnl T n k) - 48 = -4; omega)]
    rw [zwi_1 (by omega), if_pos rfl] at hmu
    have z2 : zwi (mat T n (tnl T n k) - 48) lo hi = 1 := zwi_1 (by omega)
    refine ⟨mat T n (tnl T n k) - 48, fun _ => by show _ = tat T n (tnl T n k) - 48; omega, by omega, ?_⟩
    refine z_aload0 1 dX7_digit_0 rfl ?_
    refine z_getIx 4 dX7_digit_1 fl_RX7_133 (by assumption) (mT_5 _ _ _) rfl ?_
    refine z_if_eq 11 7 dX7_digit_4 (by decide) rfl (by omega) (fun h4 => ?_) (fun hz => absurd hz (by omega))
    refine z_aload0 12 dX7_digit_11 rfl ?_
    refine z_xV0 15 dX7_digit_12 lk_X7_digit_137 (ct_X7_here hM ht hk) rfl (Nat.le_of_ble_eq_true rfl) (Nat.le_of_ble_eq_true rfl) (by assumption) rfl rfl ?_
    refine z_bipush 17 dX7_digit_15 (by decide) rfl ?_
    refine z_isub 18 dX7_digit_17 rfl ?_
    refine z_istore3 19 dX7_digit_18 (Nat.le_of_ble_eq_true rfl) rfl rfl ?_
    refine z_aload0 20 dX7_digit_19 rfl ?_
    refine z_iload3 21 dX7_digit_20 rfl ?_
    refine z_i2l 22 dX7_digit_21 (by omega) rfl ?_
    refine z_iload1 23 dX7_digit_22 rfl ?_
    refine z_i2l 24 dX7_digit_23 (by omega) rfl ?_
    refine z_iload2 25 dX7_digit_24 rfl ?_
    refine z_i2l 26 dX7_digit_25 (by omega) rfl ?_
    refine z_xS3 29 dX7_digit_26 lk_X7_digit_56 (ct_X7_in (by omega) (by omega) (by omega)) rfl (Nat.le_of_ble_eq_true rfl) (Nat.le_of_ble_eq_true rfl) rfl ?_
    rw [z2]
    refine z_xVv1 32 dX7_digit_29 lk_X7_digit_140 (hmu) rfl (Nat.le_of_ble_eq_true rfl) (Nat.le_of_ble_eq_true rfl) (by assumption) rfl rfl ?_
    refine z_iload3 33 dX7_digit_32 rfl ?_
    exact z_ireturn dX7_digit_33 rfl (⟨rfl, rfl, rfl, rfl, rfl⟩)
  · have e : tdg T n (lo + 48) (hi + 48) k = (-4, tnl T n k) := by unfold tdg; rw [if_neg hc]
    rw [e, if_pos rfl]
    have hz0 : ¬ (lo ≤ mat T n (tnl T n k) - 48 ∧ mat T n (tnl T n k) - 48 ≤ hi) := by omega
    rw [zwi_0 hz0, if_neg (by decide)] at hmu
    have z2 : zwi (mat T n (tnl T n k) - 48) lo hi = 0 := zwi_0 hz0
    refine ⟨mat T n (tnl T n k) - 48, fun h => absurd rfl h, by omega, ?_⟩
    refine z_aload0 1 dX7_digit_0 rfl ?_
    refine z_getIx 4 dX7_digit_1 fl_RX7_133 (by assumption) (mT_5 _ _ _) rfl ?_
    refine z_if_eq 11 7 dX7_digit_4 (by decide) rfl (by omega) (fun h4 => ?_) (fun hz => absurd hz (by omega))
    refine z_aload0 12 dX7_digit_11 rfl ?_
    refine z_xV0 15 dX7_digit_12 lk_X7_digit_137 (ct_X7_here hM ht hk) rfl (Nat.le_of_ble_eq_true rfl) (Nat.le_of_ble_eq_true rfl) (by assumption) rfl rfl ?_
    refine z_bipush 17 dX7_digit_15 (by decide) rfl ?_
    refine z_isub 18 dX7_digit_17 rfl ?_
    refine z_istore3 19 dX7_digit_18 (Nat.le_of_ble_eq_true rfl) rfl rfl ?_
    refine z_aload0 20 dX7_digit_19 rfl ?_
    refine z_iload3 21 dX7_digit_20 rfl ?_
    refine z_i2l 22 dX7_digit_21 (by omega) rfl ?_
    refine z_iload1 23 dX7_digit_22 rfl ?_
    refine z_i2l 24 dX7_digit_23 (by omega) rfl ?_
    refine z_iload2 25 dX7_digit_24 rfl ?_
    refine z_i2l 26 dX7_digit_25 (by omega) rfl ?_
    refine z_xS3 29 dX7_digit_26 lk_X7_digit_56 (ct_X7_in (by omega) (by omega) (by omega)) rfl (Nat.le_of_ble_eq_true rfl) (Nat.le_of_ble_eq_true rfl) rfl ?_
    rw [z2]
    refine z_xVv1 32 dX7_digit_29 lk_X7_digit_140 (hmu) rfl (Nat.le_of_ble_eq_true rfl) (Nat.le_of_ble_eq_true rfl) (by assumption) rfl rfl ?_
    refine z_iload3 33 dX7_digit_32 rfl ?_
    exact z_ireturn dX7_digit_33 rfl (⟨rfl, rfl, rfl, rfl, rfl⟩)
theorem ct_X7_digit1 {k : Nat} {lo hi : Int} (hM : zMs sh R) (hk : k ≤ 100) (hlo : 0 ≤ lo ∧ lo ≤ 9) (hhi : 0 ≤ hi ∧ hi ≤ 9) : zE X mX7_digit 0 0 0 [zR 157, zI lo, zI hi, zX] [] sh (mT I k 1) L R (zEq [zI (-1)] sh (mT I k 1) L R) := by
  have s0 := hM.1.1
  have z1 := zwi_r (-1) lo hi
  refine z_aload0 1 dX7_digit_0 rfl ?_
  refine z_getIx 4 dX7_digit_1 fl_RX7_133 (by assumption) (mT_5 _ _ _) rfl ?_
  refine z_if_eq 11 7 dX7_digit_4 (by decide) rfl (by omega) (fun hz => absurd hz (by omega)) (fun h4 => ?_)
  refine z_iconst 8 dX7_digit_7 rfl ?_
  refine z_goto 18 dX7_digit_8 (by decide) ?_
  refine z_istore3 19 dX7_digit_18 (Nat.le_of_ble_eq_true rfl) rfl rfl ?_
  refine z_aload0 20 dX7_digit_19 rfl ?_
  refine z_iload3 21 dX7_digit_20 rfl ?_
  refine z_i2l 22 dX7_digit_21 (by omega) rfl ?_
  refine z_iload1 23 dX7_digit_22 rfl ?_
  refine z_i2l 24 dX7_digit_23 (by omega) rfl ?_
  refine z_iload2 25 dX7_digit_24 rfl ?_
  refine z_i2l 26 dX7_digit_25 (by omega) rfl ?_
  refine z_xS3 29 dX7_digit_26 lk_X7_digit_56 (ct_X7_in (by omega) (by omega) (by omega)) rfl (Nat.le_of_ble_eq_true rfl) (Nat.le_of_ble_eq_true rfl) rfl ?_
  refine z_xVv1 32 dX7_digit_29 lk_X7_digit_140 (ct_X7_must1 hM hk) rfl (Nat.le_of_ble_eq_true rfl) (Nat.le_of_ble_eq_true rfl) (by assumption) rfl rfl ?_
  refine z_iload3 33 dX7_digit_32 rfl ?_
  exact z_ireturn dX7_digit_33 rfl (⟨rfl, rfl, rfl, rfl, rfl⟩)
end MODT
