/-! ===== a Sheet at place a: its object (0 items, 1 lane, 2 size), its row of 24 longs behind it ===== -/
def zSh (sh : zH) (R : zR2) (a : Nat) : Prop := sh[a]? = some (3, 3) ∧ sh[a + 1]? = some (21, 24) ∧ R a 0 = some (a + 1)
/-- the ranges of a Sheet -/
def zShr (I L : zI2) (a : Nat) : Prop := (I a 1 = -1 ∨ (0 ≤ I a 1 ∧ I a 1 ≤ 3)) ∧ (0 ≤ I a 2 ∧ I a 2 ≤ 24) ∧ ∀ j, j < 24 → -9223372036854775808 ≤ L (a + 1) j ∧ L (a + 1) j ≤ 9223372036854775807
def shold (z i n : Int) : Int := if (0 ≤ i ∧ i ≤ z) ∧ (0 ≤ n ∧ n ≤ z - i) then 1 else 0
def sref (ln z lane i n : Int) : Int := if ln = -1 then -11 else if ln = lane then (if (0 ≤ i ∧ i ≤ z) ∧ (0 ≤ n ∧ n ≤ z - i) then 0 else -13) else -12
def scut (ln v : Int) : Int := if ln = 0 then zi2b (zl2i v) else if ln = 1 then zi2s (zl2i v) else if ln = 2 then zl2i v else v
theorem z32_r (x : Int32) : -2147483648 ≤ x.toInt ∧ x.toInt ≤ 2147483647 := by
  have h1 := Int32.le_toInt x
  have h2 := Int32.toInt_lt x
  omega
theorem zi2b_r (v : Int) : -2147483648 ≤ zi2b v ∧ zi2b v ≤ 2147483647 := z32_r _
theorem zi2s_r (v : Int) : -2147483648 ≤ zi2s v ∧ zi2s v ≤ 2147483647 := z32_r _
theorem zl2i_r (v : Int) : -2147483648 ≤ zl2i v ∧ zl2i v ≤ 2147483647 := z32_r _
theorem scut_r (ln v : Int) (hv : -9223372036854775808 ≤ v ∧ v ≤ 9223372036854775807) : -9223372036854775808 ≤ scut ln v ∧ scut ln v ≤ 9223372036854775807 := by
  have h1 := zi2b_r (zl2i v)
  have h2 := zi2s_r (zl2i v)
  have h3 := zl2i_r v
  unfold scut
  repeat' split
  all_goals omega
/-- do the n items from i on tell the speeds from t on? -/
def stell (it sp : Nat → Int) : Nat → Nat → Nat → Int
  | 0, _, _ => 1
  | n + 1, i, t => if it i = sp t then stell it sp n (i + 1) (t + 1) else 0
section SHEET
variable {X : zXs} {sh : zH} {I L : zI2} {R : zR2} {a : Nat}
theorem lp_J7_fillL {n : Nat} {v : Int} (ha : sh[a]? = some (21, n)) (hn : n ≤ 60000) : ∀ (m i : Nat), i + m = n → zE X mJ7_fill_d0a16 0 0 6 [zR a, zL v, zX, zI (i : Int), zI (n : Int)] [] sh I (zrow L a (zfl (L a) i v)) R (zEq [] sh I (zrow L a (zfl (L a) n v)) R)
  | 0, i, h => by
    have hi : i = n := by omega
    subst hi
    refine z_iload3 7 dJ7_fill_d0a16_6 rfl ?_
    refine z_iload4 9 dJ7_fill_d0a16_7 rfl ?_
    refine z_icmp_ge 22 12 dJ7_fill_d0a16_9 (by decide) rfl (by omega) (by omega) (fun h9 => ?_) (fun hz => absurd hz (by omega))
    exact z_return dJ7_fill_d0a16_22 rfl (⟨rfl, rfl, rfl, rfl, rfl⟩)
  | m + 1, i, h => by
    refine z_iload3 7 dJ7_fill_d0a16_6 rfl ?_
    refine z_iload4 9 dJ7_fill_d0a16_7 rfl ?_
    refine z_icmp_ge 22 12 dJ7_fill_d0a16_9 (by decide) rfl (by omega) (by omega) (fun hz => absurd hz (by omega)) (fun h9 => ?_)
    refine z_aload0 13 dJ7_fill_d0a16_12 rfl ?_
    refine z_iload3 14 dJ7_fill_d0a16_13 rfl ?_
    refine z_lload1 15 dJ7_fill_d0a16_14 rfl ?_
    refine z_lastx 16 (i) dJ7_fill_d0a16_15 (by assumption) (by omega) (by omega) (zrow_up _ _ _ _ _) rfl ?_
    refine z_iinc3 19 dJ7_fill_d0a16_16 (Nat.le_of_ble_eq_true rfl) rfl rfl ?_
    refine z_goto 6 dJ7_fill_d0a16_19 (by decide) ?_
    have e : (fun q => if q = i then v else zfl (L a) i v q) = zfl (L a) (i + 1) v := by funext q; unfold zfl; by_cases h1 : q = i; (subst h1; simp); (by_cases h2 : q < i; (rw [if_neg h1, if_pos h2, if_pos (by omega)]); (rw [if_neg h1, if_neg h2, if_neg (by omega)]))
    rw [e]
    exact lp_J7_fillL ha hn m (i + 1) (by omega)
theorem ct_J7_fillL {n : Nat} {v : Int} (ha : sh[a]? = some (21, n)) (hn : n ≤ 60000) : zE X mJ7_fill_d0a16 0 0 0 [zR a, zL v, zX, zX, zX] [] sh I L R (zEq [] sh I (zrow L a (zfl (L a) n v)) R) := by
  refine z_iconst 1 dJ7_fill_d0a16_0 rfl ?_
  refine z_istore3 2 dJ7_fill_d0a16_1 (Nat.le_of_ble_eq_true rfl) rfl rfl ?_
  refine z_aload0 3 dJ7_fill_d0a16_2 rfl ?_
  refine z_alen 4 dJ7_fill_d0a16_3 (by assumption) (by decide) rfl ?_
  refine z_istore4 6 dJ7_fill_d0a16_4 (Nat.le_of_ble_eq_true rfl) rfl rfl ?_
  have h := lp_J7_fillL (X := X) (I := I) (L := L) (R := R) (v := v) ha hn n 0 (by omega)
  have e : zrow L a (zfl (L a) 0 v) = L := by rw [show zfl (L a) 0 v = L a from funext fun q => by simp [zfl], zrow_self]
  rw [e] at h
  exact h
theorem ct_X3_begin {ln n : Int} (hs : zSh sh R a) : zE X mX3_begin 0 0 0 [zR a, zI ln, zI n] [] sh I L R (zEq [] sh (zup (zup I a 1 ln) a 2 n) (zrow L (a + 1) (zfl (L (a + 1)) 24 0)) R) := by
  obtain ⟨s0, s1, r0⟩ := id hs
  refine z_aload0 1 dX3_begin_0 rfl ?_
  refine z_getR 4 dX3_begin_1 fl_RX3_11 (by assumption) (by assumption) rfl ?_
  refine z_lconst0 5 dX3_begin_4 rfl ?_
  refine z_xSv2 8 dX3_begin_5 lk_X3_begin_22 (ct_J7_fillL s1 (by omega)) rfl (Nat.le_of_ble_eq_true rfl) (Nat.le_of_ble_eq_true rfl) rfl ?_
  refine z_aload0 9 dX3_begin_8 rfl ?_
  refine z_iload1 10 dX3_begin_9 rfl ?_
  refine z_putI 13 dX3_begin_10 fp_RX3_15 (by assumption) rfl ?_
  refine z_aload0 14 dX3_begin_13 rfl ?_
  refine z_iload2 15 dX3_begin_14 rfl ?_
  refine z_putI 18 dX3_begin_15 fp_RX3_19 (by assumption) rfl ?_
  exact z_return dX3_begin_18 rfl (⟨rfl, rfl, rfl, rfl, rfl⟩)
theorem ct_X3_becomeNothing (hs : zSh sh R a) : zE X mX3_becomeNothing 0 0 0 [zR a] [] sh I L R (zEq [] sh (zup (zup I a 1 (-1)) a 2 0) L R) := by
  obtain ⟨s0, s1, r0⟩ := id hs
  refine z_aload0 1 dX3_becomeNothing_0 rfl ?_
  refine z_iconst 2 dX3_becomeNothing_1 rfl ?_
  refine z_putI 5 dX3_becomeNothing_2 fp_RX3_15 (by assumption) rfl ?_
  refine z_aload0 6 dX3_becomeNothing_5 rfl ?_
  refine z_iconst 7 dX3_becomeNothing_6 rfl ?_
  refine z_putI 10 dX3_becomeNothing_7 fp_RX3_19 (by assumption) rfl ?_
  exact z_return dX3_becomeNothing_10 rfl (⟨rfl, rfl, rfl, rfl, rfl⟩)
theorem ct_X3_isNothing (hs : zSh sh R a) (hr : zShr I L a) : zE X mX3_isNothing 0 0 0 [zR a] [] sh I L R (zEq [zI (if I a 1 = -1 then 1 else 0)] sh I L R) := by
  obtain ⟨s0, s1, r0⟩ := id hs
  obtain ⟨h1, h2, h3⟩ := id hr
  refine z_aload0 1 dX3_isNothing_0 rfl ?_
  refine z_getI 4 dX3_isNothing_1 fl_RX3_15 (by assumption) rfl ?_
  refine z_iconst 5 dX3_isNothing_4 rfl ?_
  refine z_icmp_ne 12 8 dX3_isNothing_5 (by decide) rfl (by omega) (by omega) (fun h5 => ?_) (fun h5 => ?_)
  · refine z_iconst 13 dX3_isNothing_12 rfl ?_
    exact z_zreturn dX3_isNothing_13 rfl (by omega) (⟨by first | rw [if_pos h5] | rw [if_neg h5], rfl, rfl, rfl, rfl⟩)
  · refine z_iconst 9 dX3_isNothing_8 rfl ?_
    refine z_goto 13 dX3_isNothing_9 (by decide) ?_
    exact z_zreturn dX3_isNothing_13 rfl (by omega) (⟨by first | rw [if_pos h5] | rw [if_neg h5], rfl, rfl, rfl, rfl⟩)
theorem ct_X3_holds {i n : Int} (hs : zSh sh R a) (hr : zShr I L a) (hi : -2147483648 ≤ i ∧ i ≤ 2147483647) (hn : -2147483648 ≤ n ∧ n ≤ 2147483647) : zE X mX3_holds 0 0 0 [zR a, zI i, zI n] [] sh I L R (zEq [zI (shold (I a 2) i n)] sh I L R) := by
  obtain ⟨s0, s1, r0⟩ := id hs
  obtain ⟨h1, h2, h3⟩ := id hr
  have z1 := zwi_r i 0 (I a 2)
  have z2 := zwi_r n 0 (I a 2 - i)
  refine z_iload1 1 dX3_holds_0 rfl ?_
  refine z_iconst 2 dX3_holds_1 rfl ?_
  refine z_aload0 3 dX3_holds_2 rfl ?_
  refine z_getI 6 dX3_holds_3 fl_RX3_19 (by assumption) rfl ?_
  refine z_xSN3 9 dX3_holds_6 lk_X3_holds_28 (ct_X6_within (by omega) (by omega) (by omega)) rfl (Nat.le_of_ble_eq_true rfl) (Nat.le_of_ble_eq_true rfl) rfl ?_
  refine z_if_eq 30 12 dX3_holds_9 (by decide) rfl (by omega) (fun h9 => ?_) (fun h9 => ?_)
  · refine z_iconst 31 dX3_holds_30 rfl ?_
    exact z_zreturn dX3_holds_31 rfl (by omega) (⟨by unfold shold; first | rw [if_neg (fun q => zwi_eq0 h9 q.1)] | rw [if_neg (fun q => zwi_eq0 h23 q.2)] | rw [if_pos ⟨zwi_ne0 h9, zwi_ne0 h23⟩], rfl, rfl, rfl, rfl⟩)
  · refine z_iload2 13 dX3_holds_12 rfl ?_
    refine z_iconst 14 dX3_holds_13 rfl ?_
    refine z_aload0 15 dX3_holds_14 rfl ?_
    refine z_getI 18 dX3_holds_15 fl_RX3_19 (by assumption) rfl ?_
    refine z_iload1 19 dX3_holds_18 rfl ?_
    refine z_isub 20 dX3_holds_19 rfl ?_
    refine z_xSN3 23 dX3_holds_20 lk_X3_holds_28 (ct_X6_within (by omega) (by omega) (by have := zwi_ne0 h9; omega)) rfl (Nat.le_of_ble_eq_true rfl) (Nat.le_of_ble_eq_true rfl) rfl ?_
    refine z_if_eq 30 26 dX3_holds_23 (by decide) rfl (by omega) (fun h23 => ?_) (fun h23 => ?_)
    · refine z_iconst 31 dX3_holds_30 rfl ?_
      exact z_zreturn dX3_holds_31 rfl (by omega) (⟨by unfold shold; first | rw [if_neg (fun q => zwi_eq0 h9 q.1)] | rw [if_neg (fun q => zwi_eq0 h23 q.2)] | rw [if_pos ⟨zwi_ne0 h9, zwi_ne0 h23⟩], rfl, rfl, rfl, rfl⟩)
    · refine z_iconst 27 dX3_holds_26 rfl ?_
      refine z_goto 31 dX3_holds_27 (by decide) ?_
      exact z_zreturn dX3_holds_31 rfl (by omega) (⟨by unfold shold; first | rw [if_neg (fun q => zwi_eq0 h9 q.1)] | rw [if_neg (fun q => zwi_eq0 h23 q.2)] | rw [if_pos ⟨zwi_ne0 h9, zwi_ne0 h23⟩], rfl, rfl, rfl, rfl⟩)
theorem ct_X3_refusal {ln i n : Int} (hs : zSh sh R a) (hr : zShr I L a) (hln : 0 ≤ ln ∧ ln ≤ 3) (hi : -2147483648 ≤ i ∧ i ≤ 2147483647) (hn : -2147483648 ≤ n ∧ n ≤ 2147483647) : zE X mX3_refusal 0 0 0 [zR a, zI ln, zI i, zI n] [] sh I L R (zEq [zI (sref (I a 1) (I a 2) ln i n)] sh I L R) := by
  obtain ⟨s0, s1, r0⟩ := id hs
  obtain ⟨h1, h2, h3⟩ := id hr
  have hq : (if I a 1 = -1 then (1 : Int) else 0) = 0 ∨ (if I a 1 = -1 then (1 : Int) else 0) = 1 := by split <;> simp
  have hq2 : shold (I a 2) i n = 0 ∨ shold (I a 2) i n = 1 := by unfold shold; split <;> simp
  refine z_aload0 1 dX3_refusal_0 rfl ?_
  refine z_xV0 4 dX3_refusal_1 lk_X3_refusal_32 (ct_X3_isNothing hs hr) rfl (Nat.le_of_ble_eq_true rfl) (Nat.le_of_ble_eq_true rfl) (by assumption) rfl rfl ?_
  refine z_if_eq 10 7 dX3_refusal_4 (by decide) rfl (by omega) (fun h4 => ?_) (fun h4 => ?_)
  · have h5 : ¬ I a 1 = -1 := fun q => by rw [if_pos q] at h4; omega
    refine z_aload0 11 dX3_refusal_10 rfl ?_
    refine z_getI 14 dX3_refusal_11 fl_RX3_15 (by assumption) rfl ?_
    refine z_iload1 15 dX3_refusal_14 rfl ?_
    refine z_icmp_eq 21 18 dX3_refusal_15 (by decide) rfl (by omega) (by omega) (fun h15 => ?_) (fun h15 => ?_)
    · refine z_aload0 22 dX3_refusal_21 rfl ?_
      refine z_iload2 23 dX3_refusal_22 rfl ?_
      refine z_iload3 24 dX3_refusal_23 rfl ?_
      refine z_xV2 27 dX3_refusal_24 lk_X3_refusal_36 (ct_X3_holds hs hr hi hn) rfl (Nat.le_of_ble_eq_true rfl) (Nat.le_of_ble_eq_true rfl) (by assumption) rfl rfl ?_
      refine z_if_eq 34 30 dX3_refusal_27 (by decide) rfl (by omega) (fun h27 => ?_) (fun h27 => ?_)
      · refine z_bipush 36 dX3_refusal_34 (by decide) rfl ?_
        exact z_ireturn dX3_refusal_36 rfl (⟨by unfold sref; rw [if_neg h5, if_pos h15]; unfold shold at h27; first | rw [if_pos (Classical.byContradiction fun q => h27 (if_neg q))] | rw [if_neg (fun q => by rw [if_pos q] at h27; omega)], rfl, rfl, rfl, rfl⟩)
      · refine z_iconst 31 dX3_refusal_30 rfl ?_
        refine z_goto 36 dX3_refusal_31 (by decide) ?_
        exact z_ireturn dX3_refusal_36 rfl (⟨by unfold sref; rw [if_neg h5, if_pos h15]; unfold shold at h27; first | rw [if_pos (Classical.byContradiction fun q => h27 (if_neg q))] | rw [if_neg (fun q => by rw [if_pos q] at h27; omega)], rfl, rfl, rfl, rfl⟩)
    · refine z_bipush 20 dX3_refusal_18 (by decide) rfl ?_
      exact z_ireturn dX3_refusal_20 rfl (⟨by unfold sref; rw [if_neg h5, if_neg h15], rfl, rfl, rfl, rfl⟩)
  · have h5 : I a 1 = -1 := Classical.byContradiction fun q => h4 (if_neg q)
    refine z_bipush 9 dX3_refusal_7 (by decide) rfl ?_
    exact z_ireturn dX3_refusal_9 rfl (⟨by unfold sref; rw [if_pos h5], rfl, rfl, rfl, rfl⟩)
theorem ct_X3_cut {v : Int} (hs : zSh sh R a) (hr : zShr I L a) : zE X mX3_cut 0 0 0 [zR a, zL v, zX] [] sh I L R (zEq [zL (scut (I a 1) v)] sh I L R) := by
  obtain ⟨s0, s1, r0⟩ := id hs
  obtain ⟨h1, h2, h3⟩ := id hr
  have q1 := zi2b_r (zl2i v)
  have q2 := zi2s_r (zl2i v)
  have q3 := zl2i_r v
  refine z_aload0 1 dX3_cut_0 rfl ?_
  refine z_getI 4 dX3_cut_1 fl_RX3_15 (by assumption) rfl ?_
  rcases (by omega : I a 1 = 0 ∨ I a 1 = 1 ∨ I a 1 = 2 ∨ I a 1 = 3 ∨ I a 1 = -1) with hk | hk | hk | hk | hk
  · rw [hk]
    refine z_swIn 32 (off := 28) dX3_cut_4 (by omega) (by omega) (by decide) (by decide) ?_
    refine z_lload1 33 dX3_cut_32 rfl ?_
    refine z_l2i 34 dX3_cut_33 rfl ?_
    refine z_i2b 35 dX3_cut_34 rfl ?_
    refine z_i2l 36 dX3_cut_35 (by omega) rfl ?_
    exact z_lreturn dX3_cut_36 rfl (⟨by simp [scut, hk], rfl, rfl, rfl, rfl⟩)
  · rw [hk]
    refine z_swIn 37 (off := 33) dX3_cut_4 (by omega) (by omega) (by decide) (by decide) ?_
    refine z_lload1 38 dX3_cut_37 rfl ?_
    refine z_l2i 39 dX3_cut_38 rfl ?_
    refine z_i2s 40 dX3_cut_39 rfl ?_
    refine z_i2l 41 dX3_cut_40 (by omega) rfl ?_
    exact z_lreturn dX3_cut_41 rfl (⟨by simp [scut, hk], rfl, rfl, rfl, rfl⟩)
  · rw [hk]
    refine z_swIn 42 (off := 38) dX3_cut_4 (by omega) (by omega) (by decide) (by decide) ?_
    refine z_lload1 43 dX3_cut_42 rfl ?_
    refine z_l2i 44 dX3_cut_43 rfl ?_
    refine z_i2l 45 dX3_cut_44 (by omega) rfl ?_
    exact z_lreturn dX3_cut_45 rfl (⟨by simp [scut, hk], rfl, rfl, rfl, rfl⟩)
  · rw [hk]
    refine z_swOut 46 dX3_cut_4 (by omega) (by omega) (by decide) ?_
    refine z_lload1 47 dX3_cut_46 rfl ?_
    exact z_lreturn dX3_cut_47 rfl (⟨by simp [scut, hk], rfl, rfl, rfl, rfl⟩)
  · rw [hk]
    refine z_swOut 46 dX3_cut_4 (by omega) (by omega) (by decide) ?_
    refine z_lload1 47 dX3_cut_46 rfl ?_
    exact z_lreturn dX3_cut_47 rfl (⟨by simp [scut, hk], rfl, rfl, rfl, rfl⟩)
theorem ct_X3_put {i : Nat} {v : Int} (hs : zSh sh R a) (hr : zShr I L a) (hi : (i : Int) < I a 2) : zE X mX3_put 0 0 0 [zR a, zI (i : Int), zL v, zX] [] sh I L R (zEq [] sh I (zup L (a + 1) i (scut (I a 1) v)) R) := by
  obtain ⟨s0, s1, r0⟩ := id hs
  obtain ⟨h1, h2, h3⟩ := id hr
  refine z_iload1 1 dX3_put_0 rfl ?_
  refine z_iconst 2 dX3_put_1 rfl ?_
  refine z_aload0 3 dX3_put_2 rfl ?_
  refine z_getI 6 dX3_put_3 fl_RX3_19 (by assumption) rfl ?_
  refine z_iconst 7 dX3_put_6 rfl ?_
  refine z_isub 8 dX3_put_7 rfl ?_
  refine z_xSN3 11 dX3_put_8 lk_X3_put_28 (ct_X6_within (by omega) (by omega) (by omega)) rfl (Nat.le_of_ble_eq_true rfl) (Nat.le_of_ble_eq_true rfl) rfl ?_
  rw [zwi_1 (by omega)]
  refine z_if_eq 25 14 dX3_put_11 (by decide) rfl (by omega) (fun hz => absurd hz (by omega)) (fun h11 => ?_)
  refine z_aload0 15 dX3_put_14 rfl ?_
  refine z_getR 18 dX3_put_15 fl_RX3_11 (by assumption) (by assumption) rfl ?_
  refine z_iload1 19 dX3_put_18 rfl ?_
  refine z_aload0 20 dX3_put_19 rfl ?_
  refine z_lload2 21 dX3_put_20 rfl ?_
  refine z_xV1 24 dX3_put_21 lk_X3_put_40 (ct_X3_cut hs hr) rfl (Nat.le_of_ble_eq_true rfl) (Nat.le_of_ble_eq_true rfl) (by assumption) rfl rfl ?_
  refine z_lastN 25 (i) dX3_put_24 (by assumption) (by omega) (by omega) rfl ?_
  exact z_return dX3_put_25 rfl (⟨rfl, rfl, rfl, rfl, rfl⟩)
theorem lp_X3_tells {i0 sp t0 n0 : Nat} (hs : zSh sh R a) (hr : zShr I L a) (hsp : sh[sp]? = some (20, 10)) (hsr : ∀ j, j < 10 → -4 ≤ I sp j ∧ I sp j ≤ 30) (hi : i0 + n0 ≤ 24) (ht : t0 + n0 ≤ 10) : ∀ (m k : Nat), k + m = n0 → zE X mX3_tells 0 0 3 [zR a, zI (i0 : Int), zR sp, zI (t0 : Int), zI (n0 : Int), zI (k : Int)] [] sh I L R (zEq [zI (stell (L (a + 1)) (I sp) m (i0 + k) (t0 + k))] sh I L R)
  | 0, k, h => by
    refine z_iload5 5 dX3_tells_3 rfl ?_
    refine z_iload4 7 dX3_tells_5 rfl ?_
    refine z_icmp_ge 38 10 dX3_tells_7 (by decide) rfl (by omega) (by omega) (fun h7 => ?_) (fun hz => absurd hz (by omega))
    refine z_iconst 39 dX3_tells_38 rfl ?_
    exact z_zreturn dX3_tells_39 rfl (by omega) (⟨rfl, rfl, rfl, rfl, rfl⟩)
  | m + 1, k, h => by
    obtain ⟨s0, s1, r0⟩ := id hs
    obtain ⟨h1, h2, h3⟩ := id hr
    have h4 := h3 (i0 + k) (by omega)
    have h5 := hsr (t0 + k) (by omega)
    have hc : zcmpL (L (a + 1) (i0 + k)) (I sp (t0 + k)) = 0 ↔ L (a + 1) (i0 + k) = I sp (t0 + k) := by unfold zcmpL; split <;> (try split) <;> omega
    have hc2 : -1 ≤ zcmpL (L (a + 1) (i0 + k)) (I sp (t0 + k)) ∧ zcmpL (L (a + 1) (i0 + k)) (I sp (t0 + k)) ≤ 1 := by unfold zcmpL; split <;> (try split) <;> omega
    refine z_iload5 5 dX3_tells_3 rfl ?_
    refine z_iload4 7 dX3_tells_5 rfl ?_
    refine z_icmp_ge 38 10 dX3_tells_7 (by decide) rfl (by omega) (by omega) (fun hz => absurd hz (by omega)) (fun h7 => ?_)
    refine z_aload0 11 dX3_tells_10 rfl ?_
    refine z_getR 14 dX3_tells_11 fl_RX3_11 (by assumption) (by assumption) rfl ?_
    refine z_iload1 15 dX3_tells_14 rfl ?_
    refine z_iload5 17 dX3_tells_15 rfl ?_
    refine z_iadd 18 dX3_tells_17 rfl ?_
    refine z_laldN 19 ((i0 + k)) dX3_tells_18 (by assumption) (by omega) (by omega) rfl ?_
    refine z_aload2 20 dX3_tells_19 rfl ?_
    refine z_iload3 21 dX3_tells_20 rfl ?_
    refine z_iload5 23 dX3_tells_21 rfl ?_
    refine z_iadd 24 dX3_tells_23 rfl ?_
    refine z_ialdN 25 ((t0 + k)) dX3_tells_24 (by assumption) (by omega) (by omega) rfl ?_
    refine z_i2l 26 dX3_tells_25 (by omega) rfl ?_
    refine z_lcmp 27 dX3_tells_26 (by omega) (by omega) rfl ?_
    refine z_if_eq 32 30 dX3_tells_27 (by decide) rfl (by omega) (fun h27 => ?_) (fun h27 => ?_)
    · refine z_iinc5 35 dX3_tells_32 (Nat.le_of_ble_eq_true rfl) rfl rfl ?_
      refine z_goto 3 dX3_tells_35 (by decide) ?_
      rw [show stell (L (a + 1)) (I sp) (m + 1) (i0 + k) (t0 + k) = stell (L (a + 1)) (I sp) m (i0 + (k + 1)) (t0 + (k + 1)) by rw [stell, if_pos (hc.mp h27)]; rfl]
      exact lp_X3_tells hs hr hsp hsr hi ht m (k + 1) (by omega)
    · refine z_iconst 31 dX3_tells_30 rfl ?_
      exact z_zreturn dX3_tells_31 rfl (by omega) (⟨by rw [stell, if_neg (fun q => h27 (hc.mpr q))], rfl, rfl, rfl, rfl⟩)
theorem ct_X3_tells {i0 sp t0 n0 : Nat} (hs : zSh sh R a) (hr : zShr I L a) (hsp : sh[sp]? = some (20, 10)) (hsr : ∀ j, j < 10 → -4 ≤ I sp j ∧ I sp j ≤ 30) (hi : i0 + n0 ≤ 24) (ht : t0 + n0 ≤ 10) : zE X mX3_tells 0 0 0 [zR a, zI (i0 : Int), zR sp, zI (t0 : Int), zI (n0 : Int), zX] [] sh I L R (zEq [zI (stell (L (a + 1)) (I sp) n0 i0 t0)] sh I L R) := by
  refine z_iconst 1 dX3_tells_0 rfl ?_
  refine z_istore5 3 dX3_tells_1 (Nat.le_of_ble_eq_true rfl) rfl rfl ?_
  exact lp_X3_tells hs hr hsp hsr hi ht n0 0 (by omega)
end SHEET
