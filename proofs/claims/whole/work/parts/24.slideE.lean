/-! ===== a Slide: drifting, copying, riders ===== -/
theorem zsl_rR (I : zI2) (b : Nat) (S : zT) {i : Nat} (hi : i < 7) : zsl I b S (b + i) = S i := funext (zsl_r I b S hi)
def drow (S : zT) (w : Nat → Int) : Nat → Int := if 0 < S 0 6 then (if S 6 (S 0 8 / 65536 % S 0 6).toNat = 30 then (sft S (S 0 8 / 65536 % S 0 6).toNat 10 0 2 (zfl w 10 (-4))).2 else w) else w
def cpr (P S : zT) (i n : Nat) : zT := zrow S i (zcp (P i) (S i) 0 0 n)
def sgb (P S : zT) : zT := zup (zup (cpr P (cpr P (cpr P S 1 10) 2 10) 6 5) 0 7 (P 0 7)) 0 8 (P 0 8)
def sbc (P S : zT) : zT := zup (cpr P (cpr P (cpr P (sgb P S) 3 5) 4 5) 5 5) 0 6 (P 0 6)
def sad (S : zT) (r : Nat) (k h l : Int) : zT := zup (zup (zup (zup (zup S 3 r k) 4 r h) 5 r l) 6 r 30) 0 6 ((r : Int) + 1)
theorem sdoA_sr {S : zT} (h : zSr S) : zSr (sdoA S) := zSr_up0 h (Or.inl (by decide))
theorem sdr_r (d : Int) : 0 ≤ sdr d ∧ sdr d ≤ 2147483647 := by unfold sdr; omega
theorem sdoA_8 (S : zT) : 0 ≤ sdoA S 0 8 ∧ sdoA S 0 8 ≤ 2147483647 := by
  unfold sdoA
  rw [zup_at]
  exact sdr_r _
theorem sdn_0 (w : Nat → Int) : ∀ (m t : Nat) (S : zT), (sdn w m t S) 0 = S 0
  | 0, t, S => rfl
  | m + 1, t, S => by
    have h : lft S t 0 = S 0 := by
      unfold lft
      split
      · rfl
      · exact zup_row S _ (by decide)
    unfold sdn
    split
    · exact h
    · rw [sdn_0 w m (t + 1), zup_row _ _ (by decide), h]
theorem send_06 (S : zT) (r j : Nat) (hj : ¬ j = 7) : send S r 0 j = S 0 j := by
  unfold send
  rw [zup_ne _ _ (by omega), zup_row _ _ (by decide), sdn_0]
theorem sdoB_8 (S : zT) : sdoB S 0 8 = S 0 8 := by
  unfold sdoB
  split
  · split
    · exact send_06 S _ 8 (by decide)
    · rw [zup_row _ _ (by decide)]
  · rfl
theorem sdq (S : zT) (hr : zSr S) (hd : 0 ≤ S 0 8 ∧ S 0 8 ≤ 2147483647) (h0 : 0 < S 0 6) : ∃ q : Nat, S 0 8 / 65536 % S 0 6 = (q : Int) ∧ q < 5 := by
  have hx1 := Int.emod_nonneg (S 0 8 / 65536) (by omega : S 0 6 ≠ 0)
  have hx2 := Int.emod_lt_of_pos (S 0 8 / 65536) (by omega : 0 < S 0 6)
  have h5 := hr.1.2
  exact ⟨(S 0 8 / 65536 % S 0 6).toNat, (Int.toNat_of_nonneg hx1).symm, by omega⟩
theorem sdoB_sr {S : zT} (hr : zSr S) (hd : 0 ≤ S 0 8 ∧ S 0 8 ≤ 2147483647) : zSr (sdoB S) := by
  unfold sdoB
  split
  · rename_i h0
    obtain ⟨q, hq, hq5⟩ := sdq S hr hd h0
    rw [hq, Int.toNat_natCast]
    split
    · exact send_sr hr hq5
    · exact zSr_up6 hr _ (by omega)
  · exact hr
theorem sdoC_sr {S : zT} (hr : zSr S) (hd : 0 ≤ S 0 8 ∧ S 0 8 ≤ 2147483647) : zSr (sdoC S) := by
  have h := hr.2.1 (S 0 8 / 128 % 10).toNat (by omega)
  exact zSr_up1 hr _ (by split <;> omega)
theorem sdo_sr {S : zT} (hr : zSr S) : zSr (sdo S) := sdoC_sr (sdoB_sr (sdoA_sr hr) (sdoA_8 S)) (by rw [sdoB_8]; exact sdoA_8 S)
section SLIDEF
variable {X : zXs} {sh : zH} {I L : zI2} {R : zR2} {S : zT} {b : Nat}
theorem tl_X4_driftOnce {sp : Nat} {x : zV} (hx : zl (zR sp) = false) (hs : zSl sh R b) (hr : zSr S) (hd : 0 ≤ S 0 8 ∧ S 0 8 ≤ 2147483647) : zE X mX4_driftOnce 0 0 67 [zR b, zR sp, x] [] sh (zsl I b S) L R (zEq [] sh (zsl I b (sdoC S)) L R) := by
  obtain ⟨⟨s0, s1, s2, s3, s4, s5, s6⟩, r0, r1, r2, r3, r4, r5⟩ := id hs
  have hg := hr.2.1 (S 0 8 / 128 % 10).toNat (by omega)
  refine z_aload0 68 dX4_driftOnce_67 rfl ?_
  refine z_getIx 71 dX4_driftOnce_68 fl_RX4_37 (by assumption) (zsl_0 _ _ _ _) rfl ?_
  refine z_sipush 74 dX4_driftOnce_71 (by decide) rfl ?_
  refine z_idiv 75 dX4_driftOnce_74 (by omega) (by omega) rfl ?_
  refine z_bipush 77 dX4_driftOnce_75 (by decide) rfl ?_
  refine z_irem 78 dX4_driftOnce_77 (by omega) (by omega) rfl ?_
  refine z_istore2 79 dX4_driftOnce_78 (Nat.le_of_ble_eq_true rfl) rfl rfl ?_
  refine z_aload0 80 dX4_driftOnce_79 rfl ?_
  refine z_getR 83 dX4_driftOnce_80 fl_RX4_9 (by assumption) (by assumption) rfl ?_
  refine z_iload2 84 dX4_driftOnce_83 rfl ?_
  refine z_bipush 86 dX4_driftOnce_84 (by decide) rfl ?_
  refine z_aload0 87 dX4_driftOnce_86 rfl ?_
  refine z_getR 90 dX4_driftOnce_87 fl_RX4_9 (by assumption) (by assumption) rfl ?_
  refine z_iload2 91 dX4_driftOnce_90 rfl ?_
  refine z_ialdx 92 ((S 0 8 / 128 % 10).toNat) dX4_driftOnce_91 (by assumption) (by omega) (by omega) (zsl_r _ _ _ (by decide) _) rfl ?_
  refine z_iconst 93 dX4_driftOnce_92 rfl ?_
  refine z_iadd 94 dX4_driftOnce_93 rfl ?_
  refine z_mmin 97 dX4_driftOnce_94 ml_RX4_62 sm_yJ9_min_7cf53 it_RJ9 co_yJ9_min_7cf53 (by decide) (Nat.le_of_ble_eq_true rfl) (by omega) (by omega) rfl ?_
  refine z_iastx 98 ((S 0 8 / 128 % 10).toNat) dX4_driftOnce_97 (by assumption) (by omega) (by omega) (zsl_up _ _ _ (by decide) _ _) rfl ?_
  exact z_return dX4_driftOnce_98 rfl (⟨rfl, rfl, rfl, rfl, rfl⟩)
theorem ct_X4_driftOnce {sp : Nat} {w : Nat → Int} (hs : zSl sh R b) (hr : zSr S) (hsp : sp < b ∨ b + 7 ≤ sp) (hsh : sh[sp]? = some (20, 10)) : zE X mX4_driftOnce 0 0 0 [zR b, zR sp, zX] [] sh (zsl (zrow I sp w) b S) L R (zEq [] sh (zsl (zrow I sp (drow (sdoA S) w)) b (sdo S)) L R) := by
  obtain ⟨⟨s0, s1, s2, s3, s4, s5, s6⟩, r0, r1, r2, r3, r4, r5⟩ := id hs
  have hA := sdoA_sr hr
  have hd := sdoA_8 S
  have e0 : zup (zsl (zrow I sp w) b S) b 8 (zand (S 0 8 * 1103515245 + 12345) 2147483647) = zsl (zrow I sp w) b (sdoA S) := by
    rw [zand_31, zsl_up0]
    rfl
  unfold sdo
  generalize hS1 : sdoA S = S1 at hA hd e0 ⊢
  have hn := hA.1
  have hB := sdoB_8 S1
  refine z_aload0 1 dX4_driftOnce_0 rfl ?_
  refine z_aload0 2 dX4_driftOnce_1 rfl ?_
  refine z_getIx 5 dX4_driftOnce_2 fl_RX4_37 (by assumption) (zsl_0 _ _ _ _) rfl ?_
  refine z_ldc 7 dX4_driftOnce_5 kc_RX4_83 rfl ?_
  refine z_imul 8 dX4_driftOnce_7 rfl ?_
  refine z_sipush 11 dX4_driftOnce_8 (by decide) rfl ?_
  refine z_iadd 12 dX4_driftOnce_11 rfl ?_
  refine z_ldc 14 dX4_driftOnce_12 kc_RX4_84 rfl ?_
  refine z_iand 15 dX4_driftOnce_14 rfl ?_
  refine z_putIx 18 dX4_driftOnce_15 fp_RX4_37 (by assumption) (e0) rfl ?_
  refine z_aload0 19 dX4_driftOnce_18 rfl ?_
  refine z_getIx 22 dX4_driftOnce_19 fl_RX4_30 (by assumption) (zsl_0 _ _ _ _) rfl ?_
  refine z_if_le 67 25 dX4_driftOnce_22 (by decide) rfl (by omega) (fun h22 => ?_) (fun h22 => ?_)
  · first | (have eB : sdoB S1 = S1 := by unfold sdoB; rw [if_neg (by omega)]); (have eW : drow S1 w = w := by unfold drow; rw [if_neg (by omega)]); rw [eB, eW]; exact tl_X4_driftOnce rfl hs hA hd | (have eB : sdoB S1 = send S1 q := by unfold sdoB; rw [if_pos h22, hq, Int.toNat_natCast, if_pos h46]); (have eW : drow S1 w = (sft S1 q 10 0 2 (zfl w 10 (-4))).2 := by unfold drow; rw [if_pos h22, hq, Int.toNat_natCast, if_pos h46]); rw [eB, eW]; exact tl_X4_driftOnce rfl hs (send_sr hA hq5) (by rw [send_06 S1 q 8 (by decide)]; exact hd) | (have eB : sdoB S1 = zup S1 6 q 30 := by unfold sdoB; rw [if_pos h22, hq, Int.toNat_natCast, if_neg h46]); (have eW : drow S1 w = w := by unfold drow; rw [if_pos h22, hq, Int.toNat_natCast, if_neg h46]); rw [eB, eW]; exact tl_X4_driftOnce rfl hs (zSr_up6 hA q (by omega)) (by rw [zup_row _ _ (by decide)]; exact hd)
  · refine z_aload0 26 dX4_driftOnce_25 rfl ?_
    refine z_getIx 29 dX4_driftOnce_26 fl_RX4_37 (by assumption) (zsl_0 _ _ _ _) rfl ?_
    refine z_ldc 31 dX4_driftOnce_29 kc_RX4_85 rfl ?_
    refine z_idiv 32 dX4_driftOnce_31 (by omega) (by omega) rfl ?_
    refine z_aload0 33 dX4_driftOnce_32 rfl ?_
    refine z_getIx 36 dX4_driftOnce_33 fl_RX4_30 (by assumption) (zsl_0 _ _ _ _) rfl ?_
    obtain ⟨q, hq, hq5⟩ := sdq S1 hA hd h22
    have hpl := hA.2.2.2.2.2.2 q hq5
    refine z_irem 37 dX4_driftOnce_36 (by omega) (by omega) rfl ?_
    rw [hq]
    refine z_istore2 38 dX4_driftOnce_37 (Nat.le_of_ble_eq_true rfl) rfl rfl ?_
    refine z_aload0 39 dX4_driftOnce_38 rfl ?_
    refine z_getR 42 dX4_driftOnce_39 fl_RX4_27 (by assumption) (by assumption) rfl ?_
    refine z_iload2 43 dX4_driftOnce_42 rfl ?_
    refine z_ialdx 44 (q) dX4_driftOnce_43 (by assumption) (by omega) (by omega) (zsl_r _ _ _ (by decide) _) rfl ?_
    refine z_bipush 46 dX4_driftOnce_44 (by decide) rfl ?_
    refine z_icmp_ne 59 49 dX4_driftOnce_46 (by decide) rfl (by omega) (by omega) (fun h46 => ?_) (fun h46 => ?_)
    · refine z_aload0 60 dX4_driftOnce_59 rfl ?_
      refine z_getR 63 dX4_driftOnce_60 fl_RX4_27 (by assumption) (by assumption) rfl ?_
      refine z_iload2 64 dX4_driftOnce_63 rfl ?_
      refine z_bipush 66 dX4_driftOnce_64 (by decide) rfl ?_
      refine z_iastx 67 (q) dX4_driftOnce_66 (by assumption) (by omega) (by omega) (zsl_up _ _ _ (by decide) _ _) rfl ?_
      first | (have eB : sdoB S1 = S1 := by unfold sdoB; rw [if_neg (by omega)]); (have eW : drow S1 w = w := by unfold drow; rw [if_neg (by omega)]); rw [eB, eW]; exact tl_X4_driftOnce rfl hs hA hd | (have eB : sdoB S1 = send S1 q := by unfold sdoB; rw [if_pos h22, hq, Int.toNat_natCast, if_pos h46]); (have eW : drow S1 w = (sft S1 q 10 0 2 (zfl w 10 (-4))).2 := by unfold drow; rw [if_pos h22, hq, Int.toNat_natCast, if_pos h46]); rw [eB, eW]; exact tl_X4_driftOnce rfl hs (send_sr hA hq5) (by rw [send_06 S1 q 8 (by decide)]; exact hd) | (have eB : sdoB S1 = zup S1 6 q 30 := by unfold sdoB; rw [if_pos h22, hq, Int.toNat_natCast, if_neg h46]); (have eW : drow S1 w = w := by unfold drow; rw [if_pos h22, hq, Int.toNat_natCast, if_neg h46]); rw [eB, eW]; exact tl_X4_driftOnce rfl hs (zSr_up6 hA q (by omega)) (by rw [zup_row _ _ (by decide)]; exact hd)
    · refine z_aload0 50 dX4_driftOnce_49 rfl ?_
      refine z_iload2 51 dX4_driftOnce_50 rfl ?_
      refine z_aload1 52 dX4_driftOnce_51 rfl ?_
      refine z_xV2 55 dX4_driftOnce_52 lk_X4_driftOnce_86 ((by have h := ct_X4_sendDown (X := X) (I := zrow I sp w) (L := L) hs hA hq5 hsp hsh; rw [zrow_row, show zrow I sp w sp = w from funext (zrow_at I sp w)] at h; exact h)) rfl (Nat.le_of_ble_eq_true rfl) (Nat.le_of_ble_eq_true rfl) (by assumption) rfl rfl ?_
      refine z_pop 56 dX4_driftOnce_55 rfl rfl ?_
      refine z_goto 67 dX4_driftOnce_56 (by decide) ?_
      first | (have eB : sdoB S1 = S1 := by unfold sdoB; rw [if_neg (by omega)]); (have eW : drow S1 w = w := by unfold drow; rw [if_neg (by omega)]); rw [eB, eW]; exact tl_X4_driftOnce rfl hs hA hd | (have eB : sdoB S1 = send S1 q := by unfold sdoB; rw [if_pos h22, hq, Int.toNat_natCast, if_pos h46]); (have eW : drow S1 w = (sft S1 q 10 0 2 (zfl w 10 (-4))).2 := by unfold drow; rw [if_pos h22, hq, Int.toNat_natCast, if_pos h46]); rw [eB, eW]; exact tl_X4_driftOnce rfl hs (send_sr hA hq5) (by rw [send_06 S1 q 8 (by decide)]; exact hd) | (have eB : sdoB S1 = zup S1 6 q 30 := by unfold sdoB; rw [if_pos h22, hq, Int.toNat_natCast, if_neg h46]); (have eW : drow S1 w = w := by unfold drow; rw [if_pos h22, hq, Int.toNat_natCast, if_neg h46]); rw [eB, eW]; exact tl_X4_driftOnce rfl hs (zSr_up6 hA q (by omega)) (by rw [zup_row _ _ (by decide)]; exact hd)
theorem ct_X6_copyRow {a0 a1 n : Nat} (h0 : sh[a0]? = some (20, n)) (h1 : sh[a1]? = some (20, n)) (hn : n ≤ 60000) : zE X mX6_copyRow 0 0 0 [zR a0, zR a1] [] sh I L R (zEq [] sh (zrow I a1 (zcp (I a0) (I a1) 0 0 n)) L R) := by
  refine z_aload0 1 dX6_copyRow_0 rfl ?_
  refine z_iconst 2 dX6_copyRow_1 rfl ?_
  refine z_aload1 3 dX6_copyRow_2 rfl ?_
  refine z_iconst 4 dX6_copyRow_3 rfl ?_
  refine z_aload0 5 dX6_copyRow_4 rfl ?_
  refine z_alen 6 dX6_copyRow_5 (by assumption) (by decide) rfl ?_
  refine z_aload1 7 dX6_copyRow_6 rfl ?_
  refine z_alen 8 dX6_copyRow_7 (by assumption) (by decide) rfl ?_
  refine z_mmin 11 dX6_copyRow_8 ml_RX6_280 sm_yJ9_min_7cf53 it_RJ9 co_yJ9_min_7cf53 (by decide) (Nat.le_of_ble_eq_true rfl) (by omega) (by omega) rfl ?_
  rw [if_neg (Int.lt_irrefl _)]
  refine z_copyI 14 (sp := 0) (dp := 0) (n := n) dX6_copyRow_11 ml_RX6_274 na_acp sm_arraycopyName it_RJ10 (by assumption) (by assumption) (by omega) (by omega) (by omega) (by omega) (by decide) (Nat.le_of_ble_eq_true rfl) rfl ?_
  exact z_return dX6_copyRow_14 rfl (⟨rfl, rfl, rfl, rfl, rfl⟩)
theorem ct_cr {p i n : Nat} (hp : p < b ∨ b + 7 ≤ p) (hi : i < 7) (h0 : sh[p]? = some (20, n)) (h1 : sh[b + i]? = some (20, n)) (hn : n ≤ 60000) : zE X mX6_copyRow 0 0 0 [zR p, zR (b + i)] [] sh (zsl I b S) L R (zEq [] sh (zsl I b (zrow S i (zcp (I p) (S i) 0 0 n))) L R) := by
  have h := ct_X6_copyRow (X := X) (I := zsl I b S) (L := L) (R := R) h0 h1 hn
  rw [zsl_oR _ _ _ hp, zsl_rR _ _ _ hi, zsl_row _ _ _ hi] at h
  exact h
theorem ct_X4_goBackTo {p : Nat} (hs : zSl sh R b) (hp : zSl sh R p) (hpb : p + 7 ≤ b ∨ b + 7 ≤ p) : zE X mX4_goBackTo 0 0 0 [zR b, zR p] [] sh (zsl I b S) L R (zEq [] sh (zsl I b (sgb (zvw I p) S)) L R) := by
  obtain ⟨⟨s0, s1, s2, s3, s4, s5, s6⟩, r0, r1, r2, r3, r4, r5⟩ := id hs
  obtain ⟨⟨t0, t1, t2, t3, t4, t5, t6⟩, q0, q1, q2, q3, q4, q5⟩ := id hp
  refine z_aload1 1 dX4_goBackTo_0 rfl ?_
  refine z_getR 4 dX4_goBackTo_1 fl_RX4_9 (by assumption) (by assumption) rfl ?_
  refine z_aload0 5 dX4_goBackTo_4 rfl ?_
  refine z_getR 8 dX4_goBackTo_5 fl_RX4_9 (by assumption) (by assumption) rfl ?_
  refine z_xSNv2 11 dX4_goBackTo_8 lk_X4_goBackTo_89 (ct_cr (by omega) (by decide) (by assumption) (by assumption) (by omega)) rfl (Nat.le_of_ble_eq_true rfl) (Nat.le_of_ble_eq_true rfl) rfl ?_
  refine z_aload1 12 dX4_goBackTo_11 rfl ?_
  refine z_getR 15 dX4_goBackTo_12 fl_RX4_15 (by assumption) (by assumption) rfl ?_
  refine z_aload0 16 dX4_goBackTo_15 rfl ?_
  refine z_getR 19 dX4_goBackTo_16 fl_RX4_15 (by assumption) (by assumption) rfl ?_
  refine z_xSNv2 22 dX4_goBackTo_19 lk_X4_goBackTo_89 (ct_cr (by omega) (by decide) (by assumption) (by assumption) (by omega)) rfl (Nat.le_of_ble_eq_true rfl) (Nat.le_of_ble_eq_true rfl) rfl ?_
  refine z_aload1 23 dX4_goBackTo_22 rfl ?_
  refine z_getR 26 dX4_goBackTo_23 fl_RX4_27 (by assumption) (by assumption) rfl ?_
  refine z_aload0 27 dX4_goBackTo_26 rfl ?_
  refine z_getR 30 dX4_goBackTo_27 fl_RX4_27 (by assumption) (by assumption) rfl ?_
  refine z_xSNv2 33 dX4_goBackTo_30 lk_X4_goBackTo_89 (ct_cr (by omega) (by decide) (by assumption) (by assumption) (by omega)) rfl (Nat.le_of_ble_eq_true rfl) (Nat.le_of_ble_eq_true rfl) rfl ?_
  refine z_aload0 34 dX4_goBackTo_33 rfl ?_
  refine z_aload1 35 dX4_goBackTo_34 rfl ?_
  refine z_getIx 38 dX4_goBackTo_35 fl_RX4_34 (by assumption) (zsl_o _ _ _ (by omega) _) rfl ?_
  refine z_putIx 41 dX4_goBackTo_38 fp_RX4_34 (by assumption) (zsl_up0 _ _ _ _ _) rfl ?_
  refine z_aload0 42 dX4_goBackTo_41 rfl ?_
  refine z_aload1 43 dX4_goBackTo_42 rfl ?_
  refine z_getIx 46 dX4_goBackTo_43 fl_RX4_37 (by assumption) (zsl_o _ _ _ (by omega) _) rfl ?_
  refine z_putIx 49 dX4_goBackTo_46 fp_RX4_37 (by assumption) (zsl_up0 _ _ _ _ _) rfl ?_
  exact z_return dX4_goBackTo_49 rfl (⟨rfl, rfl, rfl, rfl, rfl⟩)
theorem ct_X4_become {p : Nat} (hs : zSl sh R b) (hp : zSl sh R p) (hpb : p + 7 ≤ b ∨ b + 7 ≤ p) : zE X mX4_become 0 0 0 [zR b, zR p] [] sh (zsl I b S) L R (zEq [] sh (zsl I b (sbc (zvw I p) S)) L R) := by
  obtain ⟨⟨s0, s1, s2, s3, s4, s5, s6⟩, r0, r1, r2, r3, r4, r5⟩ := id hs
  obtain ⟨⟨t0, t1, t2, t3, t4, t5, t6⟩, q0, q1, q2, q3, q4, q5⟩ := id hp
  refine z_aload0 1 dX4_become_0 rfl ?_
  refine z_aload1 2 dX4_become_1 rfl ?_
  refine z_xVv1 5 dX4_become_2 lk_X4_become_93 (ct_X4_goBackTo hs hp hpb) rfl (Nat.le_of_ble_eq_true rfl) (Nat.le_of_ble_eq_true rfl) (by assumption) rfl rfl ?_
  refine z_aload1 6 dX4_become_5 rfl ?_
  refine z_getR 9 dX4_become_6 fl_RX4_18 (by assumption) (by assumption) rfl ?_
  refine z_aload0 10 dX4_become_9 rfl ?_
  refine z_getR 13 dX4_become_10 fl_RX4_18 (by assumption) (by assumption) rfl ?_
  refine z_xSNv2 16 dX4_become_13 lk_X4_become_89 (ct_cr (by omega) (by decide) (by assumption) (by assumption) (by omega)) rfl (Nat.le_of_ble_eq_true rfl) (Nat.le_of_ble_eq_true rfl) rfl ?_
  refine z_aload1 17 dX4_become_16 rfl ?_
  refine z_getR 20 dX4_become_17 fl_RX4_21 (by assumption) (by assumption) rfl ?_
  refine z_aload0 21 dX4_become_20 rfl ?_
  refine z_getR 24 dX4_become_21 fl_RX4_21 (by assumption) (by assumption) rfl ?_
  refine z_xSNv2 27 dX4_become_24 lk_X4_become_89 (ct_cr (by omega) (by decide) (by assumption) (by assumption) (by omega)) rfl (Nat.le_of_ble_eq_true rfl) (Nat.le_of_ble_eq_true rfl) rfl ?_
  refine z_aload1 28 dX4_become_27 rfl ?_
  refine z_getR 31 dX4_become_28 fl_RX4_24 (by assumption) (by assumption) rfl ?_
  refine z_aload0 32 dX4_become_31 rfl ?_
  refine z_getR 35 dX4_become_32 fl_RX4_24 (by assumption) (by assumption) rfl ?_
  refine z_xSNv2 38 dX4_become_35 lk_X4_become_89 (ct_cr (by omega) (by decide) (by assumption) (by assumption) (by omega)) rfl (Nat.le_of_ble_eq_true rfl) (Nat.le_of_ble_eq_true rfl) rfl ?_
  refine z_aload0 39 dX4_become_38 rfl ?_
  refine z_aload1 40 dX4_become_39 rfl ?_
  refine z_getIx 43 dX4_become_40 fl_RX4_30 (by assumption) (zsl_o _ _ _ (by omega) _) rfl ?_
  refine z_putIx 46 dX4_become_43 fp_RX4_30 (by assumption) (zsl_up0 _ _ _ _ _) rfl ?_
  exact z_return dX4_become_46 rfl (⟨rfl, rfl, rfl, rfl, rfl⟩)
theorem ct_X4_addRider {n : Nat} {k h l : Int} (hs : zSl sh R b) (hn : S 0 6 = (n : Int)) (h5 : n < 5) : zE X mX4_addRider 0 0 0 [zR b, zI k, zI h, zI l, zX] [] sh (zsl I b S) L R (zEq [zI (n : Int)] sh (zsl I b (sad S n k h l)) L R) := by
  obtain ⟨⟨s0, s1, s2, s3, s4, s5, s6⟩, r0, r1, r2, r3, r4, r5⟩ := id hs
  refine z_aload0 1 dX4_addRider_0 rfl ?_
  refine z_getIx 4 dX4_addRider_1 fl_RX4_30 (by assumption) ((zsl_0 _ _ _ _).trans hn) rfl ?_
  refine z_istore4 6 dX4_addRider_4 (Nat.le_of_ble_eq_true rfl) rfl rfl ?_
  refine z_iload4 8 dX4_addRider_6 rfl ?_
  refine z_iconst 9 dX4_addRider_8 rfl ?_
  refine z_iconst 10 dX4_addRider_9 rfl ?_
  refine z_xSN3 13 dX4_addRider_10 lk_X4_addRider_46 (ct_X6_within (by omega) (by omega) (by omega)) rfl (Nat.le_of_ble_eq_true rfl) (Nat.le_of_ble_eq_true rfl) rfl ?_
  rw [zwi_1 (by omega)]
  refine z_if_ne 19 16 dX4_addRider_13 (by decide) rfl (by omega) (fun h13 => ?_) (fun hz => absurd hz (by omega))
  refine z_aload0 20 dX4_addRider_19 rfl ?_
  refine z_getR 23 dX4_addRider_20 fl_RX4_18 (by assumption) (by assumption) rfl ?_
  refine z_iload4 25 dX4_addRider_23 rfl ?_
  refine z_iload1 26 dX4_addRider_25 rfl ?_
  refine z_iastx 27 (n) dX4_addRider_26 (by assumption) (by omega) (by omega) (zsl_up _ _ _ (by decide) _ _) rfl ?_
  refine z_aload0 28 dX4_addRider_27 rfl ?_
  refine z_getR 31 dX4_addRider_28 fl_RX4_21 (by assumption) (by assumption) rfl ?_
  refine z_iload4 33 dX4_addRider_31 rfl ?_
  refine z_iload2 34 dX4_addRider_33 rfl ?_
  refine z_iastx 35 (n) dX4_addRider_34 (by assumption) (by omega) (by omega) (zsl_up _ _ _ (by decide) _ _) rfl ?_
  refine z_aload0 36 dX4_addRider_35 rfl ?_
  refine z_getR 39 dX4_addRider_36 fl_RX4_24 (by assumption) (by assumption) rfl ?_
  refine z_iload4 41 dX4_addRider_39 rfl ?_
  refine z_iload3 42 dX4_addRider_41 rfl ?_
  refine z_iastx 43 (n) dX4_addRider_42 (by assumption) (by omega) (by omega) (zsl_up _ _ _ (by decide) _ _) rfl ?_
  refine z_aload0 44 dX4_addRider_43 rfl ?_
  refine z_getR 47 dX4_addRider_44 fl_RX4_27 (by assumption) (by assumption) rfl ?_
  refine z_iload4 49 dX4_addRider_47 rfl ?_
  refine z_bipush 51 dX4_addRider_49 (by decide) rfl ?_
  refine z_iastx 52 (n) dX4_addRider_51 (by assumption) (by omega) (by omega) (zsl_up _ _ _ (by decide) _ _) rfl ?_
  refine z_aload0 53 dX4_addRider_52 rfl ?_
  refine z_iload4 55 dX4_addRider_53 rfl ?_
  refine z_iconst 56 dX4_addRider_55 rfl ?_
  refine z_iadd 57 dX4_addRider_56 rfl ?_
  refine z_putIx 60 dX4_addRider_57 fp_RX4_30 (by assumption) (zsl_up0 _ _ _ _ _) rfl ?_
  refine z_iload4 62 dX4_addRider_60 rfl ?_
  exact z_ireturn dX4_addRider_62 rfl (⟨rfl, rfl, rfl, rfl, rfl⟩)
theorem ct_X4_addRider_full {k h l : Int} (hs : zSl sh R b) (hn : S 0 6 = 5) : zE X mX4_addRider 0 0 0 [zR b, zI k, zI h, zI l, zX] [] sh (zsl I b S) L R (zEq [zI (-3)] sh (zsl I b S) L R) := by
  obtain ⟨⟨s0, s1, s2, s3, s4, s5, s6⟩, r0, r1, r2, r3, r4, r5⟩ := id hs
  refine z_aload0 1 dX4_addRider_0 rfl ?_
  refine z_getIx 4 dX4_addRider_1 fl_RX4_30 (by assumption) ((zsl_0 _ _ _ _).trans hn) rfl ?_
  refine z_istore4 6 dX4_addRider_4 (Nat.le_of_ble_eq_true rfl) rfl rfl ?_
  refine z_iload4 8 dX4_addRider_6 rfl ?_
  refine z_iconst 9 dX4_addRider_8 rfl ?_
  refine z_iconst 10 dX4_addRider_9 rfl ?_
  refine z_xSN3 13 dX4_addRider_10 lk_X4_addRider_46 (ct_X6_within (by omega) (by omega) (by omega)) rfl (Nat.le_of_ble_eq_true rfl) (Nat.le_of_ble_eq_true rfl) rfl ?_
  rw [zwi_0 (by omega)]
  refine z_if_ne 19 16 dX4_addRider_13 (by decide) rfl (by omega) (fun hz => absurd hz (by omega)) (fun h13 => ?_)
  refine z_bipush 18 dX4_addRider_16 (by decide) rfl ?_
  exact z_ireturn dX4_addRider_18 rfl (⟨rfl, rfl, rfl, rfl, rfl⟩)
end SLIDEF
