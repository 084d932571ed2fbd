/-! ===== the constructor of the class ===== -/
section CONS
def zS0 : zT := fun i j => if i = 0 then (if j = 8 then 1 else 0) else if i = 1 then 1 else 0
def zA0 : zA := (zS0, ([], (none, ([], fun _ => (-1, (0, fun _ => 0))))))
def zP0 : Nat → Nat := fun i => 17 + 7 * i
def zFs (I : zI2) (b : Nat) : Prop := (I b 6 = 0 ∧ I b 7 = 0 ∧ I b 8 = 1) ∧ (∀ t, t < 10 → I (b + 1) t = 1 ∧ I (b + 2) t = 0) ∧ ∀ r, r < 5 → I (b + 3) r = 0 ∧ I (b + 4) r = 0 ∧ I (b + 5) r = 0 ∧ I (b + 6) r = 0
def dFs (I : zI2) (b : Nat) : Decidable (zFs I b) := by
  unfold zFs
  exact inferInstance
def dSl (sh : zH) (R : zR2) (b : Nat) : Decidable (zSl sh R b) := by
  unfold zSl
  exact inferInstance
def dTp (sh : zH) (R : zR2) (b : Nat) : Decidable (zTp sh R b) := by
  unfold zTp
  exact inferInstance
def dSh (sh : zH) (R : zR2) (b : Nat) : Decidable (zSh sh R b) := by
  unfold zSh
  exact inferInstance
def dOr (sh : zH) (R : zR2) (b : Nat) : Decidable (zOr sh R b) := by
  unfold zOr
  exact inferInstance
def dRa (sh : zH) (R : zR2) (b : Nat) : Decidable (zRa sh R b) := by
  unfold zRa
  exact inferInstance
def dHi (sh : zH) (R : zR2) (b : Nat) (P : Nat → Nat) : Decidable (zHi sh R b P) := by
  unfold zHi
  have h := fun j => dSl sh R (P j)
  exact inferInstance
def zIniR (sh : zH) (R : zR2) : Prop := sh.length = 157 ∧ (sh[0]? = some (6, 12) ∧ R 0 0 = some 1 ∧ R 0 1 = some 8 ∧ R 0 2 = some 15 ∧ R 0 3 = some 73 ∧ R 0 4 = some 80 ∧ R 0 6 = some 138 ∧ R 0 7 = some 140 ∧ R 0 8 = some 141 ∧ R 0 9 = some 142 ∧ R 0 10 = some 144 ∧ R 0 11 = some 146) ∧
  (zSl sh R 1 ∧ zSl sh R 8 ∧ zSl sh R 73) ∧ zHi sh R 15 zP0 ∧ zHi sh R 80 zKP ∧ zTp sh R 138 ∧ (sh[140]? = some (23, 4) ∧ ∀ k, k < 4 → R 140 k = some (149 + 2 * k) ∧ zSh sh R (149 + 2 * k)) ∧ sh[141]? = some (20, 10) ∧ zOr sh R 142 ∧ zOr sh R 144 ∧ zRa sh R 146
def dIniR (sh : zH) (R : zR2) : Decidable (zIniR sh R) := by
  unfold zIniR
  have h1 := dSl sh R
  have h2 := dHi sh R
  have h3 := dTp sh R
  have h4 := dSh sh R
  have h5 := dOr sh R
  have h6 := dRa sh R
  exact inferInstance
theorem zIniR_d {sh : zH} {R : zR2} (h : @decide (zIniR sh R) (dIniR sh R) = true) : zIniR sh R := @of_decide_eq_true _ (dIniR sh R) h
def zIniI (I L : zI2) : Prop := (zFs I 1 ∧ zFs I 8 ∧ zFs I 73) ∧ (∀ i, i < 8 → zFs I (17 + 7 * i) ∧ zFs I (82 + 7 * i)) ∧ (I 0 5 = 0 ∧ I 15 1 = 0 ∧ I 80 1 = 0 ∧ I 138 1 = 0) ∧ (∀ j, j < 70 → I 139 j = 0) ∧ (∀ k, k < 4 → I (149 + 2 * k) 1 = -1 ∧ I (149 + 2 * k) 2 = 0 ∧ ∀ j, j < 24 → L (149 + 2 * k + 1) j = 0) ∧ ∀ q, q < 5 → I 143 q = 0 ∧ I 145 q = 0
def dIniI (I L : zI2) : Decidable (zIniI I L) := by
  unfold zIniI
  have h1 := dFs I
  exact inferInstance
theorem zIniI_d {I L : zI2} (h : @decide (zIniI I L) (dIniI I L) = true) : zIniI I L := @of_decide_eq_true _ (dIniI I L) h
theorem zFs_q {I : zI2} {b : Nat} (h : zFs I b) : zSg (zvw I b) ∧ zQe (zvw I b) zS0 := by
  obtain ⟨⟨h6, h7, h8⟩, ht, hr⟩ := h
  have e6 : zvw I b 0 6 = 0 := h6
  have e7 : zvw I b 0 7 = 0 := h7
  have e8 : zvw I b 0 8 = 1 := h8
  have e1 : ∀ t, t < 10 → zvw I b 1 t = 1 := fun t h => (ht t h).1
  have e2 : ∀ t, t < 10 → zvw I b 2 t = 0 := fun t h => (ht t h).2
  have e3 : ∀ r, r < 5 → zvw I b 3 r = 0 := fun r h => (hr r h).1
  have e4 : ∀ r, r < 5 → zvw I b 4 r = 0 := fun r h => (hr r h).2.1
  have e5 : ∀ r, r < 5 → zvw I b 5 r = 0 := fun r h => (hr r h).2.2.1
  have e9 : ∀ r, r < 5 → zvw I b 6 r = 0 := fun r h => (hr r h).2.2.2
  refine ⟨⟨⟨by omega, fun t h => ?_, fun t h => ?_, fun r h => ?_, fun r h => ?_, fun r h => ?_, fun r h => ?_⟩, by omega, by omega⟩, ⟨e6, e7, e8⟩, fun t h => ⟨e1 t h, e2 t h⟩, fun r h => by omega⟩
  · rw [e1 t h]; omega
  · rw [e2 t h]; omega
  · rw [e3 r h]; omega
  · rw [e4 r h]; omega
  · rw [e5 r h]; omega
  · rw [e9 r h]; omega
theorem zIni_CA {sh : zH} {R : zR2} {I L : zI2} (h : zIniR sh R) (g : zIniI I L) : zCA sh R zP0 I L zA0 := by
  obtain ⟨-, h1, h2, h3, h4, h5, h6, h7, h8, h9, h10⟩ := h
  obtain ⟨⟨g1, g8, g73⟩, gP, ⟨k0, k15, k80, k138⟩, gT, gS, gO⟩ := g
  refine ⟨⟨h1, h2, ⟨h3, fun i hi => ⟨i, hi, rfl⟩, fun i j _ _ e => ?_⟩, h4, h5, h6, h7, h8, h9, h10⟩, zFs_q g1, (zFs_q g8).1.1, ⟨k15, Nat.zero_le 8, fun i hi => (zFs_q (gP i hi).1).1, fun i s hs => by cases hs⟩, ⟨k0, (zFs_q g73).1, fun i hi => (zFs_q (gP i hi).2).1, by omega⟩, ⟨k138, Nat.zero_le 70, fun j hj => by rw [gT j hj]; omega, fun j x hx => by cases hx⟩, fun k hk => ?_, fun q hq => by rw [(gO q hq).1]; omega, fun q hq => by rw [(gO q hq).2]; omega⟩
  · have e' : 17 + 7 * i = 17 + 7 * j := e
    omega
  · obtain ⟨s1, s2, s3⟩ := gS k hk
    exact ⟨⟨Or.inl s1, by omega, fun j hj => by rw [s3 j hj]; omega⟩, s1, s2, s3⟩
def zi0 : zI2 := zrow (fun _ _ => 0) 0 fun _ => 0
def zr0 : zR2 := zrowR (fun _ _ => none) 0 fun _ => none
theorem ct_X6_init {X : zXs} : zE X mX6_init 156 1224 0 [zR 0, zX] [] [(6, 12)] zi0 (fun _ _ => 0) zr0 (fun r' sh' I' L' R' => r' = [] ∧ zIniR sh' R' ∧ zIniI I' L') := by
  refine z_aload0 1 dX6_init_0 rfl ?_
  refine z_objInit 4 dX6_init_1 ml_RX6_1 in_objectInit co_objectInit (by decide) (Nat.le_of_ble_eq_true rfl) rfl ?_
  refine z_aload0 5 dX6_init_4 rfl ?_
  refine z_newX 8 (1) (T := TX4) (ci := 4) dX6_init_5 rfl cl_RX6_7 ib_RX4 it_RX4 (by decide) (by decide +kernel) rfl rfl rfl ?_
  refine z_dup 9 dX6_init_8 rfl rfl ?_
  refine z_xI0 12 6 40 dX6_init_9 lk_X6_init_9 rfl rfl (ct_X4_init (o := 1) (by decide +kernel) (by decide +kernel)) rfl (Nat.le_of_ble_eq_true rfl) (Nat.le_of_ble_eq_true rfl) rfl ?_
  refine z_putR 15 dX6_init_12 fp_RX6_10 rfl (by decide +kernel) rfl ?_
  refine z_aload0 16 dX6_init_15 rfl ?_
  refine z_newX 19 (8) (T := TX4) (ci := 4) dX6_init_16 rfl cl_RX6_7 ib_RX4 it_RX4 (by decide) (by decide +kernel) rfl rfl rfl ?_
  refine z_dup 20 dX6_init_19 rfl rfl ?_
  refine z_xI0 23 6 40 dX6_init_20 lk_X6_init_9 rfl rfl (ct_X4_init (o := 8) (by decide +kernel) (by decide +kernel)) rfl (Nat.le_of_ble_eq_true rfl) (Nat.le_of_ble_eq_true rfl) rfl ?_
  refine z_putR 26 dX6_init_23 fp_RX6_16 rfl (by decide +kernel) rfl ?_
  refine z_aload0 27 dX6_init_26 rfl ?_
  refine z_newX 30 (15) (T := TX0) (ci := 0) dX6_init_27 rfl cl_RX6_19 ib_RX0 it_RX0 (by decide) (by decide +kernel) rfl rfl rfl ?_
  refine z_dup 31 dX6_init_30 rfl rfl ?_
  refine z_xI0 34 57 400 dX6_init_31 lk_X6_init_21 rfl rfl (ct_X0_init (o := 15) (by decide +kernel) (by decide +kernel)) rfl (Nat.le_of_ble_eq_true rfl) (Nat.le_of_ble_eq_true rfl) rfl ?_
  refine z_putR 37 dX6_init_34 fp_RX6_22 rfl (by decide +kernel) rfl ?_
  refine z_aload0 38 dX6_init_37 rfl ?_
  refine z_newX 41 (73) (T := TX4) (ci := 4) dX6_init_38 rfl cl_RX6_7 ib_RX4 it_RX4 (by decide) (by decide +kernel) rfl rfl rfl ?_
  refine z_dup 42 dX6_init_41 rfl rfl ?_
  refine z_xI0 45 6 40 dX6_init_42 lk_X6_init_9 rfl rfl (ct_X4_init (o := 73) (by decide +kernel) (by decide +kernel)) rfl (Nat.le_of_ble_eq_true rfl) (Nat.le_of_ble_eq_true rfl) rfl ?_
  refine z_putR 48 dX6_init_45 fp_RX6_26 rfl (by decide +kernel) rfl ?_
  refine z_aload0 49 dX6_init_48 rfl ?_
  refine z_newX 52 (80) (T := TX0) (ci := 0) dX6_init_49 rfl cl_RX6_19 ib_RX0 it_RX0 (by decide) (by decide +kernel) rfl rfl rfl ?_
  refine z_dup 53 dX6_init_52 rfl rfl ?_
  refine z_xI0 56 57 400 dX6_init_53 lk_X6_init_21 rfl rfl (ct_X0_init (o := 80) (by decide +kernel) (by decide +kernel)) rfl (Nat.le_of_ble_eq_true rfl) (Nat.le_of_ble_eq_true rfl) rfl ?_
  refine z_putR 59 dX6_init_56 fp_RX6_29 rfl (by decide +kernel) rfl ?_
  refine z_aload0 60 dX6_init_59 rfl ?_
  refine z_iconst 61 dX6_init_60 rfl ?_
  refine z_putZ 64 dX6_init_61 fp_RX6_32 (by omega) (by decide +kernel) rfl ?_
  refine z_aload0 65 dX6_init_64 rfl ?_
  refine z_newX 68 (138) (T := TX5) (ci := 5) dX6_init_65 rfl cl_RX6_36 ib_RX5 it_RX5 (by decide) (by decide +kernel) rfl rfl rfl ?_
  refine z_dup 69 dX6_init_68 rfl rfl ?_
  refine z_xIN0 72 1 70 dX6_init_69 lk_X6_init_38 rfl rfl (ct_X5_init (o := 138) (by decide +kernel) (by decide +kernel)) rfl (Nat.le_of_ble_eq_true rfl) (Nat.le_of_ble_eq_true rfl) rfl ?_
  refine z_putR 75 dX6_init_72 fp_RX6_39 rfl (by decide +kernel) rfl ?_
  refine z_aload0 76 dX6_init_75 rfl ?_
  refine z_iconst 77 dX6_init_76 rfl ?_
  refine z_newqX 80 (140) 4 dX6_init_77 (Or.inr ⟨rfl, rfl⟩) cl_RX6_43 rfl (by decide) (by decide +kernel) rfl rfl rfl ?_
  refine z_putR 83 dX6_init_80 fp_RX6_45 rfl (by decide +kernel) rfl ?_
  refine z_aload0 84 dX6_init_83 rfl ?_
  refine z_bipush 86 dX6_init_84 (by decide) rfl ?_
  refine z_newaX 88 (141) 10 dX6_init_86 (Or.inl ⟨rfl, rfl⟩) ac_int rfl (by decide) (by decide +kernel) rfl rfl rfl ?_
  refine z_putR 91 dX6_init_88 fp_RX6_49 rfl (by decide +kernel) rfl ?_
  refine z_aload0 92 dX6_init_91 rfl ?_
  refine z_newX 95 (142) (T := TX1) (ci := 1) dX6_init_92 rfl cl_RX6_53 ib_RX1 it_RX1 (by decide) (by decide +kernel) rfl rfl rfl ?_
  refine z_dup 96 dX6_init_95 rfl rfl ?_
  refine z_xIN0 99 1 5 dX6_init_96 lk_X6_init_55 rfl rfl (ct_X1_init (o := 142) (by decide +kernel) (by decide +kernel)) rfl (Nat.le_of_ble_eq_true rfl) (Nat.le_of_ble_eq_true rfl) rfl ?_
  refine z_putR 102 dX6_init_99 fp_RX6_56 rfl (by decide +kernel) rfl ?_
  refine z_aload0 103 dX6_init_102 rfl ?_
  refine z_newX 106 (144) (T := TX1) (ci := 1) dX6_init_103 rfl cl_RX6_53 ib_RX1 it_RX1 (by decide) (by decide +kernel) rfl rfl rfl ?_
  refine z_dup 107 dX6_init_106 rfl rfl ?_
  refine z_xIN0 110 1 5 dX6_init_107 lk_X6_init_55 rfl rfl (ct_X1_init (o := 144) (by decide +kernel) (by decide +kernel)) rfl (Nat.le_of_ble_eq_true rfl) (Nat.le_of_ble_eq_true rfl) rfl ?_
  refine z_putR 113 dX6_init_110 fp_RX6_60 rfl (by decide +kernel) rfl ?_
  refine z_aload0 114 dX6_init_113 rfl ?_
  refine z_newX 117 (146) (T := TX2) (ci := 2) dX6_init_114 rfl cl_RX6_63 ib_RX2 it_RX2 (by decide) (by decide +kernel) rfl rfl rfl ?_
  refine z_dup 118 dX6_init_117 rfl rfl ?_
  refine z_xIN0 121 2 62 dX6_init_118 lk_X6_init_65 rfl rfl (ct_X2_init (o := 146) (by decide +kernel) (by decide +kernel)) rfl (Nat.le_of_ble_eq_true rfl) (Nat.le_of_ble_eq_true rfl) rfl ?_
  refine z_putR 124 dX6_init_121 fp_RX6_66 rfl (by decide +kernel) rfl ?_
  refine z_iconst 125 dX6_init_124 rfl ?_
  refine z_istore1 126 dX6_init_125 (Nat.le_of_ble_eq_true rfl) rfl rfl ?_
  refine z_iload1 127 dX6_init_126 rfl ?_
  refine z_aload0 128 dX6_init_127 rfl ?_
  refine z_getR 131 dX6_init_128 fl_RX6_45 (by decide +kernel) (show _ = some 140 from by decide +kernel) rfl ?_
  refine z_alen 132 dX6_init_131 (show _ = some (23, 4) from by decide +kernel) (by decide) rfl ?_
  refine z_icmp_ge 154 135 dX6_init_132 (by decide) rfl (by omega) (by omega) (fun hz => absurd hz ((by omega))) (fun h132 => ?_)
  refine z_aload0 136 dX6_init_135 rfl ?_
  refine z_getR 139 dX6_init_136 fl_RX6_45 (by decide +kernel) (show _ = some 140 from by decide +kernel) rfl ?_
  refine z_iload1 140 dX6_init_139 rfl ?_
  refine z_newX 143 (149) (T := TX3) (ci := 3) dX6_init_140 rfl cl_RX6_43 ib_RX3 it_RX3 (by decide) (by decide +kernel) rfl rfl rfl ?_
  refine z_dup 144 dX6_init_143 rfl rfl ?_
  refine z_xIN0 147 1 24 dX6_init_144 lk_X6_init_70 rfl rfl (ct_X3_init (by decide +kernel) (by decide +kernel)) rfl (Nat.le_of_ble_eq_true rfl) (Nat.le_of_ble_eq_true rfl) rfl ?_
  refine z_aast3N 148 (0) dX6_init_147 (show _ = some (23, 4) from by decide +kernel) (by decide +kernel) (by omega) (by omega) rfl ?_
  refine z_iinc1 151 dX6_init_148 (Nat.le_of_ble_eq_true rfl) rfl rfl ?_
  refine z_goto 126 dX6_init_151 (by decide) ?_
  refine z_iload1 127 dX6_init_126 rfl ?_
  refine z_aload0 128 dX6_init_127 rfl ?_
  refine z_getR 131 dX6_init_128 fl_RX6_45 (by decide +kernel) (show _ = some 140 from by decide +kernel) rfl ?_
  refine z_alen 132 dX6_init_131 (show _ = some (23, 4) from by decide +kernel) (by decide) rfl ?_
  refine z_icmp_ge 154 135 dX6_init_132 (by decide) rfl (by omega) (by omega) (fun hz => absurd hz ((by omega))) (fun h132 => ?_)
  refine z_aload0 136 dX6_init_135 rfl ?_
  refine z_getR 139 dX6_init_136 fl_RX6_45 (by decide +kernel) (show _ = some 140 from by decide +kernel) rfl ?_
  refine z_iload1 140 dX6_init_139 rfl ?_
  refine z_newX 143 (151) (T := TX3) (ci := 3) dX6_init_140 rfl cl_RX6_43 ib_RX3 it_RX3 (by decide) (by decide +kernel) rfl rfl rfl ?_
  refine z_dup 144 dX6_init_143 rfl rfl ?_
  refine z_xIN0 147 1 24 dX6_init_144 lk_X6_init_70 rfl rfl (ct_X3_init (by decide +kernel) (by decide +kernel)) rfl (Nat.le_of_ble_eq_true rfl) (Nat.le_of_ble_eq_true rfl) rfl ?_
  refine z_aast3N 148 ((0 + 1)) dX6_init_147 (show _ = some (23, 4) from by decide +kernel) (by decide +kernel) (by omega) (by omega) rfl ?_
  refine z_iinc1 151 dX6_init_148 (Nat.le_of_ble_eq_true rfl) rfl rfl ?_
  refine z_goto 126 dX6_init_151 (by decide) ?_
  refine z_iload1 127 dX6_init_126 rfl ?_
  refine z_aload0 128 dX6_init_127 rfl ?_
  refine z_getR 131 dX6_init_128 fl_RX6_45 (by decide +kernel) (show _ = some 140 from by decide +kernel) rfl ?_
  refine z_alen 132 dX6_init_131 (show _ = some (23, 4) from by decide +kernel) (by decide) rfl ?_
  refine z_icmp_ge 154 135 dX6_init_132 (by decide) rfl (by omega) (by omega) (fun hz => absurd hz ((by omega))) (fun h132 => ?_)
  refine z_aload0 136 dX6_init_135 rfl ?_
  refine z_getR 139 dX6_init_136 fl_RX6_45 (by decide +kernel) (show _ = some 140 from by decide +kernel) rfl ?_
  refine z_iload1 140 dX6_init_139 rfl ?_
  refine z_newX 143 (153) (T := TX3) (ci := 3) dX6_init_140 rfl cl_RX6_43 ib_RX3 it_RX3 (by decide) (by decide +kernel) rfl rfl rfl ?_
  refine z_dup 144 dX6_init_143 rfl rfl ?_
  refine z_xIN0 147 1 24 dX6_init_144 lk_X6_init_70 rfl rfl (ct_X3_init (by decide +kernel) (by decide +kernel)) rfl (Nat.le_of_ble_eq_true rfl) (Nat.le_of_ble_eq_true rfl) rfl ?_
  refine z_aast3N 148 (((0 + 1) + 1)) dX6_init_147 (show _ = some (23, 4) from by decide +kernel) (by decide +kernel) (by omega) (by omega) rfl ?_
  refine z_iinc1 151 dX6_init_148 (Nat.le_of_ble_eq_true rfl) rfl rfl ?_
  refine z_goto 126 dX6_init_151 (by decide) ?_
  refine z_iload1 127 dX6_init_126 rfl ?_
  refine z_aload0 128 dX6_init_127 rfl ?_
  refine z_getR 131 dX6_init_128 fl_RX6_45 (by decide +kernel) (show _ = some 140 from by decide +kernel) rfl ?_
  refine z_alen 132 dX6_init_131 (show _ = some (23, 4) from by decide +kernel) (by decide) rfl ?_
  refine z_icmp_ge 154 135 dX6_init_132 (by decide) rfl (by omega) (by omega) (fun hz => absurd hz ((by omega))) (fun h132 => ?_)
  refine z_aload0 136 dX6_init_135 rfl ?_
  refine z_getR 139 dX6_init_136 fl_RX6_45 (by decide +kernel) (show _ = some 140 from by decide +kernel) rfl ?_
  refine z_iload1 140 dX6_init_139 rfl ?_
  refine z_newX 143 (155) (T := TX3) (ci := 3) dX6_init_140 rfl cl_RX6_43 ib_RX3 it_RX3 (by decide) (by decide +kernel) rfl rfl rfl ?_
  refine z_dup 144 dX6_init_143 rfl rfl ?_
  refine z_xIN0 147 1 24 dX6_init_144 lk_X6_init_70 rfl rfl (ct_X3_init (by decide +kernel) (by decide +kernel)) rfl (Nat.le_of_ble_eq_true rfl) (Nat.le_of_ble_eq_true rfl) rfl ?_
  refine z_aast3N 148 ((((0 + 1) + 1) + 1)) dX6_init_147 (show _ = some (23, 4) from by decide +kernel) (by decide +kernel) (by omega) (by omega) rfl ?_
  refine z_iinc1 151 dX6_init_148 (Nat.le_of_ble_eq_true rfl) rfl rfl ?_
  refine z_goto 126 dX6_init_151 (by decide) ?_
  refine z_iload1 127 dX6_init_126 rfl ?_
  refine z_aload0 128 dX6_init_127 rfl ?_
  refine z_getR 131 dX6_init_128 fl_RX6_45 (by decide +kernel) (show _ = some 140 from by decide +kernel) rfl ?_
  refine z_alen 132 dX6_init_131 (show _ = some (23, 4) from by decide +kernel) (by decide) rfl ?_
  refine z_icmp_ge 154 135 dX6_init_132 (by decide) rfl (by omega) (by omega) (fun h132 => ?_) (fun hz => absurd hz ((by omega)))
  exact z_return dX6_init_154 rfl (⟨rfl, zIniR_d (by decide +kernel), zIniI_d (by decide +kernel)⟩)
end CONS
