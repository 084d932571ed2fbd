/-! ===== the constructor of the reference ===== -/
section CONS
variable {X : zXs} {sh : zH} {I L : zI2} {R : zR2} {Q : zQ}
def x7I (I : zI2) : zI2 := zup (zup (zup (zup (zup (zup (zup (zup (zup (zup (zup (zup (zup (zup (zup I 158 2 1) 158 3 1) 158 4 1) 158 5 1) 158 6 1) 158 7 1) 158 8 1) 158 9 1) 158 10 1) 158 11 1) 158 12 1) 169 0 (-1)) 169 1 (-1)) 169 2 (-1)) 169 3 (-1)
def x7s (sh : zH) : zH := sh ++ [(20, 43)] ++ [(20, 10)] ++ [(20, 70)] ++ [(20, 20)] ++ [(20, 15)] ++ [(20, 344)] ++ [(20, 43)] ++ [(20, 5)] ++ [(20, 5)] ++ [(20, 5)] ++ [(20, 387)] ++ [(20, 4)] ++ [(20, 4)] ++ [(21, 96)] ++ [(21, 24)]
def x7z (I : zI2) : zI2 := zrow (zrow (zrow (zrow (zrow (zrow (zrow (zrow (zrow (zrow (zrow (zrow (zrow (zrow (zrow (zrow I 157 fun _ => 0) 158 fun _ => 0) 159 fun _ => 0) 160 fun _ => 0) 161 fun _ => 0) 162 fun _ => 0) 163 fun _ => 0) 164 fun _ => 0) 165 fun _ => 0) 166 fun _ => 0) 167 fun _ => 0) 168 fun _ => 0) 169 fun _ => 0) 170 fun _ => 0) 171 fun _ => 0) 172 fun _ => 0
def x7l (L : zI2) : zI2 := zrow (zrow (zrow (zrow (zrow (zrow (zrow (zrow (zrow (zrow (zrow (zrow (zrow (zrow (zrow (L) 158 fun _ => 0) 159 fun _ => 0) 160 fun _ => 0) 161 fun _ => 0) 162 fun _ => 0) 163 fun _ => 0) 164 fun _ => 0) 165 fun _ => 0) 166 fun _ => 0) 167 fun _ => 0) 168 fun _ => 0) 169 fun _ => 0) 170 fun _ => 0) 171 fun _ => 0) 172 fun _ => 0
def x7r (R : zR2) : zR2 := zupR (zupR (zupR (zupR (zupR (zupR (zupR (zupR (zupR (zupR (zupR (zupR (zupR (zupR (zupR (zrowR R 157 fun _ => none) 157 0 (some 158)) 157 1 (some 159)) 157 2 (some 160)) 157 6 (some 161)) 157 7 (some 162)) 157 8 (some 163)) 157 10 (some 164)) 157 11 (some 165)) 157 12 (some 166)) 157 13 (some 167)) 157 14 (some 168)) 157 17 (some 169)) 157 18 (some 170)) 157 19 (some 171)) 157 20 (some 172)
theorem ct_X7_tail (h158 : sh[158]? = some (20, 43)) (h169 : sh[169]? = some (20, 4)) (s0 : sh[157]? = some (7, 21)) (hR : R 157 0 = some 158) (hR17 : R 157 17 = some 169) (kk : Q [] sh (x7I I) L R) : zE X mX7_init 0 0 121 [zR 157, zX] [] sh I L R Q := by
  refine z_aload0 122 dX7_init_121 rfl ?_
  refine z_getR 125 dX7_init_122 fl_RX7_7 (by assumption) (by exact hR) rfl ?_
  refine z_iconst 126 dX7_init_125 rfl ?_
  refine z_iconst 127 dX7_init_126 rfl ?_
  refine z_iastN 128 (2) dX7_init_127 (by assumption) (by omega) (by omega) rfl ?_
  refine z_iconst 129 dX7_init_128 rfl ?_
  refine z_istore1 130 dX7_init_129 (Nat.le_of_ble_eq_true rfl) rfl rfl ?_
  refine z_iload1 131 dX7_init_130 rfl ?_
  refine z_bipush 133 dX7_init_131 (by decide) rfl ?_
  refine z_icmp_ge 151 136 dX7_init_133 (by decide) rfl (by omega) (by omega) (fun hz => absurd hz ((by omega))) (fun h133 => ?_)
  refine z_aload0 137 dX7_init_136 rfl ?_
  refine z_getR 140 dX7_init_137 fl_RX7_7 (by assumption) (by exact hR) rfl ?_
  refine z_iconst 141 dX7_init_140 rfl ?_
  refine z_iload1 142 dX7_init_141 rfl ?_
  refine z_iadd 143 dX7_init_142 rfl ?_
  refine z_iconst 144 dX7_init_143 rfl ?_
  refine z_iastN 145 ((3 + 0)) dX7_init_144 (by assumption) (by omega) (by omega) rfl ?_
  refine z_iinc1 148 dX7_init_145 (Nat.le_of_ble_eq_true rfl) rfl rfl ?_
  refine z_goto 130 dX7_init_148 (by decide) ?_
  refine z_iload1 131 dX7_init_130 rfl ?_
  refine z_bipush 133 dX7_init_131 (by decide) rfl ?_
  refine z_icmp_ge 151 136 dX7_init_133 (by decide) rfl (by omega) (by omega) (fun hz => absurd hz ((by omega))) (fun h133 => ?_)
  refine z_aload0 137 dX7_init_136 rfl ?_
  refine z_getR 140 dX7_init_137 fl_RX7_7 (by assumption) (by exact hR) rfl ?_
  refine z_iconst 141 dX7_init_140 rfl ?_
  refine z_iload1 142 dX7_init_141 rfl ?_
  refine z_iadd 143 dX7_init_142 rfl ?_
  refine z_iconst 144 dX7_init_143 rfl ?_
  refine z_iastN 145 ((3 + (0 + 1))) dX7_init_144 (by assumption) (by omega) (by omega) rfl ?_
  refine z_iinc1 148 dX7_init_145 (Nat.le_of_ble_eq_true rfl) rfl rfl ?_
  refine z_goto 130 dX7_init_148 (by decide) ?_
  refine z_iload1 131 dX7_init_130 rfl ?_
  refine z_bipush 133 dX7_init_131 (by decide) rfl ?_
  refine z_icmp_ge 151 136 dX7_init_133 (by decide) rfl (by omega) (by omega) (fun hz => absurd hz ((by omega))) (fun h133 => ?_)
  refine z_aload0 137 dX7_init_136 rfl ?_
  refine z_getR 140 dX7_init_137 fl_RX7_7 (by assumption) (by exact hR) rfl ?_
  refine z_iconst 141 dX7_init_140 rfl ?_
  refine z_iload1 142 dX7_init_141 rfl ?_
  refine z_iadd 143 dX7_init_142 rfl ?_
  refine z_iconst 144 dX7_init_143 rfl ?_
  refine z_iastN 145 ((3 + ((0 + 1) + 1))) dX7_init_144 (by assumption) (by omega) (by omega) rfl ?_
  refine z_iinc1 148 dX7_init_145 (Nat.le_of_ble_eq_true rfl) rfl rfl ?_
  refine z_goto 130 dX7_init_148 (by decide) ?_
  refine z_iload1 131 dX7_init_130 rfl ?_
  refine z_bipush 133 dX7_init_131 (by decide) rfl ?_
  refine z_icmp_ge 151 136 dX7_init_133 (by decide) rfl (by omega) (by omega) (fun hz => absurd hz ((by omega))) (fun h133 => ?_)
  refine z_aload0 137 dX7_init_136 rfl ?_
  refine z_getR 140 dX7_init_137 fl_RX7_7 (by assumption) (by exact hR) rfl ?_
  refine z_iconst 141 dX7_init_140 rfl ?_
  refine z_iload1 142 dX7_init_141 rfl ?_
  refine z_iadd 143 dX7_init_142 rfl ?_
  refine z_iconst 144 dX7_init_143 rfl ?_
  refine z_iastN 145 ((3 + (((0 + 1) + 1) + 1))) dX7_init_144 (by assumption) (by omega) (by omega) rfl ?_
  refine z_iinc1 148 dX7_init_145 (Nat.le_of_ble_eq_true rfl) rfl rfl ?_
  refine z_goto 130 dX7_init_148 (by decide) ?_
  refine z_iload1 131 dX7_init_130 rfl ?_
  refine z_bipush 133 dX7_init_131 (by decide) rfl ?_
  refine z_icmp_ge 151 136 dX7_init_133 (by decide) rfl (by omega) (by omega) (fun hz => absurd hz ((by omega))) (fun h133 => ?_)
  refine z_aload0 137 dX7_init_136 rfl ?_
  refine z_getR 140 dX7_init_137 fl_RX7_7 (by assumption) (by exact hR) rfl ?_
  refine z_iconst 141 dX7_init_140 rfl ?_
  refine z_iload1 142 dX7_init_141 rfl ?_
  refine z_iadd 143 dX7_init_142 rfl ?_
  refine z_iconst 144 dX7_init_143 rfl ?_
  refine z_iastN 145 ((3 + ((((0 + 1) + 1) + 1) + 1))) dX7_init_144 (by assumption) (by omega) (by omega) rfl ?_
  refine z_iinc1 148 dX7_init_145 (Nat.le_of_ble_eq_true rfl) rfl rfl ?_
  refine z_goto 130 dX7_init_148 (by decide) ?_
  refine z_iload1 131 dX7_init_130 rfl ?_
  refine z_bipush 133 dX7_init_131 (by decide) rfl ?_
  refine z_icmp_ge 151 136 dX7_init_133 (by decide) rfl (by omega) (by omega) (fun hz => absurd hz ((by omega))) (fun h133 => ?_)
  refine z_aload0 137 dX7_init_136 rfl ?_
  refine z_getR 140 dX7_init_137 fl_RX7_7 (by assumption) (by exact hR) rfl ?_
  refine z_iconst 141 dX7_init_140 rfl ?_
  refine z_iload1 142 dX7_init_141 rfl ?_
  refine z_iadd 143 dX7_init_142 rfl ?_
  refine z_iconst 144 dX7_init_143 rfl ?_
  refine z_iastN 145 ((3 + (((((0 + 1) + 1) + 1) + 1) + 1))) dX7_init_144 (by assumption) (by omega) (by omega) rfl ?_
  refine z_iinc1 148 dX7_init_145 (Nat.le_of_ble_eq_true rfl) rfl rfl ?_
  refine z_goto 130 dX7_init_148 (by decide) ?_
  refine z_iload1 131 dX7_init_130 rfl ?_
  refine z_bipush 133 dX7_init_131 (by decide) rfl ?_
  refine z_icmp_ge 151 136 dX7_init_133 (by decide) rfl (by omega) (by omega) (fun hz => absurd hz ((by omega))) (fun h133 => ?_)
  refine z_aload0 137 dX7_init_136 rfl ?_
  refine z_getR 140 dX7_init_137 fl_RX7_7 (by assumption) (by exact hR) rfl ?_
  refine z_iconst 141 dX7_init_140 rfl ?_
  refine z_iload1 142 dX7_init_141 rfl ?_
  refine z_iadd 143 dX7_init_142 rfl ?_
  refine z_iconst 144 dX7_init_143 rfl ?_
  refine z_iastN 145 ((3 + ((((((0 + 1) + 1) + 1) + 1) + 1) + 1))) dX7_init_144 (by assumption) (by omega) (by omega) rfl ?_
  refine z_iinc1 148 dX7_init_145 (Nat.le_of_ble_eq_true rfl) rfl rfl ?_
  refine z_goto 130 dX7_init_148 (by decide) ?_
  refine z_iload1 131 dX7_init_130 rfl ?_
  refine z_bipush 133 dX7_init_131 (by decide) rfl ?_
  refine z_icmp_ge 151 136 dX7_init_133 (by decide) rfl (by omega) (by omega) (fun hz => absurd hz ((by omega))) (fun h133 => ?_)
  refine z_aload0 137 dX7_init_136 rfl ?_
  refine z_getR 140 dX7_init_137 fl_RX7_7 (by assumption) (by exact hR) rfl ?_
  refine z_iconst 141 dX7_init_140 rfl ?_
  refine z_iload1 142 dX7_init_141 rfl ?_
  refine z_iadd 143 dX7_init_142 rfl ?_
  refine z_iconst 144 dX7_init_143 rfl ?_
  refine z_iastN 145 ((3 + (((((((0 + 1) + 1) + 1) + 1) + 1) + 1) + 1))) dX7_init_144 (by assumption) (by omega) (by omega) rfl ?_
  refine z_iinc1 148 dX7_init_145 (Nat.le_of_ble_eq_true rfl) rfl rfl ?_
  refine z_goto 130 dX7_init_148 (by decide) ?_
  refine z_iload1 131 dX7_init_130 rfl ?_
  refine z_bipush 133 dX7_init_131 (by decide) rfl ?_
  refine z_icmp_ge 151 136 dX7_init_133 (by decide) rfl (by omega) (by omega) (fun hz => absurd hz ((by omega))) (fun h133 => ?_)
  refine z_aload0 137 dX7_init_136 rfl ?_
  refine z_getR 140 dX7_init_137 fl_RX7_7 (by assumption) (by exact hR) rfl ?_
  refine z_iconst 141 dX7_init_140 rfl ?_
  refine z_iload1 142 dX7_init_141 rfl ?_
  refine z_iadd 143 dX7_init_142 rfl ?_
  refine z_iconst 144 dX7_init_143 rfl ?_
  refine z_iastN 145 ((3 + ((((((((0 + 1) + 1) + 1) + 1) + 1) + 1) + 1) + 1))) dX7_init_144 (by assumption) (by omega) (by omega) rfl ?_
  refine z_iinc1 148 dX7_init_145 (Nat.le_of_ble_eq_true rfl) rfl rfl ?_
  refine z_goto 130 dX7_init_148 (by decide) ?_
  refine z_iload1 131 dX7_init_130 rfl ?_
  refine z_bipush 133 dX7_init_131 (by decide) rfl ?_
  refine z_icmp_ge 151 136 dX7_init_133 (by decide) rfl (by omega) (by omega) (fun hz => absurd hz ((by omega))) (fun h133 => ?_)
  refine z_aload0 137 dX7_init_136 rfl ?_
  refine z_getR 140 dX7_init_137 fl_RX7_7 (by assumption) (by exact hR) rfl ?_
  refine z_iconst 141 dX7_init_140 rfl ?_
  refine z_iload1 142 dX7_init_141 rfl ?_
  refine z_iadd 143 dX7_init_142 rfl ?_
  refine z_iconst 144 dX7_init_143 rfl ?_
  refine z_iastN 145 ((3 + (((((((((0 + 1) + 1) + 1) + 1) + 1) + 1) + 1) + 1) + 1))) dX7_init_144 (by assumption) (by omega) (by omega) rfl ?_
  refine z_iinc1 148 dX7_init_145 (Nat.le_of_ble_eq_true rfl) rfl rfl ?_
  refine z_goto 130 dX7_init_148 (by decide) ?_
  refine z_iload1 131 dX7_init_130 rfl ?_
  refine z_bipush 133 dX7_init_131 (by decide) rfl ?_
  refine z_icmp_ge 151 136 dX7_init_133 (by decide) rfl (by omega) (by omega) (fun h133 => ?_) (fun hz => absurd hz ((by omega)))
  refine z_iconst 152 dX7_init_151 rfl ?_
  refine z_istore1 153 dX7_init_152 (Nat.le_of_ble_eq_true rfl) rfl rfl ?_
  refine z_iload1 154 dX7_init_153 rfl ?_
  refine z_iconst 155 dX7_init_154 rfl ?_
  refine z_icmp_ge 171 158 dX7_init_155 (by decide) rfl (by omega) (by omega) (fun hz => absurd hz ((by omega))) (fun h155 => ?_)
  refine z_aload0 159 dX7_init_158 rfl ?_
  refine z_getR 162 dX7_init_159 fl_RX7_43 (by assumption) (by exact hR17) rfl ?_
  refine z_iload1 163 dX7_init_162 rfl ?_
  refine z_iconst 164 dX7_init_163 rfl ?_
  refine z_iastN 165 (0) dX7_init_164 (by assumption) (by omega) (by omega) rfl ?_
  refine z_iinc1 168 dX7_init_165 (Nat.le_of_ble_eq_true rfl) rfl rfl ?_
  refine z_goto 153 dX7_init_168 (by decide) ?_
  refine z_iload1 154 dX7_init_153 rfl ?_
  refine z_iconst 155 dX7_init_154 rfl ?_
  refine z_icmp_ge 171 158 dX7_init_155 (by decide) rfl (by omega) (by omega) (fun hz => absurd hz ((by omega))) (fun h155 => ?_)
  refine z_aload0 159 dX7_init_158 rfl ?_
  refine z_getR 162 dX7_init_159 fl_RX7_43 (by assumption) (by exact hR17) rfl ?_
  refine z_iload1 163 dX7_init_162 rfl ?_
  refine z_iconst 164 dX7_init_163 rfl ?_
  refine z_iastN 165 ((0 + 1)) dX7_init_164 (by assumption) (by omega) (by omega) rfl ?_
  refine z_iinc1 168 dX7_init_165 (Nat.le_of_ble_eq_true rfl) rfl rfl ?_
  refine z_goto 153 dX7_init_168 (by decide) ?_
  refine z_iload1 154 dX7_init_153 rfl ?_
  refine z_iconst 155 dX7_init_154 rfl ?_
  refine z_icmp_ge 171 158 dX7_init_155 (by decide) rfl (by omega) (by omega) (fun hz => absurd hz ((by omega))) (fun h155 => ?_)
  refine z_aload0 159 dX7_init_158 rfl ?_
  refine z_getR 162 dX7_init_159 fl_RX7_43 (by assumption) (by exact hR17) rfl ?_
  refine z_iload1 163 dX7_init_162 rfl ?_
  refine z_iconst 164 dX7_init_163 rfl ?_
  refine z_iastN 165 (((0 + 1) + 1)) dX7_init_164 (by assumption) (by omega) (by omega) rfl ?_
  refine z_iinc1 168 dX7_init_165 (Nat.le_of_ble_eq_true rfl) rfl rfl ?_
  refine z_goto 153 dX7_init_168 (by decide) ?_
  refine z_iload1 154 dX7_init_153 rfl ?_
  refine z_iconst 155 dX7_init_154 rfl ?_
  refine z_icmp_ge 171 158 dX7_init_155 (by decide) rfl (by omega) (by omega) (fun hz => absurd hz ((by omega))) (fun h155 => ?_)
  refine z_aload0 159 dX7_init_158 rfl ?_
  refine z_getR 162 dX7_init_159 fl_RX7_43 (by assumption) (by exact hR17) rfl ?_
  refine z_iload1 163 dX7_init_162 rfl ?_
  refine z_iconst 164 dX7_init_163 rfl ?_
  refine z_iastN 165 ((((0 + 1) + 1) + 1)) dX7_init_164 (by assumption) (by omega) (by omega) rfl ?_
  refine z_iinc1 168 dX7_init_165 (Nat.le_of_ble_eq_true rfl) rfl rfl ?_
  refine z_goto 153 dX7_init_168 (by decide) ?_
  refine z_iload1 154 dX7_init_153 rfl ?_
  refine z_iconst 155 dX7_init_154 rfl ?_
  refine z_icmp_ge 171 158 dX7_init_155 (by decide) rfl (by omega) (by omega) (fun h155 => ?_) (fun hz => absurd hz ((by omega)))
  exact z_return dX7_init_171 rfl (kk)
theorem ct_X7_init (ho : sh[157]? = some (7, 21)) (hl : sh.length = 158) (kk : Q [] (x7s sh) (x7I (x7z I)) (x7l L) (x7r R)) : zE X mX7_init 15 1075 0 [zR 157, zX] [] sh (zrow I 157 fun _ => 0) L (zrowR R 157 fun _ => none) Q := by
  refine z_aload0 1 dX7_init_0 rfl ?_
  refine z_objInit 4 dX7_init_1 ml_RX7_1 in_objectInit co_objectInit (by decide) (Nat.le_of_ble_eq_true rfl) rfl ?_
  refine z_aload0 5 dX7_init_4 rfl ?_
  refine z_bipush 7 dX7_init_5 (by decide) rfl ?_
  refine z_newaX 9 (158) 43 dX7_init_7 (Or.inl ⟨rfl, rfl⟩) ac_int rfl (by decide) (by first | omega | (simp only [List.length_append, List.length_cons, List.length_nil]; omega)) rfl rfl rfl ?_
  refine z_putR 12 dX7_init_9 fp_RX7_7 rfl (by repeat first | assumption | refine zg_l ?_) rfl ?_
  refine z_aload0 13 dX7_init_12 rfl ?_
  refine z_bipush 15 dX7_init_13 (by decide) rfl ?_
  refine z_newaX 17 (159) 10 dX7_init_15 (Or.inl ⟨rfl, rfl⟩) ac_int rfl (by decide) (by first | omega | (simp only [List.length_append, List.length_cons, List.length_nil]; omega)) rfl rfl rfl ?_
  refine z_putR 20 dX7_init_17 fp_RX7_13 rfl (by repeat first | assumption | refine zg_l ?_) rfl ?_
  refine z_aload0 21 dX7_init_20 rfl ?_
  refine z_bipush 23 dX7_init_21 (by decide) rfl ?_
  refine z_newaX 25 (160) 70 dX7_init_23 (Or.inl ⟨rfl, rfl⟩) ac_int rfl (by decide) (by first | omega | (simp only [List.length_append, List.length_cons, List.length_nil]; omega)) rfl rfl rfl ?_
  refine z_putR 28 dX7_init_25 fp_RX7_16 rfl (by repeat first | assumption | refine zg_l ?_) rfl ?_
  refine z_aload0 29 dX7_init_28 rfl ?_
  refine z_bipush 31 dX7_init_29 (by decide) rfl ?_
  refine z_newaX 33 (161) 20 dX7_init_31 (Or.inl ⟨rfl, rfl⟩) ac_int rfl (by decide) (by first | omega | (simp only [List.length_append, List.length_cons, List.length_nil]; omega)) rfl rfl rfl ?_
  refine z_putR 36 dX7_init_33 fp_RX7_19 rfl (by repeat first | assumption | refine zg_l ?_) rfl ?_
  refine z_aload0 37 dX7_init_36 rfl ?_
  refine z_bipush 39 dX7_init_37 (by decide) rfl ?_
  refine z_newaX 41 (162) 15 dX7_init_39 (Or.inl ⟨rfl, rfl⟩) ac_int rfl (by decide) (by first | omega | (simp only [List.length_append, List.length_cons, List.length_nil]; omega)) rfl rfl rfl ?_
  refine z_putR 44 dX7_init_41 fp_RX7_22 rfl (by repeat first | assumption | refine zg_l ?_) rfl ?_
  refine z_aload0 45 dX7_init_44 rfl ?_
  refine z_sipush 48 dX7_init_45 (by decide) rfl ?_
  refine z_newaX 50 (163) 344 dX7_init_48 (Or.inl ⟨rfl, rfl⟩) ac_int rfl (by decide) (by first | omega | (simp only [List.length_append, List.length_cons, List.length_nil]; omega)) rfl rfl rfl ?_
  refine z_putR 53 dX7_init_50 fp_RX7_25 rfl (by repeat first | assumption | refine zg_l ?_) rfl ?_
  refine z_aload0 54 dX7_init_53 rfl ?_
  refine z_bipush 56 dX7_init_54 (by decide) rfl ?_
  refine z_newaX 58 (164) 43 dX7_init_56 (Or.inl ⟨rfl, rfl⟩) ac_int rfl (by decide) (by first | omega | (simp only [List.length_append, List.length_cons, List.length_nil]; omega)) rfl rfl rfl ?_
  refine z_putR 61 dX7_init_58 fp_RX7_28 rfl (by repeat first | assumption | refine zg_l ?_) rfl ?_
  refine z_aload0 62 dX7_init_61 rfl ?_
  refine z_iconst 63 dX7_init_62 rfl ?_
  refine z_newaX 65 (165) 5 dX7_init_63 (Or.inl ⟨rfl, rfl⟩) ac_int rfl (by decide) (by first | omega | (simp only [List.length_append, List.length_cons, List.length_nil]; omega)) rfl rfl rfl ?_
  refine z_putR 68 dX7_init_65 fp_RX7_31 rfl (by repeat first | assumption | refine zg_l ?_) rfl ?_
  refine z_aload0 69 dX7_init_68 rfl ?_
  refine z_iconst 70 dX7_init_69 rfl ?_
  refine z_newaX 72 (166) 5 dX7_init_70 (Or.inl ⟨rfl, rfl⟩) ac_int rfl (by decide) (by first | omega | (simp only [List.length_append, List.length_cons, List.length_nil]; omega)) rfl rfl rfl ?_
  refine z_putR 75 dX7_init_72 fp_RX7_34 rfl (by repeat first | assumption | refine zg_l ?_) rfl ?_
  refine z_aload0 76 dX7_init_75 rfl ?_
  refine z_iconst 77 dX7_init_76 rfl ?_
  refine z_newaX 79 (167) 5 dX7_init_77 (Or.inl ⟨rfl, rfl⟩) ac_int rfl (by decide) (by first | omega | (simp only [List.length_append, List.length_cons, List.length_nil]; omega)) rfl rfl rfl ?_
  refine z_putR 82 dX7_init_79 fp_RX7_37 rfl (by repeat first | assumption | refine zg_l ?_) rfl ?_
  refine z_aload0 83 dX7_init_82 rfl ?_
  refine z_sipush 86 dX7_init_83 (by decide) rfl ?_
  refine z_newaX 88 (168) 387 dX7_init_86 (Or.inl ⟨rfl, rfl⟩) ac_int rfl (by decide) (by first | omega | (simp only [List.length_append, List.length_cons, List.length_nil]; omega)) rfl rfl rfl ?_
  refine z_putR 91 dX7_init_88 fp_RX7_40 rfl (by repeat first | assumption | refine zg_l ?_) rfl ?_
  refine z_aload0 92 dX7_init_91 rfl ?_
  refine z_iconst 93 dX7_init_92 rfl ?_
  refine z_newaX 95 (169) 4 dX7_init_93 (Or.inl ⟨rfl, rfl⟩) ac_int rfl (by decide) (by first | omega | (simp only [List.length_append, List.length_cons, List.length_nil]; omega)) rfl rfl rfl ?_
  refine z_putR 98 dX7_init_95 fp_RX7_43 rfl (by repeat first | assumption | refine zg_l ?_) rfl ?_
  refine z_aload0 99 dX7_init_98 rfl ?_
  refine z_iconst 100 dX7_init_99 rfl ?_
  refine z_newaX 102 (170) 4 dX7_init_100 (Or.inl ⟨rfl, rfl⟩) ac_int rfl (by decide) (by first | omega | (simp only [List.length_append, List.length_cons, List.length_nil]; omega)) rfl rfl rfl ?_
  refine z_putR 105 dX7_init_102 fp_RX7_46 rfl (by repeat first | assumption | refine zg_l ?_) rfl ?_
  refine z_aload0 106 dX7_init_105 rfl ?_
  refine z_bipush 108 dX7_init_106 (by decide) rfl ?_
  refine z_newaX 110 (171) 96 dX7_init_108 (Or.inr ⟨rfl, rfl⟩) ac_long rfl (by decide) (by first | omega | (simp only [List.length_append, List.length_cons, List.length_nil]; omega)) rfl rfl rfl ?_
  refine z_putR 113 dX7_init_110 fp_RX7_49 rfl (by repeat first | assumption | refine zg_l ?_) rfl ?_
  refine z_aload0 114 dX7_init_113 rfl ?_
  refine z_bipush 116 dX7_init_114 (by decide) rfl ?_
  refine z_newaX 118 (172) 24 dX7_init_116 (Or.inr ⟨rfl, rfl⟩) ac_long rfl (by decide) (by first | omega | (simp only [List.length_append, List.length_cons, List.length_nil]; omega)) rfl rfl rfl ?_
  refine z_putR 121 dX7_init_118 fp_RX7_53 rfl (by repeat first | assumption | refine zg_l ?_) rfl ?_
  exact ct_X7_tail (zg_l (zg_l (zg_l (zg_l (zg_l (zg_l (zg_l (zg_l (zg_l (zg_l (zg_l (zg_l (zg_l (zg_l (zg_r (by first | omega | (simp only [List.length_append, List.length_cons, List.length_nil]; omega))))))))))))))))) (zg_l (zg_l (zg_l (zg_r (by first | omega | (simp only [List.length_append, List.length_cons, List.length_nil]; omega)))))) (zg_l (zg_l (zg_l (zg_l (zg_l (zg_l (zg_l (zg_l (zg_l (zg_l (zg_l (zg_l (zg_l (zg_l (zg_l (ho)))))))))))))))) rfl rfl kk
theorem x7_Ms (ho : sh[157]? = some (7, 21)) (hl : sh.length = 158) : zMs (x7s sh) (x7r R) := by
  refine ⟨⟨zg_l (zg_l (zg_l (zg_l (zg_l (zg_l (zg_l (zg_l (zg_l (zg_l (zg_l (zg_l (zg_l (zg_l (zg_l (ho))))))))))))))), (zg_l (zg_l (zg_l (zg_l (zg_l (zg_l (zg_l (zg_l (zg_l (zg_l (zg_l (zg_l (zg_l (zg_l (zg_r (by first | omega | (simp only [List.length_append, List.length_cons, List.length_nil]; omega))))))))))))))))), (zg_l (zg_l (zg_l (zg_l (zg_l (zg_l (zg_l (zg_l (zg_l (zg_l (zg_l (zg_l (zg_l (zg_r (by first | omega | (simp only [List.length_append, List.length_cons, List.length_nil]; omega)))))))))))))))), (zg_l (zg_l (zg_l (zg_l (zg_l (zg_l (zg_l (zg_l (zg_l (zg_l (zg_l (zg_l (zg_r (by first | omega | (simp only [List.length_append, List.length_cons, List.length_nil]; omega))))))))))))))), (zg_l (zg_l (zg_l (zg_l (zg_l (zg_l (zg_l (zg_l (zg_l (zg_l (zg_l (zg_r (by first | omega | (simp only [List.length_append, List.length_cons, List.length_nil]; omega)))))))))))))), (zg_l (zg_l (zg_l (zg_l (zg_l (zg_l (zg_l (zg_l (zg_l (zg_l (zg_r (by first | omega | (simp only [List.length_append, List.length_cons, List.length_nil]; omega))))))))))))), (zg_l (zg_l (zg_l (zg_l (zg_l (zg_l (zg_l (zg_l (zg_l (zg_r (by first | omega | (simp only [List.length_append, List.length_cons, List.length_nil]; omega)))))))))))), (zg_l (zg_l (zg_l (zg_l (zg_l (zg_l (zg_l (zg_l (zg_r (by first | omega | (simp only [List.length_append, List.length_cons, List.length_nil]; omega))))))))))), (zg_l (zg_l (zg_l (zg_l (zg_l (zg_l (zg_l (zg_r (by first | omega | (simp only [List.length_append, List.length_cons, List.length_nil]; omega)))))))))), (zg_l (zg_l (zg_l (zg_l (zg_l (zg_l (zg_r (by first | omega | (simp only [List.length_append, List.length_cons, List.length_nil]; omega))))))))), (zg_l (zg_l (zg_l (zg_l (zg_l (zg_r (by first | omega | (simp only [List.length_append, List.length_cons, List.length_nil]; omega)))))))), (zg_l (zg_l (zg_l (zg_l (zg_r (by first | omega | (simp only [List.length_append, List.length_cons, List.length_nil]; omega))))))), (zg_l (zg_l (zg_l (zg_r (by first | omega | (simp only [List.length_append, List.length_cons, List.length_nil]; omega)))))), (zg_l (zg_l (zg_r (by first | omega | (simp only [List.length_append, List.length_cons, List.length_nil]; omega))))), (zg_l (zg_r (by first | omega | (simp only [List.length_append, List.length_cons, List.length_nil]; omega)))), (zg_r (by first | omega | (simp only [List.length_append, List.length_cons, List.length_nil]; omega)))⟩, rfl, rfl, rfl, rfl, rfl, rfl, rfl, rfl, rfl, rfl, rfl, rfl, rfl, rfl, rfl⟩
theorem x7_s {a : Nat} {v : Nat × Nat} (h : sh[a]? = some v) : (x7s sh)[a]? = some v := zg_l (zg_l (zg_l (zg_l (zg_l (zg_l (zg_l (zg_l (zg_l (zg_l (zg_l (zg_l (zg_l (zg_l (zg_l (h)))))))))))))))
theorem x7_I {a : Nat} (h : a < 157) : x7I (x7z I) a = I a := by
  funext b
  simp only [x7I, x7z, zup, zrow]
  repeat rw [if_neg (by omega)]
theorem x7_L {a : Nat} (h : a < 157) : x7l L a = L a := by
  funext b
  simp only [x7l, zrow]
  repeat rw [if_neg (by omega)]
theorem x7_R {a : Nat} (h : a < 157) : x7r R a = R a := by
  funext b
  simp only [x7r, zupR, zrowR]
  repeat rw [if_neg (by omega)]
def x7N : Nat → Int := x7I (fun _ _ => 0) 158
def x7K : Nat → Int := x7I (fun _ _ => 0) 169
theorem x7_N : x7I (x7z I) 158 = x7N := rfl
theorem x7_K : x7I (x7z I) 169 = x7K := rfl
theorem x7_re : mRe x7N zS0 := by
  have h0 : nvw x7N 0 6 = 0 ∧ nvw x7N 0 7 = 0 ∧ nvw x7N 0 8 = 1 := by decide +kernel
  have h1 : ∀ t, t < 10 → nvw x7N 1 t = 1 ∧ nvw x7N 2 t = 0 := by decide +kernel
  have h2 : ∀ r, r < 5 → nvw x7N 3 r = 0 ∧ nvw x7N 4 r = 0 ∧ nvw x7N 5 r = 0 ∧ nvw x7N 6 r = 0 := by decide +kernel
  refine ⟨⟨⟨by omega, fun t h => ?_, fun t h => ?_, fun r h => ?_, fun r h => ?_, fun r h => ?_, fun r h => ?_⟩, by omega, by omega⟩, h0, h1, fun r h => by omega⟩
  · have := h1 t h; omega
  · have := h1 t h; omega
  · have := h2 r h; omega
  · have := h2 r h; omega
  · have := h2 r h; omega
  · have := h2 r h; omega
theorem x7_CA (ho : sh[157]? = some (7, 21)) (hl : sh.length = 158) : mCA (x7s sh) (x7r R) (x7I (x7z I)) (x7l L) zA0 := by
  refine ⟨x7_Ms ho hl, ?_, ⟨rfl, Nat.zero_le 8, fun i s hs => by cases hs⟩, rfl, ⟨rfl, Nat.zero_le 70, fun j x hx => by cases hx⟩, fun k hk => ?_⟩
  · rw [x7_N]
    exact x7_re
  · have h1 : ∀ k, k < 4 → x7K k = -1 := by decide +kernel
    refine ⟨⟨?_, Or.inl rfl⟩, Or.inl rfl, ⟨?_, ?_⟩, fun j hj => ⟨rfl, (by decide : (-9223372036854775808 : Int) ≤ 0), (by decide : (0 : Int) ≤ 9223372036854775807)⟩⟩
    · rw [x7_K]
      exact h1 k hk
    · exact Int.le_refl 0
    · exact (by decide : (0 : Int) ≤ 24)
end CONS
