/-! ===== the law from its first step ===== -/
section LAWB
variable {X : zXs} {nm : String}
theorem tl_law93 {A : zA} (hX : X.1 ≤ 260) (hj : ∀ j, -2147483648 ≤ X.2 j ∧ X.2 j ≤ 2147483647) (hg : gd A.1) (h7 : A.1 0 7 ≤ 100) {N : Nat → Int} {sh : zH} {I L : zI2} {R : zR2} {a4 : Int} {z5 z6 z7 z8 z9 z10 z11 : zV} (hl : lS sh I L R A N) : zE X (mLn nm) 1 5 93 [zS, zR 0, zR 157, zI 1, zI a4, z5, z6, z7, z8, z9, z10, z11] [] sh I L R lEnd := by
  obtain ⟨S, hh, kp, TS⟩ := A
  obtain ⟨⟨P, hcA⟩, hs, hsl, hI⟩ := id hl
  have h := pH.rf hcA
  have s0 := h.sh0
  have hw : I 157 0 = S 0 6 := by rw [hI]; rfl
  refine z_iload3 94 dL_law_93 rfl ?_
  refine z_if_eq 109 97 dL_law_94 (by decide) rfl (by omega) (fun hz => absurd hz ((by omega))) (fun h94 => ?_)
  refine z_aload1 98 dL_law_97 rfl ?_
  refine z_pV0 101 dL_law_98 (zVL_n lk_L_law_84) (pc_image h) rfl (Nat.le_of_ble_eq_true rfl) (Nat.le_of_ble_eq_true rfl) (by assumption) rfl rfl (fun r0 sh0 I0 L0 R0 hpq => ?_)
  obtain ⟨rfl, rfl, h⟩ := pO hpq
  have h : pH sh I L R I0 L0 R0 (pA S hh TS) := h
  refine z_iconst 102 dL_law_101 rfl ?_
  refine z_icmp_ne 109 105 dL_law_102 (by decide) rfl (by omega) (by omega) (fun hz => absurd hz ((by omega))) (fun h102 => ?_)
  refine z_iconst 106 dL_law_105 rfl ?_
  refine z_goto 110 dL_law_106 (by decide) ?_
  refine z_istore3 111 dL_law_110 (Nat.le_of_ble_eq_true rfl) rfl rfl ?_
  refine z_iload3 112 dL_law_111 rfl ?_
  refine z_if_eq 123 115 dL_law_112 (by decide) rfl (by omega) (fun hz => absurd hz ((by omega))) (fun h112 => ?_)
  refine z_aload1 116 dL_law_115 rfl ?_
  refine z_aload2 117 dL_law_116 rfl ?_
  refine z_pS2 120 dL_law_117 (zSL_n lk_L_law_87) (ct_L_hash (A := pA S hh TS) hs hw hg h) rfl (Nat.le_of_ble_eq_true rfl) (Nat.le_of_ble_eq_true rfl) rfl (fun r0 sh0 I0 L0 R0 hpq => ?_)
  obtain ⟨rfl, rfl, h⟩ := pO hpq
  refine z_goto 124 dL_law_120 (by decide) ?_
  refine z_lstore4 126 dL_law_124 (Nat.le_of_ble_eq_true rfl) rfl rfl ?_
  refine z_iload3 127 dL_law_126 rfl ?_
  refine z_if_eq 195 130 dL_law_127 (by decide) rfl (by omega) (fun hz => absurd hz ((by omega))) (fun h127 => ?_)
  refine z_aload1 131 dL_law_130 rfl ?_
  refine z_aload2 132 dL_law_131 rfl ?_
  refine z_lload4 134 dL_law_132 rfl ?_
  refine z_pS3 137 dL_law_134 (zSL_n lk_L_law_91) (ct_L_rode hs hw hg h7 h) rfl (Nat.le_of_ble_eq_true rfl) (Nat.le_of_ble_eq_true rfl) rfl (fun r0 sh0 I0 L0 R0 hpq => ?_)
  obtain ⟨rfl, rfl, h⟩ := pO hpq
  refine z_if_eq 195 140 dL_law_137 (by decide) rfl (by omega) (fun hz => absurd hz ((by omega))) (fun h137 => ?_)
  refine z_aload1 141 dL_law_140 rfl ?_
  refine z_aloadS0 142 dL_law_141 rfl ?_
  refine z_aload2 143 dL_law_142 rfl ?_
  refine z_lload4 145 dL_law_143 rfl ?_
  refine z_pS4 148 dL_law_145 (zSL_n lk_L_law_95) (ct_L_waxed hX hj hs hw hg h) rfl (Nat.le_of_ble_eq_true rfl) (Nat.le_of_ble_eq_true rfl) rfl (fun r0 sh0 I0 L0 R0 hpq => ?_)
  obtain ⟨rfl, rfl, h⟩ := pO hpq
  refine z_if_eq 195 151 dL_law_148 (by decide) rfl (by omega) (fun hz => absurd hz ((by omega))) (fun h148 => ?_)
  refine z_aload1 152 dL_law_151 rfl ?_
  refine z_aload2 153 dL_law_152 rfl ?_
  refine z_lload4 155 dL_law_153 rfl ?_
  refine z_pS3 158 dL_law_155 (zSL_n lk_L_law_99) (ct_L_hammered hs hw hg h) rfl (Nat.le_of_ble_eq_true rfl) (Nat.le_of_ble_eq_true rfl) rfl (fun r0 sh0 I0 L0 R0 hpq => ?_)
  obtain ⟨rfl, rfl, h⟩ := pO hpq
  refine z_if_eq 195 161 dL_law_158 (by decide) rfl (by omega) (fun hz => absurd hz ((by omega))) (fun h158 => ?_)
  refine z_aload1 162 dL_law_161 rfl ?_
  refine z_aload2 163 dL_law_162 rfl ?_
  refine z_lload4 165 dL_law_163 rfl ?_
  refine z_qS3 168 0 0 1 5 dL_law_165 (zSL_n lk_L_law_102) (by omega) (by omega) (ct_L_ordered hs hsl hw hg h7 h) rfl (Nat.le_of_ble_eq_true rfl) (Nat.le_of_ble_eq_true rfl) rfl (fun r0 sh0 I0 L0 R0 hpq => ?_)
  obtain ⟨rfl, ⟨P2, hcB⟩, hs, hsl, hw⟩ := hpq
  have h := pH.rf hcB
  have s0 := h.sh0
  refine z_if_eq 195 171 dL_law_168 (by decide) rfl (by omega) (fun hz => absurd hz ((by omega))) (fun h168 => ?_)
  refine z_aload1 172 dL_law_171 rfl ?_
  refine z_aloadS0 173 dL_law_172 rfl ?_
  refine z_aload2 174 dL_law_173 rfl ?_
  refine z_pS3 177 dL_law_174 (zSL_n lk_L_law_105) (ct_L_rained hX hj hs hw hg h) rfl (Nat.le_of_ble_eq_true rfl) (Nat.le_of_ble_eq_true rfl) rfl (fun r0 sh0 I0 L0 R0 hpq => ?_)
  obtain ⟨rfl, rfl, h⟩ := pO hpq
  refine z_if_eq 195 180 dL_law_177 (by decide) rfl (by omega) (fun hz => absurd hz ((by omega))) (fun h177 => ?_)
  refine z_aload1 181 dL_law_180 rfl ?_
  refine z_aloadS0 182 dL_law_181 rfl ?_
  refine z_aload2 183 dL_law_182 rfl ?_
  refine z_lload4 185 dL_law_183 rfl ?_
  refine z_pS4 188 dL_law_185 (zSL_n lk_L_law_108) (ct_L_clocked hX hj hs hw hg h) rfl (Nat.le_of_ble_eq_true rfl) (Nat.le_of_ble_eq_true rfl) rfl (fun r0 sh0 I0 L0 R0 hpq => ?_)
  obtain ⟨rfl, e5, TS2, h⟩ := hpq
  subst e5
  refine z_if_eq 195 191 dL_law_188 (by decide) rfl (by omega) (fun hz => absurd hz ((by omega))) (fun h188 => ?_)
  refine z_iconst 192 dL_law_191 rfl ?_
  refine z_goto 196 dL_law_192 (by decide) ?_
  refine z_istore3 197 dL_law_196 (Nat.le_of_ble_eq_true rfl) rfl rfl ?_
  exact tl_law197 hX hj hs hg h7 hw h (phash_B _ _ _)
theorem lp_law39 (hX : X.1 ≤ 260) (hj : ∀ j, -2147483648 ≤ X.2 j ∧ X.2 j ≤ 2147483647) : ∀ (m i : Nat) (A : zA), i + m = 5 → gd A.1 → A.1 0 7 ≤ i → ∃ ka, ka ≤ m ∧ ∀ (N : Nat → Int) (sh : zH) (I L : zI2) (R : zR2) (z5 z6 z7 z8 z9 z10 z11 : zV), lS sh I L R A N → zE X (mLn nm) (ka + 1) (10 * ka + 5) 39 [zS, zR 0, zR 157, zI 1, zI (i : Int), z5, z6, z7, z8, z9, z10, z11] [] sh I L R lEnd
  | 0, i, A, hm, hg, h7 => by
    refine ⟨0, Nat.le_refl _, fun N sh I L R z5 z6 z7 z8 z9 z10 z11 hl => ?_⟩
    show zE X (mLn nm) 1 5 39 _ _ _ _ _ _ _
    refine z_iload4 41 dL_law_39 rfl ?_
    refine z_iconst 42 dL_law_41 rfl ?_
    refine z_icmp_ge 93 45 dL_law_42 (by decide) rfl (by omega) (by omega) (fun h42 => ?_) (fun hz => absurd hz (by omega))
    exact tl_law93 hX hj hg (by omega) hl
  | m + 1, i, A, hm, hg, h7 => by
    have bx : 0 ≤ zand (zshr (pcl X (8 + i)) 9) 4095 ∧ zand (zshr (pcl X (8 + i)) 9) 4095 ≤ 4095 := zand_r 4095 12 rfl (by omega)
    obtain ⟨x, hx⟩ : ∃ x : Nat, zand (zshr (pcl X (8 + i)) 9) 4095 = (x : Int) := ⟨(zand (zshr (pcl X (8 + i)) 9) 4095).toNat, by omega⟩
    obtain ⟨A', k, b, hk1, hb, hg', h7', hact⟩ := ct_L_acts (X := X) (x := x) (by omega) hg (by omega)
    obtain ⟨ka, hka, kr⟩ := lp_law39 hX hj m (i + 1) A' (by omega) hg' (by omega)
    refine ⟨ka + k, by omega, fun N sh I L R z5 z6 z7 z8 z9 z10 z11 hl => ?_⟩
    have s0 : sh[0]? = some (6, 12) := by
      obtain ⟨⟨P, hc⟩, _⟩ := hl
      exact hc.1.1.1
    have hac := hact N sh I L R hl
    refine z_iload4 41 dL_law_39 rfl ?_
    refine z_iconst 42 dL_law_41 rfl ?_
    refine z_icmp_ge 93 45 dL_law_42 (by decide) rfl (by omega) (by omega) (fun hz => absurd hz (by omega)) (fun h42 => ?_)
    refine z_iload3 46 dL_law_45 rfl ?_
    refine z_if_eq 93 49 dL_law_46 (by decide) rfl (by omega) (fun hz => absurd hz ((by omega))) (fun h46 => ?_)
    refine z_aload1 50 dL_law_49 rfl ?_
    refine z_aload2 51 dL_law_50 rfl ?_
    refine z_aloadS0 52 dL_law_51 rfl ?_
    refine z_bipush 54 dL_law_52 (by decide) rfl ?_
    refine z_iload4 56 dL_law_54 rfl ?_
    refine z_iadd 57 dL_law_56 rfl ?_
    rw [show 8 + (i : Int) = ((8 + i : Nat) : Int) by omega]
    refine z_xS2 60 dL_law_57 (zSL_n lk_L_law_15) (ct_L_cell hX hj (by omega)) rfl (Nat.le_of_ble_eq_true rfl) (Nat.le_of_ble_eq_true rfl) rfl ?_
    refine z_bipush 62 dL_law_60 (by decide) rfl ?_
    refine z_ishr 63 dL_law_62 rfl ?_
    refine z_sipush 66 dL_law_63 (by decide) rfl ?_
    refine z_iand 67 dL_law_66 rfl ?_
    rw [hx]
    refine z_qS3 70 (ka + 1) (10 * ka + 5) k (10 * k) dL_law_67 (zSL_n lk_L_law_80) (by omega) (by omega) (hac) rfl (Nat.le_of_ble_eq_true rfl) (Nat.le_of_ble_eq_true rfl) rfl (fun r0 sh0 I0 L0 R0 hpq => ?_)
    obtain ⟨rfl, hl⟩ := hpq
    obtain ⟨⟨P, hcA⟩, hs, hsl, hI⟩ := id hl
    have h := pH.rf hcA
    have s0 := h.sh0
    have hw : I0 157 0 = A'.1 0 6 := by rw [hI]; rfl
    refine z_if_lt 85 73 dL_law_70 (by decide) rfl (by omega) (fun hz => absurd hz (by omega)) (fun h70 => ?_)
    refine z_aload1 74 dL_law_73 rfl ?_
    refine z_aload2 75 dL_law_74 rfl ?_
    refine z_pS2 78 dL_law_75 (zSL_n lk_L_law_77) (ct_L_stands hs hw hg' h) rfl (Nat.le_of_ble_eq_true rfl) (Nat.le_of_ble_eq_true rfl) rfl (fun r0 sh0 I0 L0 R0 hpq => ?_)
    obtain ⟨rfl, rfl, h⟩ := pO hpq
    refine z_if_eq 85 81 dL_law_78 (by decide) rfl (by omega) (fun hz => absurd hz ((by omega))) (fun h78 => ?_)
    refine z_iconst 82 dL_law_81 rfl ?_
    refine z_goto 86 dL_law_82 (by decide) ?_
    refine z_istore3 87 dL_law_86 (Nat.le_of_ble_eq_true rfl) rfl rfl ?_
    refine z_iinc4 90 dL_law_87 (Nat.le_of_ble_eq_true rfl) rfl rfl ?_
    refine z_goto 39 dL_law_90 (by decide) ?_
    exact kr N _ _ _ _ _ _ _ _ _ _ _ (lS_of h hs hsl hI)
theorem tl_law13 (hX : X.1 ≤ 260) (hj : ∀ j, -2147483648 ≤ X.2 j ∧ X.2 j ≤ 2147483647) : ∃ ka, ka ≤ 5 ∧ ∀ (N : Nat → Int) (sh : zH) (I L : zI2) (R : zR2), lT sh I L R zA0 N zz → zE X (mLn nm) (ka + 1) (10 * ka + 5) 13 [zS, zR 0, zR 157, zX, zX, zX, zX, zX, zX, zX, zX, zX] [] sh I L R lEnd := by
  have hnr := vnr_r X
  have hV := vfin_I X
  have hgV := vI_gd (d := zS0 0 8) hV (by omega) (by decide)
  have e7 : zup (vfin X) 0 8 (zS0 0 8) 0 7 = 0 := (zup_ne _ _ (by omega)).trans hV.2.2.1
  obtain ⟨ka, hka, kr⟩ := lp_law39 (nm := nm) hX hj 5 0 (zup (vfin X) 0 8 (zS0 0 8), ([], (none, ([], fun _ => (-1, (0, fun _ => 0)))))) (by omega) hgV (by show zup (vfin X) 0 8 (zS0 0 8) 0 7 ≤ _; omega)
  refine ⟨ka, hka, fun N sh I L R hl => ?_⟩
  have hly := ct_L_lays (X := X) hX hj (S0 := zS0) (shs := fun _ => (-1, (0, fun _ => 0))) hl
  refine z_aload1 14 dL_law_13 rfl ?_
  refine z_aloadS0 15 dL_law_14 rfl ?_
  refine z_aload2 16 dL_law_15 rfl ?_
  refine z_pS3 19 dL_law_16 (zSL_n lk_L_law_73) (hly) rfl (Nat.le_of_ble_eq_true rfl) (Nat.le_of_ble_eq_true rfl) rfl (fun r0 sh0 I0 L0 R0 hpq => ?_)
  obtain ⟨rfl, rfl, N2, hl⟩ := hpq
  obtain ⟨⟨P, hcA⟩, hs, hsl, hI⟩ := id hl
  have h := pH.rf hcA
  have s0 := h.sh0
  have hw : I0 157 0 = (zup (vfin X) 0 8 (zS0 0 8)) 0 6 := by rw [hI]; rfl
  refine z_if_eq 34 22 dL_law_19 (by decide) rfl (by omega) (fun hz => absurd hz ((by omega))) (fun h19 => ?_)
  refine z_aload1 23 dL_law_22 rfl ?_
  refine z_aload2 24 dL_law_23 rfl ?_
  refine z_pS2 27 dL_law_24 (zSL_n lk_L_law_77) (ct_L_stands hs hw hgV h) rfl (Nat.le_of_ble_eq_true rfl) (Nat.le_of_ble_eq_true rfl) rfl (fun r0 sh0 I0 L0 R0 hpq => ?_)
  obtain ⟨rfl, rfl, h⟩ := pO hpq
  refine z_if_eq 34 30 dL_law_27 (by decide) rfl (by omega) (fun hz => absurd hz ((by omega))) (fun h27 => ?_)
  refine z_iconst 31 dL_law_30 rfl ?_
  refine z_goto 35 dL_law_31 (by decide) ?_
  refine z_istore3 36 dL_law_35 (Nat.le_of_ble_eq_true rfl) rfl rfl ?_
  refine z_iconst 37 dL_law_36 rfl ?_
  refine z_istore4 39 dL_law_37 (Nat.le_of_ble_eq_true rfl) rfl rfl ?_
  exact kr N2 _ _ _ _ _ _ _ _ _ _ _ (lS_of h hs hsl hI)
theorem z_pI0 {M M' : zM} {pc k' w' K Wd : Nat} {sh : zH} {I L : zI2} {R : zR2} {ls : List zV} {Q Q' : zQ} (nx k w : Nat) {idx o : Nat} {rest ls' : List zV} (hd : decode (zmc M) pc = .ok (.invokespecial idx, 3)) (hL : zIL M idx M' 0) (hk : k + k' = K) (hw : w + w' = Wd) (hcal : zE X M' k' w' 0 ls' [] sh I L R Q') (hent : zent (zml M') [zR o] = ls') (hwd : zwords [zR o] ≤ zml M') (hrest : zwords rest ≤ 8) (hn : pc + 3 = nx) (kk : ∀ (r : List zV) (sh' : zH) (I' L' : zI2) (R' : zR2), Q' r sh' I' L' R' → zE X M k w nx ls (r ++ rest) sh' I' L' R' Q) : zE X M K Wd pc ls (zR o :: rest) sh I L R Q := by
  subst hk; subst hw
  exact z_invI (k := k) (w := w) nx (as := []) (rest := rest) hd hL hcal hent hwd rfl rfl hrest hn kk
theorem wpk_0 : wpk (fun _ => 0) zz = fun _ => 0 := by
  funext c
  unfold wpk zz
  repeat' split
  all_goals rfl
theorem law_start (hX : X.1 ≤ 260) (hj : ∀ j, -2147483648 ≤ X.2 j ∧ X.2 j ≤ 2147483647) : ∃ ka, ka ≤ 5 ∧ zE X (mLn nm) (ka + 159) (10 * ka + 1284) 0 [zS, zX, zX, zX, zX, zX, zX, zX, zX, zX, zX, zX] [] [] (fun _ _ => 0) (fun _ _ => 0) (fun _ _ => none) lEnd := by
  obtain ⟨ka, hka, kr⟩ := tl_law13 (nm := nm) hX hj
  refine ⟨ka, hka, ?_⟩
  refine z_newX 3 0 (T := TX6) (ci := 6) dL_law_0 rfl cl_RL_10 ib_RX6 it_RX6 (by decide) rfl rfl rfl rfl ?_
  refine z_dup 4 dL_law_3 rfl rfl ?_
  refine z_pI0 7 (ka + 2) (10 * ka + 48) (k' := 156) (w' := 1224) dL_law_4 (zIL_n lk_L_law_72) (by omega) (by omega) ct_X6_init rfl (Nat.le_of_ble_eq_true rfl) (Nat.le_of_ble_eq_true rfl) rfl (fun r0 sh0 I0 L0 R0 hq => ?_)
  obtain ⟨rfl, hR0, hI0⟩ := hq
  have hlen : sh0.length = 157 := hR0.1
  have hc := zIni_CA hR0 hI0
  have hu := pCA_up hc [(20, 43)] (I' := zrow I0 157 fun _ => 0) (L' := zrow L0 157 fun _ => 0) (fun a ha => ⟨zrow_oR _ _ (by omega), zrow_oR _ _ (by omega)⟩) (fun _ _ => rfl)
  have hl : lT (sh0 ++ [(20, 43)]) (zrow I0 157 fun _ => 0) (zrow L0 157 fun _ => 0) R0 zA0 (fun _ => 0) zz := ⟨⟨_, hu⟩, zg_r hlen, by rw [List.length_append, hlen]; decide, by rw [wpk_0]; funext c; exact zrow_at _ _ _ _⟩
  refine z_astore1 8 dL_law_7 (Nat.le_of_ble_eq_true rfl) rfl rfl ?_
  refine z_bipush 10 dL_law_8 (by decide) rfl ?_
  refine z_newaX 12 157 43 dL_law_10 (Or.inl ⟨rfl, rfl⟩) ac_int rfl (by decide) hlen rfl rfl rfl ?_
  refine z_astore2 13 dL_law_12 (Nat.le_of_ble_eq_true rfl) rfl rfl ?_
  exact kr _ _ _ _ _ hl
end LAWB
