section MODS
variable {X : zXs} {sh : zH} {I L : zI2} {R : zR2} {A : zA}
theorem lp_X7_rain61 {r c w a b : Int} {s : Nat} {J : zI2} {N : Nat → Int} {F : zT} {p0 : Int} {Q : zQ} (hM : zMs sh R) (hs : s < 1024) (hc : 0 ≤ c ∧ c ≤ 10) (kk : ∀ z12 z13 : zV, zE X mX7_rain 0 0 157 [zR 157, zI r, zI c, zI w, zL a, zX, zL b, zX, zI (s : Int), zL p0, zX, zI 10, z12, z13] [] sh (mN J N F) L R Q) : ∀ (m t : Nat) (p : Int) (S : zT) (z12 z13 : zV), t + m = 10 → zSr S → rwS m t (s / 2 ^ t) S = F → p * ppu c m (s / 2 ^ t) = p0 → zE X mX7_rain 0 0 61 [zR 157, zI r, zI c, zI w, zL a, zX, zL b, zX, zI (s : Int), zL p, zX, zI (t : Int), z12, z13] [] sh (mN J N S) L R Q
  | 0, t, p, S, z12, z13, ht, hS, hF, hp => by
    have e : t = 10 := by omega
    subst e
    have e1 : rwS 0 10 (s / 2 ^ 10) S = S := rfl
    have e2 : p * ppu c 0 (s / 2 ^ 10) = p := Int.mul_one p
    rw [e1] at hF
    rw [e2] at hp
    subst hF hp
    refine z_iload11 63 dX7_rain_61 rfl ?_
    refine z_bipush 65 dX7_rain_63 (by decide) rfl ?_
    refine z_icmp_ge 157 68 dX7_rain_65 (by decide) rfl (by omega) (by omega) (fun h65 => ?_) (fun hz => absurd hz (by omega))
    exact kk _ _
  | m + 1, t, p, S, z12, z13, ht, hS, hF, hp => by
    obtain ⟨⟨s0, s1, s2, s3, s4, s5, s6, s7, s8, s9, s10, s11, s12, s13, s14, s15⟩, r0, r1, r2, r3, r4, r5, r6, r7, r8, r9, r10, r11, r12, r13, r14⟩ := id hM
    have hb := zbit ⟨s, hs⟩ ⟨t, by omega⟩
    simp only at hb
    have hg := hS.2.1 t (by omega)
    have hx : nix (3 + t) 1 t := Or.inr (Or.inr (Or.inr (Or.inl ⟨rfl, rfl, by omega⟩)))
    have hr := rdw_r (S := S) (s / 2 ^ t) hg
    have er : rdw S t (s / 2 ^ t) = if s / 2 ^ t % 2 = 1 then rwet (S 1 t) else S 1 t := rfl
    have e2 : s / 2 ^ t / 2 = s / 2 ^ (t + 1) := by rw [Nat.pow_succ, Nat.div_div_eq_div_mul]
    have ef : rwS (m + 1) t (s / 2 ^ t) S = rwS m (t + 1) (s / 2 ^ t / 2) (zup S 1 t (rdw S t (s / 2 ^ t))) := rfl
    have ep : ppu c (m + 1) (s / 2 ^ t) = (if s / 2 ^ t % 2 = 1 then c else 10 - c) * ppu c m (s / 2 ^ t / 2) := rfl
    rw [ef, e2] at hF
    rw [ep, e2, ← Int.mul_assoc] at hp
    have ih := fun p z12 z13 => lp_X7_rain61 hM hs hc kk m (t + 1) p (zup S 1 t (rdw S t (s / 2 ^ t))) z12 z13 (by omega) (zSr_up1 hS t hr) hF
    unfold rwet at er
    have hbr : s / 2 ^ t % 2 = 0 ∨ s / 2 ^ t % 2 = 1 := by omega
    generalize s / 2 ^ t % 2 = d at hb er hp hbr
    generalize rdw S t (s / 2 ^ t) = g at ih er hr
    rcases hbr with hd | hd
    · subst hd
      rw [if_neg (by decide)] at hp er
      subst er
      refine z_iload11 63 dX7_rain_61 rfl ?_
      refine z_bipush 65 dX7_rain_63 (by decide) rfl ?_
      refine z_icmp_ge 157 68 dX7_rain_65 (by decide) rfl (by omega) (by omega) (fun hz => absurd hz (by omega)) (fun h65 => ?_)
      refine z_iload8 70 dX7_rain_68 rfl ?_
      refine z_iload11 72 dX7_rain_70 rfl ?_
      refine z_ishr 73 dX7_rain_72 rfl ?_
      refine z_iconst 74 dX7_rain_73 rfl ?_
      refine z_iand 75 dX7_rain_74 rfl ?_
      rw [hb]
      refine z_iconst 76 dX7_rain_75 rfl ?_
      refine z_icmp_ne 83 79 dX7_rain_76 (by decide) rfl (by omega) (by omega) (fun h76 => ?_) (fun hz => absurd hz (by omega))
      refine z_iconst 84 dX7_rain_83 rfl ?_
      refine z_istore12 86 dX7_rain_84 (Nat.le_of_ble_eq_true rfl) rfl rfl ?_
      refine z_aload0 87 dX7_rain_86 rfl ?_
      refine z_getR 90 dX7_rain_87 fl_RX7_7 (by assumption) (by assumption) rfl ?_
      refine z_iconst 91 dX7_rain_90 rfl ?_
      refine z_iload11 93 dX7_rain_91 rfl ?_
      refine z_iadd 94 dX7_rain_93 rfl ?_
      refine z_ialdx 95 (3 + t) dX7_rain_94 (by assumption) (by omega) (by omega) (mN_r _ _ _ (by omega)) rfl ?_
      refine z_iload12 97 dX7_rain_95 rfl ?_
      refine z_if_eq 104 100 dX7_rain_97 (by decide) rfl (by omega) (fun h97 => ?_) (fun hz => absurd hz (by omega))
      refine z_iconst 105 dX7_rain_104 rfl ?_
      refine z_iadd 106 dX7_rain_105 rfl ?_
      rw [show S 1 t + 0 = S 1 t by omega]
      refine z_istore13 108 dX7_rain_106 (Nat.le_of_ble_eq_true rfl) rfl rfl ?_
      refine z_lload9 110 dX7_rain_108 rfl ?_
      refine z_iload12 112 dX7_rain_110 rfl ?_
      refine z_if_eq 120 115 dX7_rain_112 (by decide) rfl (by omega) (fun h112 => ?_) (fun hz => absurd hz (by omega))
      refine z_bipush 122 dX7_rain_120 (by decide) rfl ?_
      refine z_iload2 123 dX7_rain_122 rfl ?_
      refine z_isub 124 dX7_rain_123 rfl ?_
      refine z_i2l 125 dX7_rain_124 (by omega) rfl ?_
      refine z_lmul 126 dX7_rain_125 rfl ?_
      refine z_lstore9 128 dX7_rain_126 (Nat.le_of_ble_eq_true rfl) rfl rfl ?_
      refine z_aload0 129 dX7_rain_128 rfl ?_
      refine z_getR 132 dX7_rain_129 fl_RX7_7 (by assumption) (by assumption) rfl ?_
      refine z_iconst 133 dX7_rain_132 rfl ?_
      refine z_iload11 135 dX7_rain_133 rfl ?_
      refine z_iadd 136 dX7_rain_135 rfl ?_
      refine z_iload13 138 dX7_rain_136 rfl ?_
      refine z_bipush 140 dX7_rain_138 (by decide) rfl ?_
      refine z_icmp_le 148 143 dX7_rain_140 (by decide) rfl (by omega) (by omega) (fun h140 => ?_) (fun hz => absurd hz (by omega))
      refine z_iload13 150 dX7_rain_148 rfl ?_
      refine z_iastx 151 (3 + t) dX7_rain_150 (by assumption) (by omega) (by omega) (mN_up _ _ _ (i := 1) (j := t) hx _) rfl ?_
      refine z_iinc11 154 dX7_rain_151 (Nat.le_of_ble_eq_true rfl) rfl rfl ?_
      refine z_goto 61 dX7_rain_154 (by decide) ?_
      exact ih _ _ _ hp
    · subst hd
      rw [if_pos rfl] at hp er
      have k2 := fun z12 z13 => ih (p * c) z12 z13 hp
      by_cases h9 : S 1 t + 2 ≤ 9
      · rw [show g = S 1 t + 2 by rw [er]; split <;> omega] at k2
        refine z_iload11 63 dX7_rain_61 rfl ?_
        refine z_bipush 65 dX7_rain_63 (by decide) rfl ?_
        refine z_icmp_ge 157 68 dX7_rain_65 (by decide) rfl (by omega) (by omega) (fun hz => absurd hz (by omega)) (fun h65 => ?_)
        refine z_iload8 70 dX7_rain_68 rfl ?_
        refine z_iload11 72 dX7_rain_70 rfl ?_
        refine z_ishr 73 dX7_rain_72 rfl ?_
        refine z_iconst 74 dX7_rain_73 rfl ?_
        refine z_iand 75 dX7_rain_74 rfl ?_
        rw [hb]
        refine z_iconst 76 dX7_rain_75 rfl ?_
        refine z_icmp_ne 83 79 dX7_rain_76 (by decide) rfl (by omega) (by omega) (fun hz => absurd hz (by omega)) (fun h76 => ?_)
        refine z_iconst 80 dX7_rain_79 rfl ?_
        refine z_goto 84 dX7_rain_80 (by decide) ?_
        refine z_istore12 86 dX7_rain_84 (Nat.le_of_ble_eq_true rfl) rfl rfl ?_
        refine z_aload0 87 dX7_rain_86 rfl ?_
        refine z_getR 90 dX7_rain_87 fl_RX7_7 (by assumption) (by assumption) rfl ?_
        refine z_iconst 91 dX7_rain_90 rfl ?_
        refine z_iload11 93 dX7_rain_91 rfl ?_
        refine z_iadd 94 dX7_rain_93 rfl ?_
        refine z_ialdx 95 (3 + t) dX7_rain_94 (by assumption) (by omega) (by omega) (mN_r _ _ _ (by omega)) rfl ?_
        refine z_iload12 97 dX7_rain_95 rfl ?_
        refine z_if_eq 104 100 dX7_rain_97 (by decide) rfl (by omega) (fun hz => absurd hz (by omega)) (fun h97 => ?_)
        refine z_iconst 101 dX7_rain_100 rfl ?_
        refine z_goto 105 dX7_rain_101 (by decide) ?_
        refine z_iadd 106 dX7_rain_105 rfl ?_
        refine z_istore13 108 dX7_rain_106 (Nat.le_of_ble_eq_true rfl) rfl rfl ?_
        refine z_lload9 110 dX7_rain_108 rfl ?_
        refine z_iload12 112 dX7_rain_110 rfl ?_
        refine z_if_eq 120 115 dX7_rain_112 (by decide) rfl (by omega) (fun hz => absurd hz (by omega)) (fun h112 => ?_)
        refine z_iload2 116 dX7_rain_115 rfl ?_
        refine z_i2l 117 dX7_rain_116 (by omega) rfl ?_
        refine z_goto 125 dX7_rain_117 (by decide) ?_
        refine z_lmul 126 dX7_rain_125 rfl ?_
        refine z_lstore9 128 dX7_rain_126 (Nat.le_of_ble_eq_true rfl) rfl rfl ?_
        refine z_aload0 129 dX7_rain_128 rfl ?_
        refine z_getR 132 dX7_rain_129 fl_RX7_7 (by assumption) (by assumption) rfl ?_
        refine z_iconst 133 dX7_rain_132 rfl ?_
        refine z_iload11 135 dX7_rain_133 rfl ?_
        refine z_iadd 136 dX7_rain_135 rfl ?_
        refine z_iload13 138 dX7_rain_136 rfl ?_
        refine z_bipush 140 dX7_rain_138 (by decide) rfl ?_
        refine z_icmp_le 148 143 dX7_rain_140 (by decide) rfl (by omega) (by omega) (fun h140 => ?_) (fun hz => absurd hz (by omega))
        refine z_iload13 150 dX7_rain_148 rfl ?_
        refine z_iastx 151 (3 + t) dX7_rain_150 (by assumption) (by omega) (by omega) (mN_up _ _ _ (i := 1) (j := t) hx _) rfl ?_
        refine z_iinc11 154 dX7_rain_151 (Nat.le_of_ble_eq_true rfl) rfl rfl ?_
        refine z_goto 61 dX7_rain_154 (by decide) ?_
        exact k2 _ _
      · rw [show g = 9 by rw [er]; split <;> omega] at k2
        refine z_iload11 63 dX7_rain_61 rfl ?_
        refine z_bipush 65 dX7_rain_63 (by decide) rfl ?_
        refine z_icmp_ge 157 68 dX7_rain_65 (by decide) rfl (by omega) (by omega) (fun hz => absurd hz (by omega)) (fun h65 => ?_)
        refine z_iload8 70 dX7_rain_68 rfl ?_
        refine z_iload11 72 dX7_rain_70 rfl ?_
        refine z_ishr 73 dX7_rain_72 rfl ?_
        refine z_iconst 74 dX7_rain_73 rfl ?_
        refine z_iand 75 dX7_rain_74 rfl ?_
        rw [hb]
        refine z_iconst 76 dX7_rain_75 rfl ?_
        refine z_icmp_ne 83 79 dX7_rain_76 (by decide) rfl (by omega) (by omega) (fun hz => absurd hz (by omega)) (fun h76 => ?_)
        refine z_iconst 80 dX7_rain_79 rfl ?_
        refine z_goto 84 dX7_rain_80 (by decide) ?_
        refine z_istore12 86 dX7_rain_84 (Nat.le_of_ble_eq_true rfl) rfl rfl ?_
        refine z_aload0 87 dX7_rain_86 rfl ?_
        refine z_getR 90 dX7_rain_87 fl_RX7_7 (by assumption) (by assumption) rfl ?_
        refine z_iconst 91 dX7_rain_90 rfl ?_
        refine z_iload11 93 dX7_rain_91 rfl ?_
        refine z_iadd 94 dX7_rain_93 rfl ?_
        refine z_ialdx 95 (3 + t) dX7_rain_94 (by assumption) (by omega) (by omega) (mN_r _ _ _ (by omega)) rfl ?_
        refine z_iload12 97 dX7_rain_95 rfl ?_
        refine z_if_eq 104 100 dX7_rain_97 (by decide) rfl (by omega) (fun hz => absurd hz (by omega)) (fun h97 => ?_)
        refine z_iconst 101 dX7_rain_100 rfl ?_
        refine z_goto 105 dX7_rain_101 (by decide) ?_
        refine z_iadd 106 dX7_rain_105 rfl ?_
        refine z_istore13 108 dX7_rain_106 (Nat.le_of_ble_eq_true rfl) rfl rfl ?_
        refine z_lload9 110 dX7_rain_108 rfl ?_
        refine z_iload12 112 dX7_rain_110 rfl ?_
        refine z_if_eq 120 115 dX7_rain_112 (by decide) rfl (by omega) (fun hz => absurd hz (by omega)) (fun h112 => ?_)
        refine z_iload2 116 dX7_rain_115 rfl ?_
        refine z_i2l 117 dX7_rain_116 (by omega) rfl ?_
        refine z_goto 125 dX7_rain_117 (by decide) ?_
        refine z_lmul 126 dX7_rain_125 rfl ?_
        refine z_lstore9 128 dX7_rain_126 (Nat.le_of_ble_eq_true rfl) rfl rfl ?_
        refine z_aload0 129 dX7_rain_128 rfl ?_
        refine z_getR 132 dX7_rain_129 fl_RX7_7 (by assumption) (by assumption) rfl ?_
        refine z_iconst 133 dX7_rain_132 rfl ?_
        refine z_iload11 135 dX7_rain_133 rfl ?_
        refine z_iadd 136 dX7_rain_135 rfl ?_
        refine z_iload13 138 dX7_rain_136 rfl ?_
        refine z_bipush 140 dX7_rain_138 (by decide) rfl ?_
        refine z_icmp_le 148 143 dX7_rain_140 (by decide) rfl (by omega) (by omega) (fun hz => absurd hz (by omega)) (fun h140 => ?_)
        refine z_bipush 145 dX7_rain_143 (by decide) rfl ?_
        refine z_goto 150 dX7_rain_145 (by decide) ?_
        refine z_iastx 151 (3 + t) dX7_rain_150 (by assumption) (by omega) (by omega) (mN_up _ _ _ (i := 1) (j := t) hx _) rfl ?_
        refine z_iinc11 154 dX7_rain_151 (Nat.le_of_ble_eq_true rfl) rfl rfl ?_
        refine z_goto 61 dX7_rain_154 (by decide) ?_
        exact k2 _ _
theorem tl_X7_rain157 {r s : Nat} {c w a b p e : Int} {z12 z13 : zV} {J : zI2} {K : zI2} {Q : zQ} (hM : zMs sh R) (kw : zE X mX7_would 0 0 0 [zR 157, zI (r : Int), zX] [] sh J L R (zEq [zI e] sh K L R)) (hs : s < 1024) (kk : ∀ z9 z10 z11 z12 z13 : zV, zE X mX7_rain 0 0 47 [zR 157, zI (r : Int), zI c, zI w, zL (a + (if e < 8 then p else 0)), zX, zL (b + p), zX, zI ((s + 1 : Nat) : Int), z9, z10, z11, z12, z13] [] sh K L R Q) (he : 0 ≤ e ∧ e ≤ 19) : zE X mX7_rain 0 0 157 [zR 157, zI (r : Int), zI c, zI w, zL a, zX, zL b, zX, zI (s : Int), zL p, zX, zI 10, z12, z13] [] sh J L R Q := by
  have s0 := hM.1.1
  by_cases h8 : e < 8
  · rw [if_pos h8] at kk
    refine z_lload6 159 dX7_rain_157 rfl ?_
    refine z_lload9 161 dX7_rain_159 rfl ?_
    refine z_ladd 162 dX7_rain_161 rfl ?_
    refine z_lstore6 164 dX7_rain_162 (Nat.le_of_ble_eq_true rfl) rfl rfl ?_
    refine z_lload4 166 dX7_rain_164 rfl ?_
    refine z_aload0 167 dX7_rain_166 rfl ?_
    refine z_iload1 168 dX7_rain_167 rfl ?_
    refine z_xV1 171 dX7_rain_168 lk_X7_rain_184 (kw) rfl (Nat.le_of_ble_eq_true rfl) (Nat.le_of_ble_eq_true rfl) (by assumption) rfl rfl ?_
    refine z_bipush 173 dX7_rain_171 (by decide) rfl ?_
    refine z_icmp_ge 181 176 dX7_rain_173 (by decide) rfl (by omega) (by omega) (fun hz => absurd hz (by omega)) (fun h173 => ?_)
    refine z_lload9 178 dX7_rain_176 rfl ?_
    refine z_goto 182 dX7_rain_178 (by decide) ?_
    refine z_ladd 183 dX7_rain_182 rfl ?_
    refine z_lstore4 185 dX7_rain_183 (Nat.le_of_ble_eq_true rfl) rfl rfl ?_
    refine z_iinc8 188 dX7_rain_185 (Nat.le_of_ble_eq_true rfl) rfl rfl ?_
    refine z_goto 47 dX7_rain_188 (by decide) ?_
    exact kk _ _ _ _ _
  · rw [if_neg h8] at kk
    refine z_lload6 159 dX7_rain_157 rfl ?_
    refine z_lload9 161 dX7_rain_159 rfl ?_
    refine z_ladd 162 dX7_rain_161 rfl ?_
    refine z_lstore6 164 dX7_rain_162 (Nat.le_of_ble_eq_true rfl) rfl rfl ?_
    refine z_lload4 166 dX7_rain_164 rfl ?_
    refine z_aload0 167 dX7_rain_166 rfl ?_
    refine z_iload1 168 dX7_rain_167 rfl ?_
    refine z_xV1 171 dX7_rain_168 lk_X7_rain_184 (kw) rfl (Nat.le_of_ble_eq_true rfl) (Nat.le_of_ble_eq_true rfl) (by assumption) rfl rfl ?_
    refine z_bipush 173 dX7_rain_171 (by decide) rfl ?_
    refine z_icmp_ge 181 176 dX7_rain_173 (by decide) rfl (by omega) (by omega) (fun h173 => ?_) (fun hz => absurd hz (by omega))
    refine z_lconst0 182 dX7_rain_181 rfl ?_
    refine z_ladd 183 dX7_rain_182 rfl ?_
    refine z_lstore4 185 dX7_rain_183 (Nat.le_of_ble_eq_true rfl) rfl rfl ?_
    refine z_iinc8 188 dX7_rain_185 (Nat.le_of_ble_eq_true rfl) rfl rfl ?_
    refine z_goto 47 dX7_rain_188 (by decide) ?_
    exact kk _ _ _ _ _
theorem lp_X7_rain47 {r : Nat} {c w : Int} {Q : zQ} (h : mCA sh R I L A) (hu : zuq A.1) (hr : (r : Int) < A.1 0 6) (hc : 0 ≤ c ∧ c ≤ 10) (kk : ∀ (J : zI2) (z9 z10 z11 z12 z13 : zV), mFo I J → zE X mX7_rain 0 0 191 [zR 157, zI (r : Int), zI c, zI w, zL (usm (fun u => ppu c 10 u * thu (nvw (I 158)) r 10 0 2 u) 1024), zX, zL (usm (ppu c 10) 1024), zX, zI 1024, z9, z10, z11, z12, z13] [] sh (mN J (I 158) (nvw (I 158))) L R Q) : ∀ (m s : Nat) (J : zI2) (z9 z10 z11 z12 z13 : zV), s + m = 1024 → mFo I J → zE X mX7_rain 0 0 47 [zR 157, zI (r : Int), zI c, zI w, zL (usm (fun u => ppu c 10 u * thu (nvw (I 158)) r 10 0 2 u) s), zX, zL (usm (ppu c 10) s), zX, zI (s : Int), z9, z10, z11, z12, z13] [] sh (mN J (I 158) (nvw (I 158))) L R Q
  | 0, s, J, z9, z10, z11, z12, z13, hs, hJ => by
    have e : s = 1024 := by omega
    subst e
    refine z_iload8 49 dX7_rain_47 rfl ?_
    refine z_sipush 52 dX7_rain_49 (by decide) rfl ?_
    refine z_icmp_ge 191 55 dX7_rain_52 (by decide) rfl (by omega) (by omega) (fun h52 => ?_) (fun hz => absurd hz (by omega))
    exact kk _ _ _ _ _ _ hJ
  | m + 1, s, J, z9, z10, z11, z12, z13, hs, hJ => by
    obtain ⟨hM, hN, hHis, hKep, hTap, hShe⟩ := id h
    obtain ⟨⟨s0, s1, s2, s3, s4, s5, s6, s7, s8, s9, s10, s11, s12, s13, s14, s15⟩, r0, r1, r2, r3, r4, r5, r6, r7, r8, r9, r10, r11, r12, r13, r14⟩ := id hM
    obtain ⟨⟨hSr, hS7, hS8⟩, hQ⟩ := id hN
    have e6 := hQ.1.1
    have hn5 := hSr.1
    have hSi := rwS_sr 10 0 s (nvw (I 158)) (by omega) hSr
    obtain ⟨B', hJ2, hB, kw⟩ := fo_would (X := X) (L := L) (S := rwS 10 0 s (nvw (I 158))) (r := r) hM hJ (by omega) hSi (rwS_uq 10 0 s _ (zuq_q hQ hu)) (by rw [rwS_o (by decide)]; omega)
    have ht := thu_f (u := s) hSr (r := r) (by omega)
    have hsf := sfe_r (rwS 10 0 s (nvw (I 158))) r hSi (by omega)
    have ih := fun z9 z10 z11 z12 z13 => lp_X7_rain47 h hu hr hc kk m (s + 1) (zrow J 159 B') z9 z10 z11 z12 z13 (by omega) hJ2
    have ea : usm (fun u => ppu c 10 u * thu (nvw (I 158)) r 10 0 2 u) (s + 1) = usm (fun u => ppu c 10 u * thu (nvw (I 158)) r 10 0 2 u) s + ppu c 10 s * thu (nvw (I 158)) r 10 0 2 s := rfl
    have eb : usm (ppu c 10) (s + 1) = usm (ppu c 10) s + ppu c 10 s := rfl
    rw [ea, eb] at ih
    generalize usm (fun u => ppu c 10 u * thu (nvw (I 158)) r 10 0 2 u) s = a at ih ⊢
    generalize usm (ppu c 10) s = b at ih ⊢
    refine z_iload8 49 dX7_rain_47 rfl ?_
    refine z_sipush 52 dX7_rain_49 (by decide) rfl ?_
    refine z_icmp_ge 191 55 dX7_rain_52 (by decide) rfl (by omega) (by omega) (fun hz => absurd hz (by omega)) (fun h52 => ?_)
    refine z_lconst1 56 dX7_rain_55 rfl ?_
    refine z_lstore9 58 dX7_rain_56 (Nat.le_of_ble_eq_true rfl) rfl rfl ?_
    refine z_iconst 59 dX7_rain_58 rfl ?_
    refine z_istore11 61 dX7_rain_59 (Nat.le_of_ble_eq_true rfl) rfl rfl ?_
    refine lp_X7_rain61 (J := J) (N := I 158) (F := rwS 10 0 s (nvw (I 158))) (p0 := ppu c 10 s) hM (by omega) hc (fun z12 z13 => ?_) 10 0 1 (nvw (I 158)) _ _ rfl hSr (by rw [Nat.pow_zero, Nat.div_one]) (by rw [Nat.pow_zero, Nat.div_one, Int.one_mul])
    exact tl_X7_rain157 hM kw (by omega) (fun z9 z10 z11 z12 z13 => by
      have k2 := ih z9 z10 z11 z12 z13
      rcases ht with ⟨t1, t2, t3⟩ | ⟨t1, t2⟩
      · rw [t3, Int.mul_one] at k2
        rw [if_pos (by omega)]
        exact k2
      · rw [t2, Int.mul_zero] at k2
        rw [if_neg (by omega)]
        exact k2) (by omega)
theorem lp_X7_rain199 {r c w a0 b0 : Int} {J : zI2} {Q : zQ} {g : Nat} (kk : ∀ (z10 z11 z12 z13 : zV), zE X mX7_rain 0 0 224 [zR 157, zI r, zI c, zI w, zL a0, zX, zL b0, zX, zL (g : Int), zX, z10, z11, z12, z13] [] sh J L R Q) : ∀ (k a b : Nat) (z12 z13 : zV), b ≤ k → a ≤ 10000000000 → b ≤ 10000000000 → Nat.gcd a b = g → zE X mX7_rain 0 0 199 [zR 157, zI r, zI c, zI w, zL a0, zX, zL b0, zX, zL (a : Int), zX, zL (b : Int), zX, z12, z13] [] sh J L R Q
  | 0, a, b, z12, z13, hk, ha, hb, hg => by
    have e : b = 0 := by omega
    subst e
    rw [Nat.gcd_zero_right] at hg
    subst hg
    have e0 : zcmpL ((0 : Nat) : Int) 0 = 0 := rfl
    refine z_lload10 201 dX7_rain_199 rfl ?_
    refine z_lconst0 202 dX7_rain_201 rfl ?_
    refine z_lcmp 203 dX7_rain_202 (by omega) (by omega) rfl ?_
    rw [e0]
    refine z_if_eq 224 206 dX7_rain_203 (by decide) rfl (by omega) (fun h203 => ?_) (fun hz => absurd hz (by omega))
    exact kk _ _ _ _
  | k + 1, a, b, z12, z13, hk, ha, hb, hg => by
    by_cases h0 : b = 0
    · subst h0
      rw [Nat.gcd_zero_right] at hg
      subst hg
      have e0 : zcmpL ((0 : Nat) : Int) 0 = 0 := rfl
      refine z_lload10 201 dX7_rain_199 rfl ?_
      refine z_lconst0 202 dX7_rain_201 rfl ?_
      refine z_lcmp 203 dX7_rain_202 (by omega) (by omega) rfl ?_
      rw [e0]
      refine z_if_eq 224 206 dX7_rain_203 (by decide) rfl (by omega) (fun h203 => ?_) (fun hz => absurd hz (by omega))
      exact kk _ _ _ _
    · have hlt : a % b < b := Nat.mod_lt a (by omega)
      have hz : ¬ zcmpL (b : Int) 0 = 0 := fun e => h0 (by have := zcm0.mp e; omega)
      have hzr := zcmr (b : Int) 0
      have em : (a : Int) % (b : Int) = ((a % b : Nat) : Int) := rfl
      have ih := fun z12 z13 => lp_X7_rain199 kk k b (a % b) z12 z13 (by omega) hb (by omega) (by rw [← hg, Nat.gcd_comm b, ← Nat.gcd_rec, Nat.gcd_comm])
      refine z_lload10 201 dX7_rain_199 rfl ?_
      refine z_lconst0 202 dX7_rain_201 rfl ?_
      refine z_lcmp 203 dX7_rain_202 (by omega) (by omega) rfl ?_
      refine z_if_eq 224 206 dX7_rain_203 (by decide) rfl (by omega) (fun hz => absurd hz (by omega)) (fun h203 => ?_)
      refine z_lload8 208 dX7_rain_206 rfl ?_
      refine z_lload10 210 dX7_rain_208 rfl ?_
      refine z_lrem 211 dX7_rain_210 (by omega) (by omega) rfl ?_
      refine z_lstore12 213 dX7_rain_211 (Nat.le_of_ble_eq_true rfl) rfl rfl ?_
      refine z_lload10 215 dX7_rain_213 rfl ?_
      refine z_lstore8 217 dX7_rain_215 (Nat.le_of_ble_eq_true rfl) rfl rfl ?_
      refine z_lload12 219 dX7_rain_217 rfl ?_
      refine z_lstore10 221 dX7_rain_219 (Nat.le_of_ble_eq_true rfl) rfl rfl ?_
      refine z_goto 199 dX7_rain_221 (by decide) ?_
      exact ih _ _
theorem tl_X7_rain191 {r c w a b : Int} {z9 z10 z11 z12 z13 : zV} {J : zI2} {Q : zQ} (kk : ∀ z12 z13 : zV, zE X mX7_rain 0 0 199 [zR 157, zI r, zI c, zI w, zL a, zX, zL b, zX, zL a, zX, zL b, zX, z12, z13] [] sh J L R Q) : zE X mX7_rain 0 0 191 [zR 157, zI r, zI c, zI w, zL a, zX, zL b, zX, zI 1024, z9, z10, z11, z12, z13] [] sh J L R Q := by
  refine z_lload4 193 dX7_rain_191 rfl ?_
  refine z_lstore8 195 dX7_rain_193 (Nat.le_of_ble_eq_true rfl) rfl rfl ?_
  refine z_lload6 197 dX7_rain_195 rfl ?_
  refine z_lstore10 199 dX7_rain_197 (Nat.le_of_ble_eq_true rfl) rfl rfl ?_
  exact kk _ _
theorem tl_X7_rain224 {r c w v : Int} {n g : Nat} {z10 z11 z12 z13 : zV} {J : zI2} (h : mCA sh R I L A) (hJ : mFo I J) (hg : 0 < g) (hg2 : g ≤ 10000000000) (hn : n ≤ 10000000000) (hw : 0 ≤ w ∧ w ≤ 1) (hv : v = if w = 0 then ((n / g : Nat) : Int) else ((10000000000 / g : Nat) : Int)) : zE X mX7_rain 0 0 224 [zR 157, zI r, zI c, zI w, zL (n : Int), zX, zL 10000000000, zX, zL (g : Int), zX, z10, z11, z12, z13] [] sh (mN J (I 158) (nvw (I 158))) L R (mOp sh I L R (zL v) A) := by
  refine z_iload3 225 dX7_rain_224 rfl ?_
  refine z_if_ne 236 228 dX7_rain_225 (by decide) rfl (by omega) (fun h225 => ?_) (fun h225 => ?_)
  · refine z_lload6 238 dX7_rain_236 rfl ?_
    refine z_lload8 240 dX7_rain_238 rfl ?_
    refine z_ldiv 241 dX7_rain_240 (by omega) (by omega) rfl ?_
    exact z_lreturn dX7_rain_241 rfl (mOp_fo h hJ (by rw [hv]; first | (rw [if_pos (by omega)]; rfl) | (rw [if_neg (by omega)]; rfl)))
  · refine z_lload4 230 dX7_rain_228 rfl ?_
    refine z_lload8 232 dX7_rain_230 rfl ?_
    refine z_ldiv 233 dX7_rain_232 (by omega) (by omega) rfl ?_
    refine z_goto 241 dX7_rain_233 (by decide) ?_
    exact z_lreturn dX7_rain_241 rfl (mOp_fo h hJ (by rw [hv]; first | (rw [if_pos (by omega)]; rfl) | (rw [if_neg (by omega)]; rfl)))
theorem op_X7_rain {r c w : Int} (h : mCA sh R I L A) (hu : zuq A.1) (hr : -2147483648 ≤ r ∧ r ≤ 2147483647) (hc : -2147483648 ≤ c ∧ c ≤ 2147483647) (hw : -2147483648 ≤ w ∧ w ≤ 2147483647) : zE X mX7_rain 0 0 0 [zR 157, zI r, zI c, zI w, zX, zX, zX, zX, zX, zX, zX, zX, zX, zX] [] sh I L R (mOp sh I L R (zL (oRain A r c w)) A) := by
  obtain ⟨hM, hN, hHis, hKep, hTap, hShe⟩ := id h
  obtain ⟨⟨s0, s1, s2, s3, s4, s5, s6, s7, s8, s9, s10, s11, s12, s13, s14, s15⟩, r0, r1, r2, r3, r4, r5, r6, r7, r8, r9, r10, r11, r12, r13, r14⟩ := id hM
  obtain ⟨⟨hSr, hS7, hS8⟩, hQ⟩ := id hN
  have e6 := hQ.1.1
  have hn5 := hSr.1
  have z1 := zwi_r r 0 (nvw (I 158) 0 6 - 1)
  have z2 := zwi_r c 0 10
  have z3 := zwi_r w 0 1
  refine z_mN ?_
  refine z_aload0 1 dX7_rain_0 rfl ?_
  refine z_iload1 2 dX7_rain_1 rfl ?_
  refine z_xV1 5 dX7_rain_2 lk_X7_rain_94 (ct_X7_isRider hM hn5 hr) rfl (Nat.le_of_ble_eq_true rfl) (Nat.le_of_ble_eq_true rfl) (by assumption) rfl rfl ?_
  refine z_if_eq 30 8 dX7_rain_5 (by decide) rfl (by omega) (fun h5 => ?_) (fun h5 => ?_)
  · have g5 := zwi_eq0 h5
    refine z_ldc2 33 dX7_rain_30 kl_RX7_196 rfl ?_
    exact z_lreturn dX7_rain_33 rfl (mOp_sameN h (by unfold oRain; rw [if_neg (by omega)]))
  · have g5 := zwi_ne0 h5
    refine z_iload2 9 dX7_rain_8 rfl ?_
    refine z_i2l 10 dX7_rain_9 (by omega) rfl ?_
    refine z_lconst0 11 dX7_rain_10 rfl ?_
    refine z_ldc2 14 dX7_rain_11 kl_RX7_194 rfl ?_
    refine z_xS3 17 dX7_rain_14 lk_X7_rain_56 (ct_X7_in (by omega) (by omega) (by omega)) rfl (Nat.le_of_ble_eq_true rfl) (Nat.le_of_ble_eq_true rfl) rfl ?_
    refine z_if_eq 30 20 dX7_rain_17 (by decide) rfl (by omega) (fun h17 => ?_) (fun h17 => ?_)
    · have g17 := zwi_eq0 h17
      refine z_ldc2 33 dX7_rain_30 kl_RX7_196 rfl ?_
      exact z_lreturn dX7_rain_33 rfl (mOp_sameN h (by unfold oRain; rw [if_neg (by omega)]))
    · have g17 := zwi_ne0 h17
      refine z_iload3 21 dX7_rain_20 rfl ?_
      refine z_i2l 22 dX7_rain_21 (by omega) rfl ?_
      refine z_lconst0 23 dX7_rain_22 rfl ?_
      refine z_lconst1 24 dX7_rain_23 rfl ?_
      refine z_xS3 27 dX7_rain_24 lk_X7_rain_56 (ct_X7_in (by omega) (by omega) (by omega)) rfl (Nat.le_of_ble_eq_true rfl) (Nat.le_of_ble_eq_true rfl) rfl ?_
      refine z_if_ne 34 30 dX7_rain_27 (by decide) rfl (by omega) (fun h27 => ?_) (fun h27 => ?_)
      · have g27 := zwi_ne0 h27
        obtain ⟨q, rfl⟩ : ∃ q : Nat, r = (q : Int) := ⟨r.toNat, by omega⟩
        have hb := (rit_end A.1 q (fun _ => 0) (fun _ => 0) g17).2
        have ev : usm (fun u => ppu c 10 u * thu (nvw (I 158)) q 10 0 2 u) 1024 = rfn A.1 q c 10 0 2 := (thu_s (nvw (I 158)) q c 10 0 2).trans (rfn_c hQ (by omega) c 10 0 2 (by omega))
        have eb : usm (ppu c 10) 1024 = 10000000000 := ppu_s c 10
        have eo : oRain A q c w = (if w = 0 then (((rfn A.1 q c 10 0 2).toNat / Nat.gcd (rfn A.1 q c 10 0 2).toNat 10000000000 : Nat) : Int) else ((10000000000 / Nat.gcd (rfn A.1 q c 10 0 2).toNat 10000000000 : Nat) : Int)) := by unfold oRain; rw [if_pos (by omega), Int.toNat_natCast]
        have kl := fun kk => lp_X7_rain47 (X := X) (r := q) (c := c) (w := w) (Q := mOp sh I L R (zL (oRain A q c w)) A) h hu (by omega) g17 kk 1024 0 _ zX zX zX zX zX rfl (mFo_0 I)
        rw [ev, eb] at kl
        generalize rfn A.1 q c 10 0 2 = v at hb eo kl
        obtain ⟨n, rfl⟩ : ∃ n : Nat, v = (n : Int) := ⟨v.toNat, by omega⟩
        rw [Int.toNat_natCast] at eo
        clear ev eb
        refine z_lconst0 35 dX7_rain_34 rfl ?_
        refine z_lstore4 37 dX7_rain_35 (Nat.le_of_ble_eq_true rfl) rfl rfl ?_
        refine z_lconst0 38 dX7_rain_37 rfl ?_
        refine z_lstore6 40 dX7_rain_38 (Nat.le_of_ble_eq_true rfl) rfl rfl ?_
        refine z_aload0 41 dX7_rain_40 rfl ?_
        refine z_xVv0 44 dX7_rain_41 lk_X7_rain_181 (fo_asides hM) rfl (Nat.le_of_ble_eq_true rfl) (Nat.le_of_ble_eq_true rfl) (by assumption) rfl rfl ?_
        refine z_iconst 45 dX7_rain_44 rfl ?_
        refine z_istore8 47 dX7_rain_45 (Nat.le_of_ble_eq_true rfl) rfl rfl ?_
        refine kl (fun J z9 z10 z11 z12 z13 hJ => ?_)
        have hgp : 0 < Nat.gcd n 10000000000 := Nat.gcd_pos_of_pos_right _ (by decide)
        have hgl : Nat.gcd n 10000000000 ≤ 10000000000 := Nat.gcd_le_right _ (by decide)
        exact tl_X7_rain191 (fun z12 z13 => lp_X7_rain199 (g := Nat.gcd n 10000000000) (fun z10 z11 z12 z13 => tl_X7_rain224 h hJ hgp hgl (by omega) g27 (by rw [eo])) 10000000000 n 10000000000 z12 z13 (Nat.le_refl _) (by omega) (Nat.le_refl _) rfl)
      · have g27 := zwi_eq0 h27
        refine z_ldc2 33 dX7_rain_30 kl_RX7_196 rfl ?_
        exact z_lreturn dX7_rain_33 rfl (mOp_sameN h (by unfold oRain; rw [if_neg (by omega)]))
end MODS
