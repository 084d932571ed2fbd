section MODW
variable {X : zXs} {sh : zH} {I L : zI2} {R : zR2} {T : Nat → Int} {n : Nat}
theorem mT_162 (I : zI2) (V : Nat → Int) (k : Nat) (f : Int) (j : Nat) (v : Int) : zup (mT (zrow I 162 V) k f) 162 j v = mT (zrow I 162 (fun q => if q = j then v else V q)) k f := by rw [mT_uo _ _ _ (by decide), zrow_up]
/-- a fault ends it -/
theorem tl_X7_riders168 {r k : Nat} {z2 z3 z4 z5 : zV} (hM : zMs sh R) (hr : r ≤ 10) : zE X mX7_ridersRead 0 0 168 [zR 157, zI (r : Int), z2, z3, z4, z5] [] sh (mT I k 1) L R (zEq [zI ((r + 1 : Nat) : Int)] sh (mT I k 1) L R) := by
  obtain ⟨⟨s0, s1, s2, s3, s4, s5, s6, s7, s8, s9, s10, s11, s12, s13, s14, s15⟩, r0, r1, r2, r3, r4, r5, r6, r7, r8, r9, r10, r11, r12, r13, r14⟩ := id hM
  refine z_aload0 169 dX7_ridersRead_168 rfl ?_
  refine z_getIx 172 dX7_ridersRead_169 fl_RX7_133 (by assumption) (mT_5 _ _ _) rfl ?_
  refine z_if_ne 208 175 dX7_ridersRead_172 (by decide) rfl (by omega) (fun h172 => ?_) (fun hz => absurd hz (by omega))
  refine z_iinc1 211 dX7_ridersRead_208 (Nat.le_of_ble_eq_true rfl) rfl rfl ?_
  refine z_goto 2 dX7_ridersRead_211 (by decide) ?_
  refine z_aload0 3 dX7_ridersRead_2 rfl ?_
  refine z_getIx 6 dX7_ridersRead_3 fl_RX7_133 (by assumption) (mT_5 _ _ _) rfl ?_
  refine z_if_ne 214 9 dX7_ridersRead_6 (by decide) rfl (by omega) (fun h6 => ?_) (fun hz => absurd hz (by omega))
  refine z_iload1 215 dX7_ridersRead_214 rfl ?_
  exact z_ireturn dX7_ridersRead_215 rfl (⟨rfl, rfl, rfl, rfl, rfl⟩)
theorem tl_X7_riders121 {r k : Nat} {c kd : Int} (hM : zMs sh R) (hr : r ≤ 10) (hk : k ≤ 100) : zE X mX7_ridersRead 0 0 121 [zR 157, zI (r : Int), zI c, zI kd, zX, zX] [] sh (mT I k 1) L R (zEq [zI ((r + 1 : Nat) : Int)] sh (mT I k 1) L R) := by
  obtain ⟨⟨s0, s1, s2, s3, s4, s5, s6, s7, s8, s9, s10, s11, s12, s13, s14, s15⟩, r0, r1, r2, r3, r4, r5, r6, r7, r8, r9, r10, r11, r12, r13, r14⟩ := id hM
  refine z_aload0 122 dX7_ridersRead_121 rfl ?_
  refine z_iconst 123 dX7_ridersRead_122 rfl ?_
  refine z_bipush 125 dX7_ridersRead_123 (by decide) rfl ?_
  refine z_xV2 128 dX7_ridersRead_125 lk_X7_ridersRead_151 (ct_X7_number1 hM hk) rfl (Nat.le_of_ble_eq_true rfl) (Nat.le_of_ble_eq_true rfl) (by assumption) rfl rfl ?_
  refine z_istore4 130 dX7_ridersRead_128 (Nat.le_of_ble_eq_true rfl) rfl rfl ?_
  refine z_iconst 131 dX7_ridersRead_130 rfl ?_
  refine z_istore5 133 dX7_ridersRead_131 (Nat.le_of_ble_eq_true rfl) rfl rfl ?_
  refine z_aload0 134 dX7_ridersRead_133 rfl ?_
  refine z_getIx 137 dX7_ridersRead_134 fl_RX7_133 (by assumption) (mT_5 _ _ _) rfl ?_
  refine z_if_ne 168 140 dX7_ridersRead_137 (by decide) rfl (by omega) (fun h137 => ?_) (fun hz => absurd hz (by omega))
  exact tl_X7_riders168 hM hr
theorem tl_X7_riders121' {r k : Nat} {c kd : Int} {z4 z5 : zV} (hM : zMs sh R) (hr : r ≤ 10) (hk : k ≤ 100) : zE X mX7_ridersRead 0 0 121 [zR 157, zI (r : Int), zI c, zI kd, z4, z5] [] sh (mT I k 1) L R (zEq [zI ((r + 1 : Nat) : Int)] sh (mT I k 1) L R) := by
  obtain ⟨⟨s0, s1, s2, s3, s4, s5, s6, s7, s8, s9, s10, s11, s12, s13, s14, s15⟩, r0, r1, r2, r3, r4, r5, r6, r7, r8, r9, r10, r11, r12, r13, r14⟩ := id hM
  refine z_aload0 122 dX7_ridersRead_121 rfl ?_
  refine z_iconst 123 dX7_ridersRead_122 rfl ?_
  refine z_bipush 125 dX7_ridersRead_123 (by decide) rfl ?_
  refine z_xV2 128 dX7_ridersRead_125 lk_X7_ridersRead_151 (ct_X7_number1 hM hk) rfl (Nat.le_of_ble_eq_true rfl) (Nat.le_of_ble_eq_true rfl) (by assumption) rfl rfl ?_
  refine z_istore4 130 dX7_ridersRead_128 (Nat.le_of_ble_eq_true rfl) rfl rfl ?_
  refine z_iconst 131 dX7_ridersRead_130 rfl ?_
  refine z_istore5 133 dX7_ridersRead_131 (Nat.le_of_ble_eq_true rfl) rfl rfl ?_
  refine z_aload0 134 dX7_ridersRead_133 rfl ?_
  refine z_getIx 137 dX7_ridersRead_134 fl_RX7_133 (by assumption) (mT_5 _ _ _) rfl ?_
  refine z_if_ne 168 140 dX7_ridersRead_137 (by decide) rfl (by omega) (fun h137 => ?_) (fun hz => absurd hz (by omega))
  exact tl_X7_riders168 hM hr
/-- the kind, as the reference reads it -/
def mkd (c : Int) : Int := if c = 112 then 0 else if c = 115 then 1 else if c = 99 then 2 else if c = 110 then 3 else if c = 107 then 4 else -1
theorem mkd_r (c : Int) : (tkd c = -4 ∧ mkd c = -1) ∨ (tkd c = mkd c ∧ 0 ≤ mkd c ∧ mkd c ≤ 4) := by
  unfold tkd mkd
  repeat' split
  all_goals omega
theorem tl_X7_riders55 {r : Nat} {c : Int} {z2 z3 z4 z5 : zV} {J : zI2} {Q : zQ} (hz : zl z2 = false ∧ zl z3 = false) (hc : 0 ≤ c ∧ c ≤ 200) (kk : zE X mX7_ridersRead 0 0 108 [zR 157, zI (r : Int), zI c, zI (mkd c), z4, z5] [] sh J L R Q) : zE X mX7_ridersRead 0 0 55 [zR 157, zI (r : Int), z2, z3, z4, z5] [zI c] sh J L R Q := by
  unfold mkd at kk
  refine z_istore2 56 dX7_ridersRead_55 (Nat.le_of_ble_eq_true rfl) rfl rfl ?_
  refine z_iload2 57 dX7_ridersRead_56 rfl ?_
  refine z_bipush 59 dX7_ridersRead_57 (by decide) rfl ?_
  refine z_icmp_ne 66 62 dX7_ridersRead_59 (by decide) rfl (by omega) (by omega) (fun h59 => ?_) (fun h59 => ?_)
  · refine z_iload2 67 dX7_ridersRead_66 rfl ?_
    refine z_bipush 69 dX7_ridersRead_67 (by decide) rfl ?_
    refine z_icmp_ne 76 72 dX7_ridersRead_69 (by decide) rfl (by omega) (by omega) (fun h69 => ?_) (fun h69 => ?_)
    · refine z_iload2 77 dX7_ridersRead_76 rfl ?_
      refine z_bipush 79 dX7_ridersRead_77 (by decide) rfl ?_
      refine z_icmp_ne 86 82 dX7_ridersRead_79 (by decide) rfl (by omega) (by omega) (fun h79 => ?_) (fun h79 => ?_)
      · refine z_iload2 87 dX7_ridersRead_86 rfl ?_
        refine z_bipush 89 dX7_ridersRead_87 (by decide) rfl ?_
        refine z_icmp_ne 96 92 dX7_ridersRead_89 (by decide) rfl (by omega) (by omega) (fun h89 => ?_) (fun h89 => ?_)
        · refine z_iload2 97 dX7_ridersRead_96 rfl ?_
          refine z_bipush 99 dX7_ridersRead_97 (by decide) rfl ?_
          refine z_icmp_ne 106 102 dX7_ridersRead_99 (by decide) rfl (by omega) (by omega) (fun h99 => ?_) (fun h99 => ?_)
          · refine z_iconst 107 dX7_ridersRead_106 rfl ?_
            refine z_istore3 108 dX7_ridersRead_107 (Nat.le_of_ble_eq_true rfl) rfl rfl ?_
            first
              | (rw [if_pos (by omega)] at kk; exact kk)
              | (rw [if_neg (by omega), if_pos (by omega)] at kk; exact kk)
              | (rw [if_neg (by omega), if_neg (by omega), if_pos (by omega)] at kk; exact kk)
              | (rw [if_neg (by omega), if_neg (by omega), if_neg (by omega), if_pos (by omega)] at kk; exact kk)
              | (rw [if_neg (by omega), if_neg (by omega), if_neg (by omega), if_neg (by omega), if_pos (by omega)] at kk; exact kk)
              | (rw [if_neg (by omega), if_neg (by omega), if_neg (by omega), if_neg (by omega), if_neg (by omega)] at kk; exact kk)
          · refine z_iconst 103 dX7_ridersRead_102 rfl ?_
            refine z_goto 107 dX7_ridersRead_103 (by decide) ?_
            refine z_istore3 108 dX7_ridersRead_107 (Nat.le_of_ble_eq_true rfl) rfl rfl ?_
            first
              | (rw [if_pos (by omega)] at kk; exact kk)
              | (rw [if_neg (by omega), if_pos (by omega)] at kk; exact kk)
              | (rw [if_neg (by omega), if_neg (by omega), if_pos (by omega)] at kk; exact kk)
              | (rw [if_neg (by omega), if_neg (by omega), if_neg (by omega), if_pos (by omega)] at kk; exact kk)
              | (rw [if_neg (by omega), if_neg (by omega), if_neg (by omega), if_neg (by omega), if_pos (by omega)] at kk; exact kk)
              | (rw [if_neg (by omega), if_neg (by omega), if_neg (by omega), if_neg (by omega), if_neg (by omega)] at kk; exact kk)
        · refine z_iconst 93 dX7_ridersRead_92 rfl ?_
          refine z_goto 107 dX7_ridersRead_93 (by decide) ?_
          refine z_istore3 108 dX7_ridersRead_107 (Nat.le_of_ble_eq_true rfl) rfl rfl ?_
          first
            | (rw [if_pos (by omega)] at kk; exact kk)
            | (rw [if_neg (by omega), if_pos (by omega)] at kk; exact kk)
            | (rw [if_neg (by omega), if_neg (by omega), if_pos (by omega)] at kk; exact kk)
            | (rw [if_neg (by omega), if_neg (by omega), if_neg (by omega), if_pos (by omega)] at kk; exact kk)
            | (rw [if_neg (by omega), if_neg (by omega), if_neg (by omega), if_neg (by omega), if_pos (by omega)] at kk; exact kk)
            | (rw [if_neg (by omega), if_neg (by omega), if_neg (by omega), if_neg (by omega), if_neg (by omega)] at kk; exact kk)
      · refine z_iconst 83 dX7_ridersRead_82 rfl ?_
        refine z_goto 107 dX7_ridersRead_83 (by decide) ?_
        refine z_istore3 108 dX7_ridersRead_107 (Nat.le_of_ble_eq_true rfl) rfl rfl ?_
        first
          | (rw [if_pos (by omega)] at kk; exact kk)
          | (rw [if_neg (by omega), if_pos (by omega)] at kk; exact kk)
          | (rw [if_neg (by omega), if_neg (by omega), if_pos (by omega)] at kk; exact kk)
          | (rw [if_neg (by omega), if_neg (by omega), if_neg (by omega), if_pos (by omega)] at kk; exact kk)
          | (rw [if_neg (by omega), if_neg (by omega), if_neg (by omega), if_neg (by omega), if_pos (by omega)] at kk; exact kk)
          | (rw [if_neg (by omega), if_neg (by omega), if_neg (by omega), if_neg (by omega), if_neg (by omega)] at kk; exact kk)
    · refine z_iconst 73 dX7_ridersRead_72 rfl ?_
      refine z_goto 107 dX7_ridersRead_73 (by decide) ?_
      refine z_istore3 108 dX7_ridersRead_107 (Nat.le_of_ble_eq_true rfl) rfl rfl ?_
      first
        | (rw [if_pos (by omega)] at kk; exact kk)
        | (rw [if_neg (by omega), if_pos (by omega)] at kk; exact kk)
        | (rw [if_neg (by omega), if_neg (by omega), if_pos (by omega)] at kk; exact kk)
        | (rw [if_neg (by omega), if_neg (by omega), if_neg (by omega), if_pos (by omega)] at kk; exact kk)
        | (rw [if_neg (by omega), if_neg (by omega), if_neg (by omega), if_neg (by omega), if_pos (by omega)] at kk; exact kk)
        | (rw [if_neg (by omega), if_neg (by omega), if_neg (by omega), if_neg (by omega), if_neg (by omega)] at kk; exact kk)
  · refine z_iconst 63 dX7_ridersRead_62 rfl ?_
    refine z_goto 107 dX7_ridersRead_63 (by decide) ?_
    refine z_istore3 108 dX7_ridersRead_107 (Nat.le_of_ble_eq_true rfl) rfl rfl ?_
    first
      | (rw [if_pos (by omega)] at kk; exact kk)
      | (rw [if_neg (by omega), if_pos (by omega)] at kk; exact kk)
      | (rw [if_neg (by omega), if_neg (by omega), if_pos (by omega)] at kk; exact kk)
      | (rw [if_neg (by omega), if_neg (by omega), if_neg (by omega), if_pos (by omega)] at kk; exact kk)
      | (rw [if_neg (by omega), if_neg (by omega), if_neg (by omega), if_neg (by omega), if_pos (by omega)] at kk; exact kk)
      | (rw [if_neg (by omega), if_neg (by omega), if_neg (by omega), if_neg (by omega), if_neg (by omega)] at kk; exact kk)
theorem tl_X7_riders168k {r k : Nat} {c kd hv ln : Int} {W : Nat → Int} {Q : zQ} (hM : zMs sh R) (hr : r < 5) (kk : zE X mX7_ridersRead 0 0 2 [zR 157, zI ((r + 1 : Nat) : Int), zI c, zI kd, zI hv, zI ln] [] sh (mT (zrow I 162 (fun q => if q = 3 * r + 2 then ln else if q = 3 * r + 1 then hv else if q = 3 * r then kd else W q)) k 0) L R Q) : zE X mX7_ridersRead 0 0 168 [zR 157, zI (r : Int), zI c, zI kd, zI hv, zI ln] [] sh (mT (zrow I 162 W) k 0) L R Q := by
  obtain ⟨⟨s0, s1, s2, s3, s4, s5, s6, s7, s8, s9, s10, s11, s12, s13, s14, s15⟩, r0, r1, r2, r3, r4, r5, r6, r7, r8, r9, r10, r11, r12, r13, r14⟩ := id hM
  refine z_aload0 169 dX7_ridersRead_168 rfl ?_
  refine z_getIx 172 dX7_ridersRead_169 fl_RX7_133 (by assumption) (mT_5 _ _ _) rfl ?_
  refine z_if_ne 208 175 dX7_ridersRead_172 (by decide) rfl (by omega) (fun hz => absurd hz (by omega)) (fun h172 => ?_)
  refine z_aload0 176 dX7_ridersRead_175 rfl ?_
  refine z_getR 179 dX7_ridersRead_176 fl_RX7_22 (by assumption) (by assumption) rfl ?_
  refine z_iconst 180 dX7_ridersRead_179 rfl ?_
  refine z_iload1 181 dX7_ridersRead_180 rfl ?_
  refine z_imul 182 dX7_ridersRead_181 rfl ?_
  refine z_iload3 183 dX7_ridersRead_182 rfl ?_
  refine z_iastx 184 (3 * r) dX7_ridersRead_183 (by assumption) (by omega) (by omega) (mT_162 _ _ _ _ _ _) rfl ?_
  refine z_aload0 185 dX7_ridersRead_184 rfl ?_
  refine z_getR 188 dX7_ridersRead_185 fl_RX7_22 (by assumption) (by assumption) rfl ?_
  refine z_iconst 189 dX7_ridersRead_188 rfl ?_
  refine z_iload1 190 dX7_ridersRead_189 rfl ?_
  refine z_imul 191 dX7_ridersRead_190 rfl ?_
  refine z_iconst 192 dX7_ridersRead_191 rfl ?_
  refine z_iadd 193 dX7_ridersRead_192 rfl ?_
  refine z_iload4 195 dX7_ridersRead_193 rfl ?_
  refine z_iastx 196 (3 * r + 1) dX7_ridersRead_195 (by assumption) (by omega) (by omega) (mT_162 _ _ _ _ _ _) rfl ?_
  refine z_aload0 197 dX7_ridersRead_196 rfl ?_
  refine z_getR 200 dX7_ridersRead_197 fl_RX7_22 (by assumption) (by assumption) rfl ?_
  refine z_iconst 201 dX7_ridersRead_200 rfl ?_
  refine z_iload1 202 dX7_ridersRead_201 rfl ?_
  refine z_imul 203 dX7_ridersRead_202 rfl ?_
  refine z_iconst 204 dX7_ridersRead_203 rfl ?_
  refine z_iadd 205 dX7_ridersRead_204 rfl ?_
  refine z_iload5 207 dX7_ridersRead_205 rfl ?_
  refine z_iastx 208 (3 * r + 2) dX7_ridersRead_207 (by assumption) (by omega) (by omega) (mT_162 _ _ _ _ _ _) rfl ?_
  refine z_iinc1 211 dX7_ridersRead_208 (Nat.le_of_ble_eq_true rfl) rfl rfl ?_
  refine z_goto 2 dX7_ridersRead_211 (by decide) ?_
  exact kk
/-- one rider -/
theorem tl_X7_riders40 {r k : Nat} {z2 z3 z4 z5 : zV} {W : Nat → Int} {S : zT} {Q : zQ} (hM : zMs sh R) (ht : zTm I T n) (hT : ∀ j, j < 70 → 0 ≤ T j ∧ T j ≤ 126) (hr : r < 5) (hk : k ≤ n) (kF : (trr T n r k S).1 = 0 → Q [zI ((r + 1 : Nat) : Int)] sh (mT (zrow I 162 W) (trr T n r k S).2.1 1) L R) (kk : ∀ (c kd hv ln : Int) (W' : Nat → Int), ¬ (trr T n r k S).1 = 0 → (∀ j, j < 3 * r → W' j = W j) → (trr T n r k S).2.2 = sad S r (W' (3 * r)) (W' (3 * r + 1)) (W' (3 * r + 2)) → zE X mX7_ridersRead 0 0 2 [zR 157, zI ((r + 1 : Nat) : Int), zI c, zI kd, zI hv, zI ln] [] sh (mT (zrow I 162 W') (trr T n r k S).2.1 0) L R Q) (hz : zl z2 = false ∧ zl z3 = false) : zE X mX7_ridersRead 0 0 40 [zR 157, zI (r : Int), z2, z3, z4, z5] [] sh (mT (zrow I 162 W) k 0) L R Q := by
  obtain ⟨⟨s0, s1, s2, s3, s4, s5, s6, s7, s8, s9, s10, s11, s12, s13, s14, s15⟩, r0, r1, r2, r3, r4, r5, r6, r7, r8, r9, r10, r11, r12, r13, r14⟩ := id hM
  have h70 := ht.2.1
  have htW := zTm_row ht (a := 162) (by decide) (by decide) W
  have hk1 := tnl_r T n k hk
  have hm := mat_t (k := tnl T n k) ht.2.2.2
  have kh := ct_X7_here (X := X) (L := L) (f := 0) hM htW hk
  have etk : tkd (tat T n (tnl T n k)) = tkd (mat T n (tnl T n k)) := by
    rcases hm with ⟨h1, h2, h3⟩ | ⟨h1, -⟩
    · rw [h1, h2]; rfl
    · rw [h1]
  have hmk := mkd_r (mat T n (tnl T n k))
  have er : trr T n r k S = if tkd (tat T n (tnl T n k)) = -4 then (0, tnl T n k, S) else if (thv T n (tnl T n k + 1)).1 = -4 then (0, (thv T n (tnl T n k + 1)).2, S) else if (tle T n (thv T n (tnl T n k + 1)).2).1 = -4 then (0, (tle T n (thv T n (tnl T n k + 1)).2).2, S) else (1, (tle T n (thv T n (tnl T n k + 1)).2).2, sad S r (tkd (tat T n (tnl T n k))) (thv T n (tnl T n k + 1)).1 (tle T n (thv T n (tnl T n k + 1)).2).1) := rfl
  rw [etk] at er
  generalize hc : mat T n (tnl T n k) = c at *
  have kmid : zE X mX7_ridersRead 0 0 108 [zR 157, zI (r : Int), zI c, zI (mkd c), z4, z5] [] sh (mT (zrow I 162 W) (tnl T n k) 0) L R Q := by
    by_cases hkd : tkd c = -4
    · rw [if_pos hkd] at er
      rw [er] at kF
      have hmu := ct_X7_must0 (X := X) (I := zrow I 162 W) (L := L) (R := R) (k := tnl T n k) (b := 0) hM (by omega) (Or.inl rfl)
      rw [if_neg (by decide)] at hmu
      have hmk2 : mkd c = -1 := by omega
      rw [hmk2]
      refine z_aload0 109 dX7_ridersRead_108 rfl ?_
      refine z_iload3 110 dX7_ridersRead_109 rfl ?_
      refine z_if_lt 117 113 dX7_ridersRead_110 (by decide) rfl (by omega) (fun h110 => ?_) (fun hz => absurd hz (by omega))
      refine z_iconst 118 dX7_ridersRead_117 rfl ?_
      refine z_xVv1 121 dX7_ridersRead_118 lk_X7_ridersRead_140 (hmu) rfl (Nat.le_of_ble_eq_true rfl) (Nat.le_of_ble_eq_true rfl) (by assumption) rfl rfl ?_
      refine zE_mono (fun r' sh' I' L' R' hz => ?_) (tl_X7_riders121' hM (by omega) (by omega))
      obtain ⟨y1, y2, y3, y4, y5⟩ := hz
      rw [y1, y2, y3, y4, y5]
      exact kF rfl
    · rw [if_neg hkd] at er
      have hmu := ct_X7_must0 (X := X) (I := zrow I 162 W) (L := L) (R := R) (k := tnl T n k) (b := 1) hM (by omega) (Or.inr rfl)
      rw [if_pos rfl] at hmu
      have hlt : tnl T n k < n := by
        rcases hm with ⟨h1, h2, h3⟩ | ⟨-, -, -, h3⟩
        · exfalso
          have : tkd c = -4 := by rw [h2]; rfl
          exact hkd this
        · exact h3
      have hvr := thv_r (T := T) (n := n) (k := tnl T n k + 1) hT h70 hlt
      obtain ⟨hv, hhv, kn⟩ := ct_X7_number0 (X := X) (I := zrow I 162 W) (L := L) (R := R) (k := tnl T n k + 1) hM htW (by omega)
      have hmk2 : mkd c = tkd c ∧ 0 ≤ mkd c ∧ mkd c ≤ 4 := by omega
      have hd2 := tle_r (T := T) (n := n) (k := (thv T n (tnl T n k + 1)).2) hvr.1
      have hk3 := tnl_r T n (thv T n (tnl T n k + 1)).2 hvr.1
      have hm3 := mat_t (k := tnl T n (thv T n (tnl T n k + 1)).2) ht.2.2.2
      have et : tle T n (thv T n (tnl T n k + 1)).2 = if tat T n (tnl T n (thv T n (tnl T n k + 1)).2) = 60 then tdg T n 48 55 (tnl T n (thv T n (tnl T n k + 1)).2 + 1) else (0, tnl T n (thv T n (tnl T n k + 1)).2) := rfl
      have kh3 := ct_X7_here (X := X) (L := L) (f := 0) hM htW hvr.1
      generalize thv T n (tnl T n k + 1) = d1 at *
      generalize hkp : tnl T n k + 1 = kp at *
      by_cases hf1 : d1.1 = -4
      · rw [if_pos hf1] at er kn
        rw [er] at kF
        refine z_aload0 109 dX7_ridersRead_108 rfl ?_
        refine z_iload3 110 dX7_ridersRead_109 rfl ?_
        refine z_if_lt 117 113 dX7_ridersRead_110 (by decide) rfl (by omega) (fun hz => absurd hz (by omega)) (fun h110 => ?_)
        refine z_iconst 114 dX7_ridersRead_113 rfl ?_
        refine z_goto 118 dX7_ridersRead_114 (by decide) ?_
        refine z_xVv1 121 dX7_ridersRead_118 lk_X7_ridersRead_140 (hmu) rfl (Nat.le_of_ble_eq_true rfl) (Nat.le_of_ble_eq_true rfl) (by assumption) rfl rfl ?_
        refine z_aload0 122 dX7_ridersRead_121 rfl ?_
        refine z_iconst 123 dX7_ridersRead_122 rfl ?_
        refine z_bipush 125 dX7_ridersRead_123 (by decide) rfl ?_
        refine z_xV2 128 dX7_ridersRead_125 lk_X7_ridersRead_151 (kn) rfl (Nat.le_of_ble_eq_true rfl) (Nat.le_of_ble_eq_true rfl) (by assumption) rfl rfl ?_
        refine z_istore4 130 dX7_ridersRead_128 (Nat.le_of_ble_eq_true rfl) rfl rfl ?_
        refine z_iconst 131 dX7_ridersRead_130 rfl ?_
        refine z_istore5 133 dX7_ridersRead_131 (Nat.le_of_ble_eq_true rfl) rfl rfl ?_
        refine z_aload0 134 dX7_ridersRead_133 rfl ?_
        refine z_getIx 137 dX7_ridersRead_134 fl_RX7_133 (by assumption) (mT_5 _ _ _) rfl ?_
        refine z_if_ne 168 140 dX7_ridersRead_137 (by decide) rfl (by omega) (fun h137 => ?_) (fun hz => absurd hz (by omega))
        refine zE_mono (fun r' sh' I' L' R' hz => ?_) (tl_X7_riders168 hM (by omega))
        obtain ⟨y1, y2, y3, y4, y5⟩ := hz
        rw [y1, y2, y3, y4, y5]
        exact kF rfl
      · rw [if_neg hf1] at er kn
        have hhv' := hhv hf1
        -- what is done with a lean
        have kok : ∀ (ln : Int) (k4 : Nat), trr T n r k S = (1, k4, sad S r (tkd c) d1.1 ln) → zE X mX7_ridersRead 0 0 168 [zR 157, zI (r : Int), zI c, zI (mkd c), zI hv, zI ln] [] sh (mT (zrow I 162 W) k4 0) L R Q := fun ln k4 e => by
          rw [e] at kk
          refine tl_X7_riders168k hM hr (kk c (mkd c) hv ln _ (fun q => absurd (show (1 : Int) = 0 from q) (by decide)) (fun j hj => ?_) ?_)
          · rw [if_neg (by omega), if_neg (by omega), if_neg (by omega)]
          · show sad S r (tkd c) d1.1 ln = _
            rw [if_neg (by omega), if_neg (by omega), if_pos rfl, if_neg (by omega), if_pos rfl, if_pos rfl, hmk2.1, hhv']
        by_cases h60 : tat T n (tnl T n d1.2) = 60
        · rw [if_pos h60] at et
          have hlt3 : tnl T n d1.2 < n := tat_lt (T := T) (by omega)
          obtain ⟨v2, hv2, hv2r, kd2⟩ := ct_X7_digit0 (X := X) (I := zrow I 162 W) (L := L) (R := R) (k := tnl T n d1.2 + 1) (lo := 0) (hi := 7) hM htW (by omega) (by omega) (by omega)
          rw [show (0 : Int) + 48 = 48 from rfl, show (7 : Int) + 48 = 55 from rfl, ← et] at hv2 kd2
          have em60 : mat T n (tnl T n d1.2) = 60 := by omega
          rw [em60] at kh3
          generalize tle T n d1.2 = d2 at *
          by_cases hf2 : d2.1 = -4
          · rw [if_pos hf2] at er kd2
            rw [er] at kF
            refine z_aload0 109 dX7_ridersRead_108 rfl ?_
            refine z_iload3 110 dX7_ridersRead_109 rfl ?_
            refine z_if_lt 117 113 dX7_ridersRead_110 (by decide) rfl (by omega) (fun hz => absurd hz (by omega)) (fun h110 => ?_)
            refine z_iconst 114 dX7_ridersRead_113 rfl ?_
            refine z_goto 118 dX7_ridersRead_114 (by decide) ?_
            refine z_xVv1 121 dX7_ridersRead_118 lk_X7_ridersRead_140 (hmu) rfl (Nat.le_of_ble_eq_true rfl) (Nat.le_of_ble_eq_true rfl) (by assumption) rfl rfl ?_
            refine z_aload0 122 dX7_ridersRead_121 rfl ?_
            refine z_iconst 123 dX7_ridersRead_122 rfl ?_
            refine z_bipush 125 dX7_ridersRead_123 (by decide) rfl ?_
            refine z_xV2 128 dX7_ridersRead_125 lk_X7_ridersRead_151 (kn) rfl (Nat.le_of_ble_eq_true rfl) (Nat.le_of_ble_eq_true rfl) (by assumption) rfl rfl ?_
            refine z_istore4 130 dX7_ridersRead_128 (Nat.le_of_ble_eq_true rfl) rfl rfl ?_
            refine z_iconst 131 dX7_ridersRead_130 rfl ?_
            refine z_istore5 133 dX7_ridersRead_131 (Nat.le_of_ble_eq_true rfl) rfl rfl ?_
            refine z_aload0 134 dX7_ridersRead_133 rfl ?_
            refine z_getIx 137 dX7_ridersRead_134 fl_RX7_133 (by assumption) (mT_5 _ _ _) rfl ?_
            refine z_if_ne 168 140 dX7_ridersRead_137 (by decide) rfl (by omega) (fun hz => absurd hz (by omega)) (fun h137 => ?_)
            refine z_aload0 141 dX7_ridersRead_140 rfl ?_
            refine z_xV0 144 dX7_ridersRead_141 lk_X7_ridersRead_137 (kh3) rfl (Nat.le_of_ble_eq_true rfl) (Nat.le_of_ble_eq_true rfl) (by assumption) rfl rfl ?_
            refine z_bipush 146 dX7_ridersRead_144 (by decide) rfl ?_
            refine z_icmp_ne 168 149 dX7_ridersRead_146 (by decide) rfl (by omega) (by omega) (fun hz => absurd hz (by omega)) (fun h146 => ?_)
            refine z_aload0 150 dX7_ridersRead_149 rfl ?_
            refine z_dup 151 dX7_ridersRead_150 rfl rfl ?_
            refine z_getIx 154 dX7_ridersRead_151 fl_RX7_130 (by assumption) (mT_4 _ _ _) rfl ?_
            refine z_iconst 155 dX7_ridersRead_154 rfl ?_
            refine z_iadd 156 dX7_ridersRead_155 rfl ?_
            refine z_putIx 159 dX7_ridersRead_156 fp_RX7_130 (by assumption) (mT_u4 _ _ (tnl T n d1.2 + 1) _ (by omega)) rfl ?_
            refine z_aload0 160 dX7_ridersRead_159 rfl ?_
            refine z_iconst 161 dX7_ridersRead_160 rfl ?_
            refine z_bipush 163 dX7_ridersRead_161 (by decide) rfl ?_
            refine z_xV2 166 dX7_ridersRead_163 lk_X7_ridersRead_148 (kd2) rfl (Nat.le_of_ble_eq_true rfl) (Nat.le_of_ble_eq_true rfl) (by assumption) rfl rfl ?_
            refine z_istore5 168 dX7_ridersRead_166 (Nat.le_of_ble_eq_true rfl) rfl rfl ?_
            refine zE_mono (fun r' sh' I' L' R' hz => ?_) (tl_X7_riders168 hM (by omega))
            obtain ⟨y1, y2, y3, y4, y5⟩ := hz
            rw [y1, y2, y3, y4, y5]
            exact kF rfl
          · rw [if_neg hf2] at er kd2
            have hv2' := hv2 hf2
            refine z_aload0 109 dX7_ridersRead_108 rfl ?_
            refine z_iload3 110 dX7_ridersRead_109 rfl ?_
            refine z_if_lt 117 113 dX7_ridersRead_110 (by decide) rfl (by omega) (fun hz => absurd hz (by omega)) (fun h110 => ?_)
            refine z_iconst 114 dX7_ridersRead_113 rfl ?_
            refine z_goto 118 dX7_ridersRead_114 (by decide) ?_
            refine z_xVv1 121 dX7_ridersRead_118 lk_X7_ridersRead_140 (hmu) rfl (Nat.le_of_ble_eq_true rfl) (Nat.le_of_ble_eq_true rfl) (by assumption) rfl rfl ?_
            refine z_aload0 122 dX7_ridersRead_121 rfl ?_
            refine z_iconst 123 dX7_ridersRead_122 rfl ?_
            refine z_bipush 125 dX7_ridersRead_123 (by decide) rfl ?_
            refine z_xV2 128 dX7_ridersRead_125 lk_X7_ridersRead_151 (kn) rfl (Nat.le_of_ble_eq_true rfl) (Nat.le_of_ble_eq_true rfl) (by assumption) rfl rfl ?_
            refine z_istore4 130 dX7_ridersRead_128 (Nat.le_of_ble_eq_true rfl) rfl rfl ?_
            refine z_iconst 131 dX7_ridersRead_130 rfl ?_
            refine z_istore5 133 dX7_ridersRead_131 (Nat.le_of_ble_eq_true rfl) rfl rfl ?_
            refine z_aload0 134 dX7_ridersRead_133 rfl ?_
            refine z_getIx 137 dX7_ridersRead_134 fl_RX7_133 (by assumption) (mT_5 _ _ _) rfl ?_
            refine z_if_ne 168 140 dX7_ridersRead_137 (by decide) rfl (by omega) (fun hz => absurd hz (by omega)) (fun h137 => ?_)
            refine z_aload0 141 dX7_ridersRead_140 rfl ?_
            refine z_xV0 144 dX7_ridersRead_141 lk_X7_ridersRead_137 (kh3) rfl (Nat.le_of_ble_eq_true rfl) (Nat.le_of_ble_eq_true rfl) (by assumption) rfl rfl ?_
            refine z_bipush 146 dX7_ridersRead_144 (by decide) rfl ?_
            refine z_icmp_ne 168 149 dX7_ridersRead_146 (by decide) rfl (by omega) (by omega) (fun hz => absurd hz (by omega)) (fun h146 => ?_)
            refine z_aload0 150 dX7_ridersRead_149 rfl ?_
            refine z_dup 151 dX7_ridersRead_150 rfl rfl ?_
            refine z_getIx 154 dX7_ridersRead_151 fl_RX7_130 (by assumption) (mT_4 _ _ _) rfl ?_
            refine z_iconst 155 dX7_ridersRead_154 rfl ?_
            refine z_iadd 156 dX7_ridersRead_155 rfl ?_
            refine z_putIx 159 dX7_ridersRead_156 fp_RX7_130 (by assumption) (mT_u4 _ _ (tnl T n d1.2 + 1) _ (by omega)) rfl ?_
            refine z_aload0 160 dX7_ridersRead_159 rfl ?_
            refine z_iconst 161 dX7_ridersRead_160 rfl ?_
            refine z_bipush 163 dX7_ridersRead_161 (by decide) rfl ?_
            refine z_xV2 166 dX7_ridersRead_163 lk_X7_ridersRead_148 (kd2) rfl (Nat.le_of_ble_eq_true rfl) (Nat.le_of_ble_eq_true rfl) (by assumption) rfl rfl ?_
            refine z_istore5 168 dX7_ridersRead_166 (Nat.le_of_ble_eq_true rfl) rfl rfl ?_
            exact kok v2 d2.2 (by rw [er, hv2'])
        · rw [if_neg h60] at et
          rw [et, if_neg (show ¬ ((0 : Int), tnl T n d1.2).1 = -4 from (by decide : ¬ (0 : Int) = -4))] at er
          have hne60 : mat T n (tnl T n d1.2) ≠ 60 := by omega
          generalize mat T n (tnl T n d1.2) = c3 at *
          refine z_aload0 109 dX7_ridersRead_108 rfl ?_
          refine z_iload3 110 dX7_ridersRead_109 rfl ?_
          refine z_if_lt 117 113 dX7_ridersRead_110 (by decide) rfl (by omega) (fun hz => absurd hz (by omega)) (fun h110 => ?_)
          refine z_iconst 114 dX7_ridersRead_113 rfl ?_
          refine z_goto 118 dX7_ridersRead_114 (by decide) ?_
          refine z_xVv1 121 dX7_ridersRead_118 lk_X7_ridersRead_140 (hmu) rfl (Nat.le_of_ble_eq_true rfl) (Nat.le_of_ble_eq_true rfl) (by assumption) rfl rfl ?_
          refine z_aload0 122 dX7_ridersRead_121 rfl ?_
          refine z_iconst 123 dX7_ridersRead_122 rfl ?_
          refine z_bipush 125 dX7_ridersRead_123 (by decide) rfl ?_
          refine z_xV2 128 dX7_ridersRead_125 lk_X7_ridersRead_151 (kn) rfl (Nat.le_of_ble_eq_true rfl) (Nat.le_of_ble_eq_true rfl) (by assumption) rfl rfl ?_
          refine z_istore4 130 dX7_ridersRead_128 (Nat.le_of_ble_eq_true rfl) rfl rfl ?_
          refine z_iconst 131 dX7_ridersRead_130 rfl ?_
          refine z_istore5 133 dX7_ridersRead_131 (Nat.le_of_ble_eq_true rfl) rfl rfl ?_
          refine z_aload0 134 dX7_ridersRead_133 rfl ?_
          refine z_getIx 137 dX7_ridersRead_134 fl_RX7_133 (by assumption) (mT_5 _ _ _) rfl ?_
          refine z_if_ne 168 140 dX7_ridersRead_137 (by decide) rfl (by omega) (fun hz => absurd hz (by omega)) (fun h137 => ?_)
          refine z_aload0 141 dX7_ridersRead_140 rfl ?_
          refine z_xV0 144 dX7_ridersRead_141 lk_X7_ridersRead_137 (kh3) rfl (Nat.le_of_ble_eq_true rfl) (Nat.le_of_ble_eq_true rfl) (by assumption) rfl rfl ?_
          refine z_bipush 146 dX7_ridersRead_144 (by decide) rfl ?_
          refine z_icmp_ne 168 149 dX7_ridersRead_146 (by decide) rfl (by omega) (by omega) (fun h146 => ?_) (fun hz => absurd hz (by omega))
          exact kok 0 (tnl T n d1.2) er
  refine z_aload0 41 dX7_ridersRead_40 rfl ?_
  refine z_getIx 44 dX7_ridersRead_41 fl_RX7_133 (by assumption) (mT_5 _ _ _) rfl ?_
  refine z_if_eq 51 47 dX7_ridersRead_44 (by decide) rfl (by omega) (fun h44 => ?_) (fun hz => absurd hz (by omega))
  refine z_aload0 52 dX7_ridersRead_51 rfl ?_
  refine z_xV0 55 dX7_ridersRead_52 lk_X7_ridersRead_137 (kh) rfl (Nat.le_of_ble_eq_true rfl) (Nat.le_of_ble_eq_true rfl) (by assumption) rfl rfl ?_
  exact tl_X7_riders55 hz (by omega) kmid
end MODW
