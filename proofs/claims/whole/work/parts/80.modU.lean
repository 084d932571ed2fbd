section MODU
variable {X : zXs} {sh : zH} {I L : zI2} {R : zR2} {T : Nat → Int} {n : Nat}
theorem tl_X7_number139 {p q : Nat} {c v : Int} (hM : zMs sh R) (hv : -1000 ≤ v ∧ v ≤ 1000) (hp : p ≤ 100) : zE X mX7_number 0 0 139 [zR 157, zI 1, zI 20, zI c, zI (p : Int), zI v] [] sh (mT I q 0) L R (zEq [zI v] sh (if 1 ≤ v ∧ v ≤ 20 then mT I q 0 else mT I p 1) L R) := by
  obtain ⟨⟨s0, s1, s2, s3, s4, s5, s6, s7, s8, s9, s10, s11, s12, s13, s14, s15⟩, r0, r1, r2, r3, r4, r5, r6, r7, r8, r9, r10, r11, r12, r13, r14⟩ := id hM
  have z1 := zwi_r v 1 20
  by_cases h : 1 ≤ v ∧ v ≤ 20
  · rw [if_pos h]
    have z2 : zwi v 1 20 = 1 := zwi_1 h
    refine z_aload0 140 dX7_number_139 rfl ?_
    refine z_getIx 143 dX7_number_140 fl_RX7_133 (by assumption) (mT_5 _ _ _) rfl ?_
    refine z_if_ne 170 146 dX7_number_143 (by decide) rfl (by omega) (fun hz => absurd hz (by omega)) (fun h143 => ?_)
    refine z_iload5 148 dX7_number_146 rfl ?_
    refine z_i2l 149 dX7_number_148 (by omega) rfl ?_
    refine z_iload1 150 dX7_number_149 rfl ?_
    refine z_i2l 151 dX7_number_150 (by omega) rfl ?_
    refine z_iload2 152 dX7_number_151 rfl ?_
    refine z_i2l 153 dX7_number_152 (by omega) rfl ?_
    refine z_xS3 156 dX7_number_153 lk_X7_number_56 (ct_X7_in (by omega) (by omega) (by omega)) rfl (Nat.le_of_ble_eq_true rfl) (Nat.le_of_ble_eq_true rfl) rfl ?_
    rw [z2]
    refine z_if_ne 170 159 dX7_number_156 (by decide) rfl (by omega) (fun h156 => ?_) (fun hz => absurd hz (by omega))
    refine z_iload5 172 dX7_number_170 rfl ?_
    exact z_ireturn dX7_number_172 rfl (⟨rfl, rfl, rfl, rfl, rfl⟩)
  · rw [if_neg h]
    have z2 : zwi v 1 20 = 0 := zwi_0 h
    refine z_aload0 140 dX7_number_139 rfl ?_
    refine z_getIx 143 dX7_number_140 fl_RX7_133 (by assumption) (mT_5 _ _ _) rfl ?_
    refine z_if_ne 170 146 dX7_number_143 (by decide) rfl (by omega) (fun hz => absurd hz (by omega)) (fun h143 => ?_)
    refine z_iload5 148 dX7_number_146 rfl ?_
    refine z_i2l 149 dX7_number_148 (by omega) rfl ?_
    refine z_iload1 150 dX7_number_149 rfl ?_
    refine z_i2l 151 dX7_number_150 (by omega) rfl ?_
    refine z_iload2 152 dX7_number_151 rfl ?_
    refine z_i2l 153 dX7_number_152 (by omega) rfl ?_
    refine z_xS3 156 dX7_number_153 lk_X7_number_56 (ct_X7_in (by omega) (by omega) (by omega)) rfl (Nat.le_of_ble_eq_true rfl) (Nat.le_of_ble_eq_true rfl) rfl ?_
    rw [z2]
    refine z_if_ne 170 159 dX7_number_156 (by decide) rfl (by omega) (fun hz => absurd hz (by omega)) (fun h156 => ?_)
    refine z_aload0 160 dX7_number_159 rfl ?_
    refine z_iconst 161 dX7_number_160 rfl ?_
    refine z_putZx 164 dX7_number_161 fp_RX7_133 (by omega) (by assumption) (mT_u5 _ _ _ _) rfl ?_
    refine z_aload0 165 dX7_number_164 rfl ?_
    refine z_iload4 167 dX7_number_165 rfl ?_
    refine z_putIx 170 dX7_number_167 fp_RX7_130 (by assumption) (mT_u4 _ _ p _ (by omega)) rfl ?_
    refine z_iload5 172 dX7_number_170 rfl ?_
    exact z_ireturn dX7_number_172 rfl (⟨rfl, rfl, rfl, rfl, rfl⟩)
theorem tl_X7_number55c {p : Nat} {c v : Int} (hM : zMs sh R) (ht : zTm I T n) (hv : -1000 ≤ v ∧ v ≤ 1000) (hp : p + 2 ≤ n) : zE X mX7_number 0 0 55 [zR 157, zI 1, zI 20, zI c, zI (p : Int), zI v] [] sh (mT I (p + 2) 0) L R (zEq [zI v] sh (if 1 ≤ v ∧ v ≤ 20 then mT I (p + 2) 0 else mT I p 1) L R) := by
  obtain ⟨⟨s0, s1, s2, s3, s4, s5, s6, s7, s8, s9, s10, s11, s12, s13, s14, s15⟩, r0, r1, r2, r3, r4, r5, r6, r7, r8, r9, r10, r11, r12, r13, r14⟩ := id hM
  obtain ⟨t1, t2, t3, t4⟩ := id ht
  refine z_aload0 56 dX7_number_55 rfl ?_
  refine z_getIx 59 dX7_number_56 fl_RX7_133 (by assumption) (mT_5 _ _ _) rfl ?_
  refine z_if_ne 139 62 dX7_number_59 (by decide) rfl (by omega) (fun hz => absurd hz (by omega)) (fun h59 => ?_)
  refine z_aload0 63 dX7_number_62 rfl ?_
  refine z_getIx 66 dX7_number_63 fl_RX7_130 (by assumption) (mT_4 _ _ _) rfl ?_
  refine z_aload0 67 dX7_number_66 rfl ?_
  refine z_getIx 70 dX7_number_67 fl_RX7_127 (by assumption) ((mT_c _ _ _ (by decide) (by decide)).trans t1) rfl ?_
  refine z_icmp_ge 139 73 dX7_number_70 (by decide) rfl (by omega) (by omega) (fun h70 => ?_) (fun h70 => ?_)
  · exact tl_X7_number139 hM hv (by omega)
  · refine z_aload0 74 dX7_number_73 rfl ?_
    refine z_getIx 77 dX7_number_74 fl_RX7_130 (by assumption) (mT_4 _ _ _) rfl ?_
    refine z_iload4 79 dX7_number_77 rfl ?_
    refine z_isub 80 dX7_number_79 rfl ?_
    refine z_iconst 81 dX7_number_80 rfl ?_
    refine z_icmp_ge 139 84 dX7_number_81 (by decide) rfl (by omega) (by omega) (fun h81 => ?_) (fun hz => absurd hz (by omega))
    exact tl_X7_number139 hM hv (by omega)
theorem tl_X7_number55b {p : Nat} {c d : Int} (hM : zMs sh R) (ht : zTm I T n) (hd : 0 ≤ d ∧ d ≤ 9) (hp : p + 1 ≤ n) : ∃ v : Int, v = (if 48 ≤ tat T n (p + 1) ∧ tat T n (p + 1) ≤ 57 then 10 * d + tat T n (p + 1) - 48 else d) ∧ zE X mX7_number 0 0 55 [zR 157, zI 1, zI 20, zI c, zI (p : Int), zI d] [] sh (mT I (p + 1) 0) L R (zEq [zI v] sh (if 1 ≤ v ∧ v ≤ 20 then mT I (if 48 ≤ tat T n (p + 1) ∧ tat T n (p + 1) ≤ 57 then p + 2 else p + 1) 0 else mT I p 1) L R) := by
  obtain ⟨⟨s0, s1, s2, s3, s4, s5, s6, s7, s8, s9, s10, s11, s12, s13, s14, s15⟩, r0, r1, r2, r3, r4, r5, r6, r7, r8, r9, r10, r11, r12, r13, r14⟩ := id hM
  obtain ⟨t1, t2, t3, t4⟩ := id ht
  have hm := mat_t (k := p + 1) t4
  by_cases h : 48 ≤ tat T n (p + 1) ∧ tat T n (p + 1) ≤ 57
  · rw [if_pos h, if_pos h]
    refine ⟨_, rfl, ?_⟩
    have hlt : p + 1 < n := tat_lt (T := T) (by omega)
    have eT : mT I (p + 1) 0 160 (p + 1) = tat T n (p + 1) := by
      rw [mT_o _ _ _ (by decide), t3 _ hlt]
      unfold tat
      rw [if_pos hlt]
    have z2 : zwi (tat T n (p + 1)) 48 57 = 1 := zwi_1 h
    have k2 := tl_X7_number55c (X := X) (L := L) (c := c) (v := 10 * d + tat T n (p + 1) - 48) hM ht (by omega) (show p + 2 ≤ n by omega)
    generalize tat T n (p + 1) = e at *
    refine z_aload0 56 dX7_number_55 rfl ?_
    refine z_getIx 59 dX7_number_56 fl_RX7_133 (by assumption) (mT_5 _ _ _) rfl ?_
    refine z_if_ne 139 62 dX7_number_59 (by decide) rfl (by omega) (fun hz => absurd hz (by omega)) (fun h59 => ?_)
    refine z_aload0 63 dX7_number_62 rfl ?_
    refine z_getIx 66 dX7_number_63 fl_RX7_130 (by assumption) (mT_4 _ _ _) rfl ?_
    refine z_aload0 67 dX7_number_66 rfl ?_
    refine z_getIx 70 dX7_number_67 fl_RX7_127 (by assumption) ((mT_c _ _ _ (by decide) (by decide)).trans t1) rfl ?_
    refine z_icmp_ge 139 73 dX7_number_70 (by decide) rfl (by omega) (by omega) (fun hz => absurd hz (by omega)) (fun h70 => ?_)
    refine z_aload0 74 dX7_number_73 rfl ?_
    refine z_getIx 77 dX7_number_74 fl_RX7_130 (by assumption) (mT_4 _ _ _) rfl ?_
    refine z_iload4 79 dX7_number_77 rfl ?_
    refine z_isub 80 dX7_number_79 rfl ?_
    refine z_iconst 81 dX7_number_80 rfl ?_
    refine z_icmp_ge 139 84 dX7_number_81 (by decide) rfl (by omega) (by omega) (fun hz => absurd hz (by omega)) (fun h81 => ?_)
    refine z_aload0 85 dX7_number_84 rfl ?_
    refine z_getR 88 dX7_number_85 fl_RX7_16 (by assumption) (by assumption) rfl ?_
    refine z_aload0 89 dX7_number_88 rfl ?_
    refine z_getIx 92 dX7_number_89 fl_RX7_130 (by assumption) (mT_4 _ _ _) rfl ?_
    refine z_ialdx 93 (p + 1) dX7_number_92 (by assumption) (by omega) (by omega) (eT) rfl ?_
    refine z_i2l 94 dX7_number_93 (by omega) rfl ?_
    refine z_ldc2 97 dX7_number_94 kl_RX7_144 rfl ?_
    refine z_ldc2 100 dX7_number_97 kl_RX7_146 rfl ?_
    refine z_xS3 103 dX7_number_100 lk_X7_number_56 (ct_X7_in (by omega) (by omega) (by omega)) rfl (Nat.le_of_ble_eq_true rfl) (Nat.le_of_ble_eq_true rfl) rfl ?_
    rw [z2]
    refine z_if_eq 139 106 dX7_number_103 (by decide) rfl (by omega) (fun hz => absurd hz (by omega)) (fun h103 => ?_)
    refine z_bipush 108 dX7_number_106 (by decide) rfl ?_
    refine z_iload5 110 dX7_number_108 rfl ?_
    refine z_imul 111 dX7_number_110 rfl ?_
    refine z_aload0 112 dX7_number_111 rfl ?_
    refine z_getR 115 dX7_number_112 fl_RX7_16 (by assumption) (by assumption) rfl ?_
    refine z_aload0 116 dX7_number_115 rfl ?_
    refine z_getIx 119 dX7_number_116 fl_RX7_130 (by assumption) (mT_4 _ _ _) rfl ?_
    refine z_ialdx 120 (p + 1) dX7_number_119 (by assumption) (by omega) (by omega) (eT) rfl ?_
    refine z_iadd 121 dX7_number_120 rfl ?_
    refine z_bipush 123 dX7_number_121 (by decide) rfl ?_
    refine z_isub 124 dX7_number_123 rfl ?_
    refine z_istore5 126 dX7_number_124 (Nat.le_of_ble_eq_true rfl) rfl rfl ?_
    refine z_aload0 127 dX7_number_126 rfl ?_
    refine z_dup 128 dX7_number_127 rfl rfl ?_
    refine z_getIx 131 dX7_number_128 fl_RX7_130 (by assumption) (mT_4 _ _ _) rfl ?_
    refine z_iconst 132 dX7_number_131 rfl ?_
    refine z_iadd 133 dX7_number_132 rfl ?_
    refine z_putIx 136 dX7_number_133 fp_RX7_130 (by assumption) (mT_u4 _ _ (p + 2) _ (by omega)) rfl ?_
    refine z_goto 55 dX7_number_136 (by decide) ?_
    exact k2
  · rw [if_neg h, if_neg h]
    refine ⟨_, rfl, ?_⟩
    have k3 := tl_X7_number139 (X := X) (I := I) (L := L) (c := c) (v := d) (q := p + 1) hM (by omega) (show p ≤ 100 by omega)
    by_cases hlt : p + 1 < n
    · have eT : mT I (p + 1) 0 160 (p + 1) = tat T n (p + 1) := by
        rw [mT_o _ _ _ (by decide), t3 _ hlt]
        unfold tat
        rw [if_pos hlt]
      have z2 : zwi (tat T n (p + 1)) 48 57 = 0 := zwi_0 h
      generalize tat T n (p + 1) = e at *
      refine z_aload0 56 dX7_number_55 rfl ?_
      refine z_getIx 59 dX7_number_56 fl_RX7_133 (by assumption) (mT_5 _ _ _) rfl ?_
      refine z_if_ne 139 62 dX7_number_59 (by decide) rfl (by omega) (fun hz => absurd hz (by omega)) (fun h59 => ?_)
      refine z_aload0 63 dX7_number_62 rfl ?_
      refine z_getIx 66 dX7_number_63 fl_RX7_130 (by assumption) (mT_4 _ _ _) rfl ?_
      refine z_aload0 67 dX7_number_66 rfl ?_
      refine z_getIx 70 dX7_number_67 fl_RX7_127 (by assumption) ((mT_c _ _ _ (by decide) (by decide)).trans t1) rfl ?_
      refine z_icmp_ge 139 73 dX7_number_70 (by decide) rfl (by omega) (by omega) (fun hz => absurd hz (by omega)) (fun h70 => ?_)
      refine z_aload0 74 dX7_number_73 rfl ?_
      refine z_getIx 77 dX7_number_74 fl_RX7_130 (by assumption) (mT_4 _ _ _) rfl ?_
      refine z_iload4 79 dX7_number_77 rfl ?_
      refine z_isub 80 dX7_number_79 rfl ?_
      refine z_iconst 81 dX7_number_80 rfl ?_
      refine z_icmp_ge 139 84 dX7_number_81 (by decide) rfl (by omega) (by omega) (fun hz => absurd hz (by omega)) (fun h81 => ?_)
      refine z_aload0 85 dX7_number_84 rfl ?_
      refine z_getR 88 dX7_number_85 fl_RX7_16 (by assumption) (by assumption) rfl ?_
      refine z_aload0 89 dX7_number_88 rfl ?_
      refine z_getIx 92 dX7_number_89 fl_RX7_130 (by assumption) (mT_4 _ _ _) rfl ?_
      refine z_ialdx 93 (p + 1) dX7_number_92 (by assumption) (by omega) (by omega) (eT) rfl ?_
      refine z_i2l 94 dX7_number_93 (by omega) rfl ?_
      refine z_ldc2 97 dX7_number_94 kl_RX7_144 rfl ?_
      refine z_ldc2 100 dX7_number_97 kl_RX7_146 rfl ?_
      refine z_xS3 103 dX7_number_100 lk_X7_number_56 (ct_X7_in (by omega) (by omega) (by omega)) rfl (Nat.le_of_ble_eq_true rfl) (Nat.le_of_ble_eq_true rfl) rfl ?_
      rw [z2]
      refine z_if_eq 139 106 dX7_number_103 (by decide) rfl (by omega) (fun h103 => ?_) (fun hz => absurd hz (by omega))
      exact k3
    · refine z_aload0 56 dX7_number_55 rfl ?_
      refine z_getIx 59 dX7_number_56 fl_RX7_133 (by assumption) (mT_5 _ _ _) rfl ?_
      refine z_if_ne 139 62 dX7_number_59 (by decide) rfl (by omega) (fun hz => absurd hz (by omega)) (fun h59 => ?_)
      refine z_aload0 63 dX7_number_62 rfl ?_
      refine z_getIx 66 dX7_number_63 fl_RX7_130 (by assumption) (mT_4 _ _ _) rfl ?_
      refine z_aload0 67 dX7_number_66 rfl ?_
      refine z_getIx 70 dX7_number_67 fl_RX7_127 (by assumption) ((mT_c _ _ _ (by decide) (by decide)).trans t1) rfl ?_
      refine z_icmp_ge 139 73 dX7_number_70 (by decide) rfl (by omega) (by omega) (fun h70 => ?_) (fun hz => absurd hz (by omega))
      exact k3
theorem ct_X7_number0 {k : Nat} (hM : zMs sh R) (ht : zTm I T n) (hk : k ≤ n) : ∃ v : Int, (¬ (thv T n k).1 = -4 → v = (thv T n k).1) ∧ zE X mX7_number 0 0 0 [zR 157, zI 1, zI 20, zX, zX, zX] [] sh (mT I k 0) L R (zEq [zI v] sh (mT I (thv T n k).2 (if (thv T n k).1 = -4 then 1 else 0)) L R) := by
  obtain ⟨⟨s0, s1, s2, s3, s4, s5, s6, s7, s8, s9, s10, s11, s12, s13, s14, s15⟩, r0, r1, r2, r3, r4, r5, r6, r7, r8, r9, r10, r11, r12, r13, r14⟩ := id hM
  obtain ⟨t1, t2, t3, t4⟩ := id ht
  have hk1 := tnl_r T n k hk
  have hm := mat_t (k := tnl T n k) t4
  by_cases hc : 48 ≤ tat T n (tnl T n k) ∧ tat T n (tnl T n k) ≤ 57
  · have hlt : tnl T n k < n := tat_lt (T := T) (by omega)
    have e : tdg T n 48 57 k = (tat T n (tnl T n k) - 48, tnl T n k + 1) := by unfold tdg; rw [if_pos hc]
    have eT : mT I (tnl T n k) 0 160 (tnl T n k) = mat T n (tnl T n k) := by
      rw [mT_o _ _ _ (by decide), t3 _ hlt]
      unfold mat
      rw [if_pos hlt]
    have em : mat T n (tnl T n k) = tat T n (tnl T n k) := by omega
    have z2 : zwi (mat T n (tnl T n k)) 48 57 = 1 := zwi_1 (by omega)
    have kh := ct_X7_here (X := X) (L := L) (f := 0) hM ht hk
    obtain ⟨v, hv, k2⟩ := tl_X7_number55b (X := X) (L := L) (R := R) (p := tnl T n k) (c := mat T n (tnl T n k)) (d := mat T n (tnl T n k) - 48) hM ht (by omega) (by omega)
    have ethv : thv T n k = if 1 ≤ v ∧ v ≤ 20 then (v, if 48 ≤ tat T n (tnl T n k + 1) ∧ tat T n (tnl T n k + 1) ≤ 57 then tnl T n k + 2 else tnl T n k + 1) else (-4, tnl T n k) := by
      unfold thv
      rw [e, em] at *
      rw [if_neg (by show ¬ tat T n (tnl T n k) - 48 = -4; omega)]
      show (if 48 ≤ tat T n (tnl T n k + 1) ∧ tat T n (tnl T n k + 1) ≤ 57 then (if 1 ≤ 10 * (tat T n (tnl T n k) - 48) + tat T n (tnl T n k + 1) - 48 ∧ 10 * (tat T n (tnl T n k) - 48) + tat T n (tnl T n k + 1) - 48 ≤ 20 then (10 * (tat T n (tnl T n k) - 48) + tat T n (tnl T n k + 1) - 48, tnl T n k + 1 + 1) else (-4, tnl T n k + 1 - 1)) else if 1 ≤ tat T n (tnl T n k) - 48 ∧ tat T n (tnl T n k) - 48 ≤ 20 then (tat T n (tnl T n k) - 48, tnl T n k + 1) else (-4, tnl T n k + 1 - 1)) = _
      by_cases h2 : 48 ≤ tat T n (tnl T n k + 1) ∧ tat T n (tnl T n k + 1) ≤ 57
      · rw [if_pos h2] at hv ⊢
        rw [if_pos h2, hv]
        rfl
      · rw [if_neg h2] at hv ⊢
        rw [if_neg h2, hv]
        rfl
    refine ⟨v, fun hne => ?_, ?_⟩
    · rw [ethv] at hne ⊢
      by_cases h1 : 1 ≤ v ∧ v ≤ 20
      · rw [if_pos h1]
      · rw [if_neg h1] at hne
        exact absurd rfl hne
    · have eM : mT I (thv T n k).2 (if (thv T n k).1 = -4 then 1 else 0) = if 1 ≤ v ∧ v ≤ 20 then mT I (if 48 ≤ tat T n (tnl T n k + 1) ∧ tat T n (tnl T n k + 1) ≤ 57 then tnl T n k + 2 else tnl T n k + 1) 0 else mT I (tnl T n k) 1 := by
        rw [ethv]
        by_cases h1 : 1 ≤ v ∧ v ≤ 20
        · rw [if_pos h1, if_pos h1]
          dsimp only
          rw [if_neg (show ¬ v = -4 by omega)]
        · rw [if_neg h1, if_neg h1, if_pos rfl]
      rw [eM]
      have k0 : zE X mX7_number 0 0 55 [zR 157, zI 1, zI 20, zI (mat T n (tnl T n k)), zI (tnl T n k : Int), zI 0] [] sh (mT I (tnl T n k) 0) L R (zEq [zI v] sh (if 1 ≤ v ∧ v ≤ 20 then mT I (if 48 ≤ tat T n (tnl T n k + 1) ∧ tat T n (tnl T n k + 1) ≤ 57 then tnl T n k + 2 else tnl T n k + 1) 0 else mT I (tnl T n k) 1) L R) := by
        generalize mat T n (tnl T n k) = c at *
        generalize tnl T n k = p at *
        refine z_aload0 56 dX7_number_55 rfl ?_
        refine z_getIx 59 dX7_number_56 fl_RX7_133 (by assumption) (mT_5 _ _ _) rfl ?_
        refine z_if_ne 139 62 dX7_number_59 (by decide) rfl (by omega) (fun hz => absurd hz (by omega)) (fun h59 => ?_)
        refine z_aload0 63 dX7_number_62 rfl ?_
        refine z_getIx 66 dX7_number_63 fl_RX7_130 (by assumption) (mT_4 _ _ _) rfl ?_
        refine z_aload0 67 dX7_number_66 rfl ?_
        refine z_getIx 70 dX7_number_67 fl_RX7_127 (by assumption) ((mT_c _ _ _ (by decide) (by decide)).trans t1) rfl ?_
        refine z_icmp_ge 139 73 dX7_number_70 (by decide) rfl (by omega) (by omega) (fun hz => absurd hz (by omega)) (fun h70 => ?_)
        refine z_aload0 74 dX7_number_73 rfl ?_
        refine z_getIx 77 dX7_number_74 fl_RX7_130 (by assumption) (mT_4 _ _ _) rfl ?_
        refine z_iload4 79 dX7_number_77 rfl ?_
        refine z_isub 80 dX7_number_79 rfl ?_
        refine z_iconst 81 dX7_number_80 rfl ?_
        refine z_icmp_ge 139 84 dX7_number_81 (by decide) rfl (by omega) (by omega) (fun hz => absurd hz (by omega)) (fun h81 => ?_)
        refine z_aload0 85 dX7_number_84 rfl ?_
        refine z_getR 88 dX7_number_85 fl_RX7_16 (by assumption) (by assumption) rfl ?_
        refine z_aload0 89 dX7_number_88 rfl ?_
        refine z_getIx 92 dX7_number_89 fl_RX7_130 (by assumption) (mT_4 _ _ _) rfl ?_
        refine z_ialdx 93 (p) dX7_number_92 (by assumption) (by omega) (by omega) (eT) rfl ?_
        refine z_i2l 94 dX7_number_93 (by omega) rfl ?_
        refine z_ldc2 97 dX7_number_94 kl_RX7_144 rfl ?_
        refine z_ldc2 100 dX7_number_97 kl_RX7_146 rfl ?_
        refine z_xS3 103 dX7_number_100 lk_X7_number_56 (ct_X7_in (by omega) (by omega) (by omega)) rfl (Nat.le_of_ble_eq_true rfl) (Nat.le_of_ble_eq_true rfl) rfl ?_
        rw [z2]
        refine z_if_eq 139 106 dX7_number_103 (by decide) rfl (by omega) (fun hz => absurd hz (by omega)) (fun h103 => ?_)
        refine z_bipush 108 dX7_number_106 (by decide) rfl ?_
        refine z_iload5 110 dX7_number_108 rfl ?_
        refine z_imul 111 dX7_number_110 rfl ?_
        refine z_aload0 112 dX7_number_111 rfl ?_
        refine z_getR 115 dX7_number_112 fl_RX7_16 (by assumption) (by assumption) rfl ?_
        refine z_aload0 116 dX7_number_115 rfl ?_
        refine z_getIx 119 dX7_number_116 fl_RX7_130 (by assumption) (mT_4 _ _ _) rfl ?_
        refine z_ialdx 120 (p) dX7_number_119 (by assumption) (by omega) (by omega) (eT) rfl ?_
        refine z_iadd 121 dX7_number_120 rfl ?_
        refine z_bipush 123 dX7_number_121 (by decide) rfl ?_
        refine z_isub 124 dX7_number_123 rfl ?_
        refine z_istore5 126 dX7_number_124 (Nat.le_of_ble_eq_true rfl) rfl rfl ?_
        refine z_aload0 127 dX7_number_126 rfl ?_
        refine z_dup 128 dX7_number_127 rfl rfl ?_
        refine z_getIx 131 dX7_number_128 fl_RX7_130 (by assumption) (mT_4 _ _ _) rfl ?_
        refine z_iconst 132 dX7_number_131 rfl ?_
        refine z_iadd 133 dX7_number_132 rfl ?_
        refine z_putIx 136 dX7_number_133 fp_RX7_130 (by assumption) (mT_u4 _ _ (p + 1) _ (by omega)) rfl ?_
        refine z_goto 55 dX7_number_136 (by decide) ?_
        rw [show (10 : Int) * 0 + c - 48 = c - 48 by omega]
        exact k2
      refine z_aload0 1 dX7_number_0 rfl ?_
      refine z_getIx 4 dX7_number_1 fl_RX7_133 (by assumption) (mT_5 _ _ _) rfl ?_
      refine z_if_eq 11 7 dX7_number_4 (by decide) rfl (by omega) (fun h4 => ?_) (fun hz => absurd hz (by omega))
      refine z_aload0 12 dX7_number_11 rfl ?_
      refine z_xV0 15 dX7_number_12 lk_X7_number_137 (kh) rfl (Nat.le_of_ble_eq_true rfl) (Nat.le_of_ble_eq_true rfl) (by assumption) rfl rfl ?_
      refine z_istore3 16 dX7_number_15 (Nat.le_of_ble_eq_true rfl) rfl rfl ?_
      refine z_aload0 17 dX7_number_16 rfl ?_
      refine z_getIx 20 dX7_number_17 fl_RX7_130 (by assumption) (mT_4 _ _ _) rfl ?_
      refine z_istore4 22 dX7_number_20 (Nat.le_of_ble_eq_true rfl) rfl rfl ?_
      refine z_iconst 23 dX7_number_22 rfl ?_
      refine z_istore5 25 dX7_number_23 (Nat.le_of_ble_eq_true rfl) rfl rfl ?_
      refine z_aload0 26 dX7_number_25 rfl ?_
      refine z_aload0 27 dX7_number_26 rfl ?_
      refine z_getIx 30 dX7_number_27 fl_RX7_133 (by assumption) (mT_5 _ _ _) rfl ?_
      refine z_if_ne 47 33 dX7_number_30 (by decide) rfl (by omega) (fun hz => absurd hz (by omega)) (fun h30 => ?_)
      refine z_iload3 34 dX7_number_33 rfl ?_
      refine z_i2l 35 dX7_number_34 (by omega) rfl ?_
      refine z_ldc2 38 dX7_number_35 kl_RX7_144 rfl ?_
      refine z_ldc2 41 dX7_number_38 kl_RX7_146 rfl ?_
      refine z_xS3 44 dX7_number_41 lk_X7_number_56 (ct_X7_in (by omega) (by omega) (by omega)) rfl (Nat.le_of_ble_eq_true rfl) (Nat.le_of_ble_eq_true rfl) rfl ?_
      rw [z2]
      refine z_if_ne 51 47 dX7_number_44 (by decide) rfl (by omega) (fun h44 => ?_) (fun hz => absurd hz (by omega))
      refine z_iconst 52 dX7_number_51 rfl ?_
      refine z_putZx 55 dX7_number_52 fp_RX7_133 (by omega) (by assumption) (mT_u5 _ _ _ _) rfl ?_
      exact k0
  · have e : tdg T n 48 57 k = (-4, tnl T n k) := by unfold tdg; rw [if_neg hc]
    have ethv : thv T n k = (-4, tnl T n k) := by
      unfold thv
      rw [e, if_pos rfl]
    rw [ethv, if_pos rfl]
    have z2 : zwi (mat T n (tnl T n k)) 48 57 = 0 := zwi_0 (by omega)
    have kh := ct_X7_here (X := X) (L := L) (f := 0) hM ht hk
    refine ⟨0, fun h => absurd rfl h, ?_⟩
    generalize mat T n (tnl T n k) = c at *
    refine z_aload0 1 dX7_number_0 rfl ?_
    refine z_getIx 4 dX7_number_1 fl_RX7_133 (by assumption) (mT_5 _ _ _) rfl ?_
    refine z_if_eq 11 7 dX7_number_4 (by decide) rfl (by omega) (fun h4 => ?_) (fun hz => absurd hz (by omega))
    refine z_aload0 12 dX7_number_11 rfl ?_
    refine z_xV0 15 dX7_number_12 lk_X7_number_137 (kh) rfl (Nat.le_of_ble_eq_true rfl) (Nat.le_of_ble_eq_true rfl) (by assumption) rfl rfl ?_
    refine z_istore3 16 dX7_number_15 (Nat.le_of_ble_eq_true rfl) rfl rfl ?_
    refine z_aload0 17 dX7_number_16 rfl ?_
    refine z_getIx 20 dX7_number_17 fl_RX7_130 (by assumption) (mT_4 _ _ _) rfl ?_
    refine z_istore4 22 dX7_number_20 (Nat.le_of_ble_eq_true rfl) rfl rfl ?_
    refine z_iconst 23 dX7_number_22 rfl ?_
    refine z_istore5 25 dX7_number_23 (Nat.le_of_ble_eq_true rfl) rfl rfl ?_
    refine z_aload0 26 dX7_number_25 rfl ?_
    refine z_aload0 27 dX7_number_26 rfl ?_
    refine z_getIx 30 dX7_number_27 fl_RX7_133 (by assumption) (mT_5 _ _ _) rfl ?_
    refine z_if_ne 47 33 dX7_number_30 (by decide) rfl (by omega) (fun hz => absurd hz (by omega)) (fun h30 => ?_)
    refine z_iload3 34 dX7_number_33 rfl ?_
    refine z_i2l 35 dX7_number_34 (by omega) rfl ?_
    refine z_ldc2 38 dX7_number_35 kl_RX7_144 rfl ?_
    refine z_ldc2 41 dX7_number_38 kl_RX7_146 rfl ?_
    refine z_xS3 44 dX7_number_41 lk_X7_number_56 (ct_X7_in (by omega) (by omega) (by omega)) rfl (Nat.le_of_ble_eq_true rfl) (Nat.le_of_ble_eq_true rfl) rfl ?_
    rw [z2]
    refine z_if_ne 51 47 dX7_number_44 (by decide) rfl (by omega) (fun hz => absurd hz (by omega)) (fun h44 => ?_)
    refine z_iconst 48 dX7_number_47 rfl ?_
    refine z_goto 52 dX7_number_48 (by decide) ?_
    refine z_putZx 55 dX7_number_52 fp_RX7_133 (by omega) (by assumption) (mT_u5 _ _ _ _) rfl ?_
    refine z_aload0 56 dX7_number_55 rfl ?_
    refine z_getIx 59 dX7_number_56 fl_RX7_133 (by assumption) (mT_5 _ _ _) rfl ?_
    refine z_if_ne 139 62 dX7_number_59 (by decide) rfl (by omega) (fun h59 => ?_) (fun hz => absurd hz (by omega))
    refine z_aload0 140 dX7_number_139 rfl ?_
    refine z_getIx 143 dX7_number_140 fl_RX7_133 (by assumption) (mT_5 _ _ _) rfl ?_
    refine z_if_ne 170 146 dX7_number_143 (by decide) rfl (by omega) (fun h143 => ?_) (fun hz => absurd hz (by omega))
    refine z_iload5 172 dX7_number_170 rfl ?_
    exact z_ireturn dX7_number_172 rfl (⟨rfl, rfl, rfl, rfl, rfl⟩)
theorem ct_X7_number1 {k : Nat} (hM : zMs sh R) (hk : k ≤ 100) : zE X mX7_number 0 0 0 [zR 157, zI 1, zI 20, zX, zX, zX] [] sh (mT I k 1) L R (zEq [zI 0] sh (mT I k 1) L R) := by
  obtain ⟨⟨s0, s1, s2, s3, s4, s5, s6, s7, s8, s9, s10, s11, s12, s13, s14, s15⟩, r0, r1, r2, r3, r4, r5, r6, r7, r8, r9, r10, r11, r12, r13, r14⟩ := id hM
  refine z_aload0 1 dX7_number_0 rfl ?_
  refine z_getIx 4 dX7_number_1 fl_RX7_133 (by assumption) (mT_5 _ _ _) rfl ?_
  refine z_if_eq 11 7 dX7_number_4 (by decide) rfl (by omega) (fun hz => absurd hz (by omega)) (fun h4 => ?_)
  refine z_iconst 8 dX7_number_7 rfl ?_
  refine z_goto 15 dX7_number_8 (by decide) ?_
  refine z_istore3 16 dX7_number_15 (Nat.le_of_ble_eq_true rfl) rfl rfl ?_
  refine z_aload0 17 dX7_number_16 rfl ?_
  refine z_getIx 20 dX7_number_17 fl_RX7_130 (by assumption) (mT_4 _ _ _) rfl ?_
  refine z_istore4 22 dX7_number_20 (Nat.le_of_ble_eq_true rfl) rfl rfl ?_
  refine z_iconst 23 dX7_number_22 rfl ?_
  refine z_istore5 25 dX7_number_23 (Nat.le_of_ble_eq_true rfl) rfl rfl ?_
  refine z_aload0 26 dX7_number_25 rfl ?_
  refine z_aload0 27 dX7_number_26 rfl ?_
  refine z_getIx 30 dX7_number_27 fl_RX7_133 (by assumption) (mT_5 _ _ _) rfl ?_
  refine z_if_ne 47 33 dX7_number_30 (by decide) rfl (by omega) (fun h30 => ?_) (fun hz => absurd hz (by omega))
  refine z_iconst 48 dX7_number_47 rfl ?_
  refine z_goto 52 dX7_number_48 (by decide) ?_
  refine z_putZx 55 dX7_number_52 fp_RX7_133 (by omega) (by assumption) (mT_u5 _ _ _ _) rfl ?_
  refine z_aload0 56 dX7_number_55 rfl ?_
  refine z_getIx 59 dX7_number_56 fl_RX7_133 (by assumption) (mT_5 _ _ _) rfl ?_
  refine z_if_ne 139 62 dX7_number_59 (by decide) rfl (by omega) (fun h59 => ?_) (fun hz => absurd hz (by omega))
  refine z_aload0 140 dX7_number_139 rfl ?_
  refine z_getIx 143 dX7_number_140 fl_RX7_133 (by assumption) (mT_5 _ _ _) rfl ?_
  refine z_if_ne 170 146 dX7_number_143 (by decide) rfl (by omega) (fun h143 => ?_) (fun hz => absurd hz (by omega))
  refine z_iload5 172 dX7_number_170 rfl ?_
  exact z_ireturn dX7_number_172 rfl (⟨rfl, rfl, rfl, rfl, rfl⟩)
end MODU
