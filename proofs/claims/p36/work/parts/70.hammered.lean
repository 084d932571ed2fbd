/-! ===== the law's through and hammered ===== -/
theorem pscn_r (T : zT) : ∀ (m i x : Nat), x ≤ scn T m i x ∧ scn T m i x ≤ x + m
  | 0, i, x => by unfold scn; omega
  | m + 1, i, x => by
    unfold scn
    have h1 := pscn_r T m (i + 1) (x + 1)
    have h2 := pscn_r T m (i + 1) x
    split <;> omega
/-- how many would be through, without turn t's bump -/
def sthb (S : zT) (t : Nat) : Nat := scn (zup S 2 t 0) (S 0 6).toNat 0 0
theorem sbm_s (S : zT) : ∀ (m t k : Nat), k < t → (∀ j, j < t → sthb S j ≤ sthb S k) → (∀ j, j < k → sthb S j < sthb S k) → ∃ k' : Nat, sbm S m t (k : Int) (sthb S k : Int) = ((k' : Int), (sthb S k' : Int)) ∧ k' < t + m ∧ (∀ j, j < t + m → sthb S j ≤ sthb S k') ∧ ∀ j, j < k' → sthb S j < sthb S k'
  | 0, t, k, hk, h1, h2 => ⟨k, rfl, hk, h1, h2⟩
  | m + 1, t, k, hk, h1, h2 => by
    have e : t + (m + 1) = t + 1 + m := by omega
    rw [e]
    unfold sbm
    show ∃ k' : Nat, (if (sthb S k : Int) < (sthb S t : Int) then sbm S m (t + 1) (t : Int) (sthb S t : Int) else sbm S m (t + 1) (k : Int) (sthb S k : Int)) = ((k' : Int), (sthb S k' : Int)) ∧ _
    by_cases h : (sthb S k : Int) < (sthb S t : Int)
    · rw [if_pos h]
      refine sbm_s S m (t + 1) t (by omega) (fun j hj => ?_) (fun j hj => ?_)
      · by_cases ej : j = t
        · subst ej; exact Nat.le_refl _
        · have := h1 j (by omega); omega
      · have := h1 j (by omega); omega
    · rw [if_neg h]
      refine sbm_s S m (t + 1) k (by omega) (fun j hj => ?_) h2
      by_cases ej : j = t
      · subst ej; omega
      · exact h1 j (by omega)
theorem sbm_0 (S : zT) : ∃ k : Nat, sbm S 10 0 0 (-1) = ((k : Int), (sthb S k : Int)) ∧ k < 10 ∧ (∀ j, j < 10 → sthb S j ≤ sthb S k) ∧ ∀ j, j < k → sthb S j < sthb S k := by
  have h := sbm_s S 9 1 0 (by omega) (fun j hj => by rw [show j = 0 by omega]; exact Nat.le_refl _) (fun j hj => by omega)
  have e : sbm S 10 0 0 (-1) = sbm S 9 1 ((0 : Nat) : Int) (sthb S 0 : Int) := by
    rw [sbm, if_pos (by omega)]
    rfl
  rw [e]
  exact h
section HAMM
variable {X : zXs} {sh : zH} {J0 K0 : zI2} {Z0 : zR2} {S : zT} {hh : List zT} {TS : List Int × (Nat → Int × (Int × (Nat → Int)))}
theorem lp_through {A : zA} (hs : sh[157]? = some (20, 43)) (hw : J0 157 0 = A.1 0 6) (hg : gd A.1) : ∀ (m r x : Nat) (I L : zI2) (R : zR2), r + m = (A.1 0 6).toNat → x ≤ r → pH sh J0 K0 Z0 I L R A → zE X mL_through 0 0 4 [zR 0, zR 157, zI (x : Int), zI (r : Int)] [] sh I L R (zOp sh J0 K0 Z0 (zI ((scn A.1 m r x : Nat) : Int)) A)
  | 0, r, x, I, L, R, hm, hx, h => by
    have n5 := hg.n5
    refine z_iload3 5 dL_through_4 rfl ?_
    refine z_aload1 6 dL_through_5 rfl ?_
    refine z_iconst 7 dL_through_6 rfl ?_
    refine z_ialdx 8 (0) dL_through_7 (by assumption) (by omega) (by omega) ((congrFun (h.2 157 (by decide)).1 0).trans hw) rfl ?_
    refine z_icmp_ge 35 11 dL_through_8 (by decide) rfl (by omega) (by omega) (fun h8 => ?_) (fun hz => absurd hz (by omega))
    refine z_iload2 36 dL_through_35 rfl ?_
    exact z_ireturn dL_through_36 rfl (zOp_h h)
  | m + 1, r, x, I, L, R, hm, hx, h => by
    have s0 := h.sh0
    have n5 := hg.n5
    have hr : (r : Int) < A.1 0 6 := by omega
    have hre := sfe_r A.1 r hg.sr (by omega)
    have k1 := fun I L R => lp_through hs hw hg m (r + 1) (x + 1) I L R (by omega) (by omega)
    have k2 := fun I L R => lp_through hs hw hg m (r + 1) x I L R (by omega) (by omega)
    refine z_iload3 5 dL_through_4 rfl ?_
    refine z_aload1 6 dL_through_5 rfl ?_
    refine z_iconst 7 dL_through_6 rfl ?_
    refine z_ialdx 8 (0) dL_through_7 (by assumption) (by omega) (by omega) ((congrFun (h.2 157 (by decide)).1 0).trans hw) rfl ?_
    refine z_icmp_ge 35 11 dL_through_8 (by decide) rfl (by omega) (by omega) (fun hz => absurd hz (by omega)) (fun h8 => ?_)
    refine z_iload2 12 dL_through_11 rfl ?_
    refine z_aload0 13 dL_through_12 rfl ?_
    refine z_iload3 14 dL_through_13 rfl ?_
    refine z_pV1 17 dL_through_14 lk_L_through_130 (pc_ends h n5.2 hr) rfl (Nat.le_of_ble_eq_true rfl) (Nat.le_of_ble_eq_true rfl) (by assumption) rfl rfl (fun r0 sh0 I0 L0 R0 hpq => ?_)
    obtain ⟨rfl, rfl, h⟩ := pO hpq
    refine z_bipush 19 dL_through_17 (by decide) rfl ?_
    refine z_icmp_ge 26 22 dL_through_19 (by decide) rfl (by omega) (by omega) (fun h19 => ?_) (fun h19 => ?_)
    · refine z_iconst 27 dL_through_26 rfl ?_
      refine z_iadd 28 dL_through_27 rfl ?_
      refine z_istore2 29 dL_through_28 (Nat.le_of_ble_eq_true rfl) rfl rfl ?_
      refine z_iinc3 32 dL_through_29 (Nat.le_of_ble_eq_true rfl) rfl rfl ?_
      refine z_goto 4 dL_through_32 (by decide) ?_
      first | (rw [show scn A.1 (m + 1) r x = scn A.1 m (r + 1) (x + 1) by rw [scn, if_pos (by omega)]]; exact k1 _ _ _ h) | (rw [show scn A.1 (m + 1) r x = scn A.1 m (r + 1) x by rw [scn, if_neg (by omega)]]; exact k2 _ _ _ h)
    · refine z_iconst 23 dL_through_22 rfl ?_
      refine z_goto 27 dL_through_23 (by decide) ?_
      refine z_iadd 28 dL_through_27 rfl ?_
      refine z_istore2 29 dL_through_28 (Nat.le_of_ble_eq_true rfl) rfl rfl ?_
      refine z_iinc3 32 dL_through_29 (Nat.le_of_ble_eq_true rfl) rfl rfl ?_
      refine z_goto 4 dL_through_32 (by decide) ?_
      first | (rw [show scn A.1 (m + 1) r x = scn A.1 m (r + 1) (x + 1) by rw [scn, if_pos (by omega)]]; exact k1 _ _ _ h) | (rw [show scn A.1 (m + 1) r x = scn A.1 m (r + 1) x by rw [scn, if_neg (by omega)]]; exact k2 _ _ _ h)
theorem ct_L_through {A : zA} {I L : zI2} {R : zR2} (hs : sh[157]? = some (20, 43)) (hw : J0 157 0 = A.1 0 6) (hg : gd A.1) (h : pH sh J0 K0 Z0 I L R A) : zE X mL_through 0 0 0 [zR 0, zR 157, zX, zX] [] sh I L R (zOp sh J0 K0 Z0 (zI ((scn A.1 (A.1 0 6).toNat 0 0 : Nat) : Int)) A) := by
  have n5 := hg.n5
  refine z_iconst 1 dL_through_0 rfl ?_
  refine z_istore2 2 dL_through_1 (Nat.le_of_ble_eq_true rfl) rfl rfl ?_
  refine z_iconst 3 dL_through_2 rfl ?_
  refine z_istore3 4 dL_through_3 (Nat.le_of_ble_eq_true rfl) rfl rfl ?_
  exact lp_through hs hw hg (A.1 0 6).toNat 0 0 _ _ _ (by omega) (Nat.le_refl _) h
theorem lp_hammered49 {k : Nat} (hs : sh[157]? = some (20, 43)) (hw : J0 157 0 = S 0 6) (hg : gd S) (hk : k < 10) (h1 : ∀ j, j < 10 → sthb S j ≤ sthb S k) (h2 : ∀ j, j < k → sthb S j < sthb S k) : ∀ (m t : Nat) (z8 : zV) (I L : zI2) (R : zR2), t + m = 10 → pH sh J0 K0 Z0 I L R (pA S hh TS) → zE X mL_hammered 0 0 49 [zR 0, zR 157, zL (phash (pA S hh TS)), zX, zI (k : Int), zI (sthb S k : Int), zI 1, zI (t : Int), z8] [] sh I L R (zOp sh J0 K0 Z0 (zI 1) (pA S hh TS))
  | 0, t, z8, I, L, R, hm, h => by
    refine z_iload7 51 dL_hammered_49 rfl ?_
    refine z_bipush 53 dL_hammered_51 (by decide) rfl ?_
    refine z_icmp_ge 181 56 dL_hammered_53 (by decide) rfl (by omega) (by omega) (fun h53 => ?_) (fun hz => absurd hz (by omega))
    refine z_iload6 183 dL_hammered_181 rfl ?_
    refine z_if_eq 200 186 dL_hammered_183 (by decide) rfl (by omega) (fun hz => absurd hz ((by omega))) (fun h183 => ?_)
    refine z_aload0 187 dL_hammered_186 rfl ?_
    refine z_aload1 188 dL_hammered_187 rfl ?_
    refine z_pS2 191 dL_hammered_188 lk_L_hammered_87 (ct_L_hash hs hw hg h) rfl (Nat.le_of_ble_eq_true rfl) (Nat.le_of_ble_eq_true rfl) rfl (fun r0 sh0 I0 L0 R0 hpq => ?_)
    obtain ⟨rfl, rfl, h⟩ := pO hpq
    refine z_lload2 192 dL_hammered_191 rfl ?_
    refine z_lcmpS 193 dL_hammered_192 rfl ?_
    refine z_if_ne 200 196 dL_hammered_193 (by decide) rfl (by omega) (fun hz => absurd hz (by omega)) (fun h193 => ?_)
    refine z_iconst 197 dL_hammered_196 rfl ?_
    refine z_goto 201 dL_hammered_197 (by decide) ?_
    exact z_zreturn dL_hammered_201 rfl (by omega) (zOp_h h)
  | m + 1, t, z8, I, L, R, hm, h => by
    have s0 := h.sh0
    have n5 := hg.n5
    have g2 := hg.sr.2.2.1 t (by omega)
    have q1 := h1 t (by omega)
    have q2 := h2 t
    have b1 := pscn_r (zup S 2 t 0) (S 0 6).toNat 0 0
    have b2 := pscn_r (zup S 2 k 0) (S 0 6).toNat 0 0
    have f1 : scn (zup S 2 t 0) (S 0 6).toNat 0 0 = sthb S t := rfl
    have f2 : scn (zup S 2 k 0) (S 0 6).toNat 0 0 = sthb S k := rfl
    rw [f1] at b1
    rw [f2] at b2
    clear f1 f2
    have e6 : zup S 2 t 0 0 6 = S 0 6 := zup_ne _ _ (by omega)
    have hg1 := gd_row (i := 2) (t := t) (v := 0) hg (Or.inr rfl) (by omega)
    have e22 : zup S 2 t 0 2 t = 0 := zup_at _ _ _ _
    have eth : scn (zup S 2 t 0) (zup S 2 t 0 0 6).toNat 0 0 = sthb S t := by rw [e6]; rfl
    have ekt : t = k → sthb S t = sthb S k := fun z => by rw [z]
    have kr := fun z8 I L R => lp_hammered49 hs hw hg hk h1 h2 m (t + 1) z8 I L R (by omega)
    by_cases hbz : S 2 t = 0
    · have eS : zup S 2 t 0 = S := by
        have := zup_self S 2 t
        rw [hbz] at this
        exact this
      rw [eS] at eth
      refine z_iload7 51 dL_hammered_49 rfl ?_
      refine z_bipush 53 dL_hammered_51 (by decide) rfl ?_
      refine z_icmp_ge 181 56 dL_hammered_53 (by decide) rfl (by omega) (by omega) (fun hz => absurd hz (by omega)) (fun h53 => ?_)
      refine z_iload6 58 dL_hammered_56 rfl ?_
      refine z_if_eq 181 61 dL_hammered_58 (by decide) rfl (by omega) (fun hz => absurd hz ((by omega))) (fun h58 => ?_)
      refine z_aload0 62 dL_hammered_61 rfl ?_
      refine z_iload7 64 dL_hammered_62 rfl ?_
      refine z_iconst 65 dL_hammered_64 rfl ?_
      refine z_pV2 68 dL_hammered_65 lk_L_hammered_66 (pc_at1 h (by omega)) rfl (Nat.le_of_ble_eq_true rfl) (Nat.le_of_ble_eq_true rfl) (by assumption) rfl rfl (fun r0 sh0 I0 L0 R0 hpq => ?_)
      obtain ⟨rfl, rfl, h⟩ := pO hpq
      show zE X mL_hammered 0 0 68 _ [zI (S 2 t)] sh _ _ _ _
      refine z_if_eq 81 71 dL_hammered_68 (by decide) rfl (by omega) (fun h68 => ?_) (fun hz => absurd hz (by omega))
      refine z_iconst 82 dL_hammered_81 rfl ?_
      refine z_goto 86 dL_hammered_82 (by decide) ?_
      refine z_istore6 88 dL_hammered_86 (Nat.le_of_ble_eq_true rfl) rfl rfl ?_
      refine z_iload6 90 dL_hammered_88 rfl ?_
      refine z_if_eq 101 93 dL_hammered_90 (by decide) rfl (by omega) (fun hz => absurd hz ((by omega))) (fun h90 => ?_)
      refine z_aload0 94 dL_hammered_93 rfl ?_
      refine z_aload1 95 dL_hammered_94 rfl ?_
      refine z_pS2 98 dL_hammered_95 lk_L_hammered_155 (ct_L_through hs hw hg h) rfl (Nat.le_of_ble_eq_true rfl) (Nat.le_of_ble_eq_true rfl) rfl (fun r0 sh0 I0 L0 R0 hpq => ?_)
      obtain ⟨rfl, rfl, h⟩ := pO hpq
      rw [show scn (pA S hh TS).1 ((pA S hh TS).1 0 6).toNat 0 0 = sthb S t from eth]
      refine z_goto 102 dL_hammered_98 (by decide) ?_
      refine z_istore8 104 dL_hammered_102 (Nat.le_of_ble_eq_true rfl) rfl rfl ?_
      refine z_iload6 106 dL_hammered_104 rfl ?_
      refine z_if_eq 172 109 dL_hammered_106 (by decide) rfl (by omega) (fun hz => absurd hz ((by omega))) (fun h106 => ?_)
      refine z_iload7 111 dL_hammered_109 rfl ?_
      refine z_iload4 113 dL_hammered_111 rfl ?_
      refine z_icmp_ge 126 116 dL_hammered_113 (by decide) rfl (by omega) (by omega) (fun h113 => ?_) (fun h113 => ?_)
      · refine z_iload7 128 dL_hammered_126 rfl ?_
        refine z_iload4 130 dL_hammered_128 rfl ?_
        refine z_icmp_ne 143 133 dL_hammered_130 (by decide) rfl (by omega) (by omega) (fun h130 => ?_) (fun h130 => ?_)
        · refine z_iload8 145 dL_hammered_143 rfl ?_
          refine z_iload5 147 dL_hammered_145 rfl ?_
          refine z_icmp_gt 172 150 dL_hammered_147 (by decide) rfl (by omega) (by omega) (fun hz => absurd hz (by omega)) (fun h147 => ?_)
          refine z_aload0 151 dL_hammered_150 rfl ?_
          refine z_iload7 153 dL_hammered_151 rfl ?_
          refine z_iconst 154 dL_hammered_153 rfl ?_
          refine z_pV2 157 dL_hammered_154 lk_L_hammered_66 (pc_at1 h (by omega)) rfl (Nat.le_of_ble_eq_true rfl) (Nat.le_of_ble_eq_true rfl) (by assumption) rfl rfl (fun r0 sh0 I0 L0 R0 hpq => ?_)
          obtain ⟨rfl, rfl, h⟩ := pO hpq
          show zE X mL_hammered 0 0 157 _ [zI (S 2 t)] sh _ _ _ _
          refine z_if_ne 172 160 dL_hammered_157 (by decide) rfl (by omega) (fun hz => absurd hz ((by omega))) (fun h157 => ?_)
          refine z_aload0 161 dL_hammered_160 rfl ?_
          refine z_pV0 164 dL_hammered_161 lk_L_hammered_120 (pc_restore h (q := (S, hh)) rfl) rfl (Nat.le_of_ble_eq_true rfl) (Nat.le_of_ble_eq_true rfl) (by assumption) rfl rfl (fun r0 sh0 I0 L0 R0 hpq => ?_)
          obtain ⟨rfl, rfl, h⟩ := pO hpq
          refine z_iconst 165 dL_hammered_164 rfl ?_
          refine z_icmp_ne 172 168 dL_hammered_165 (by decide) rfl (by omega) (by omega) (fun hz => absurd hz ((by omega))) (fun h165 => ?_)
          refine z_iconst 169 dL_hammered_168 rfl ?_
          refine z_goto 173 dL_hammered_169 (by decide) ?_
          refine z_istore6 175 dL_hammered_173 (Nat.le_of_ble_eq_true rfl) rfl rfl ?_
          refine z_iinc7 178 dL_hammered_175 (Nat.le_of_ble_eq_true rfl) rfl rfl ?_
          refine z_goto 49 dL_hammered_178 (by decide) ?_
          exact kr _ _ _ _ h
        · refine z_iload8 135 dL_hammered_133 rfl ?_
          refine z_iload5 137 dL_hammered_135 rfl ?_
          refine z_icmp_ne 172 140 dL_hammered_137 (by decide) rfl (by omega) (by omega) (fun hz => absurd hz ((by omega))) (fun h137 => ?_)
          refine z_goto 150 dL_hammered_140 (by decide) ?_
          refine z_aload0 151 dL_hammered_150 rfl ?_
          refine z_iload7 153 dL_hammered_151 rfl ?_
          refine z_iconst 154 dL_hammered_153 rfl ?_
          refine z_pV2 157 dL_hammered_154 lk_L_hammered_66 (pc_at1 h (by omega)) rfl (Nat.le_of_ble_eq_true rfl) (Nat.le_of_ble_eq_true rfl) (by assumption) rfl rfl (fun r0 sh0 I0 L0 R0 hpq => ?_)
          obtain ⟨rfl, rfl, h⟩ := pO hpq
          show zE X mL_hammered 0 0 157 _ [zI (S 2 t)] sh _ _ _ _
          refine z_if_ne 172 160 dL_hammered_157 (by decide) rfl (by omega) (fun hz => absurd hz ((by omega))) (fun h157 => ?_)
          refine z_aload0 161 dL_hammered_160 rfl ?_
          refine z_pV0 164 dL_hammered_161 lk_L_hammered_120 (pc_restore h (q := (S, hh)) rfl) rfl (Nat.le_of_ble_eq_true rfl) (Nat.le_of_ble_eq_true rfl) (by assumption) rfl rfl (fun r0 sh0 I0 L0 R0 hpq => ?_)
          obtain ⟨rfl, rfl, h⟩ := pO hpq
          refine z_iconst 165 dL_hammered_164 rfl ?_
          refine z_icmp_ne 172 168 dL_hammered_165 (by decide) rfl (by omega) (by omega) (fun hz => absurd hz ((by omega))) (fun h165 => ?_)
          refine z_iconst 169 dL_hammered_168 rfl ?_
          refine z_goto 173 dL_hammered_169 (by decide) ?_
          refine z_istore6 175 dL_hammered_173 (Nat.le_of_ble_eq_true rfl) rfl rfl ?_
          refine z_iinc7 178 dL_hammered_175 (Nat.le_of_ble_eq_true rfl) rfl rfl ?_
          refine z_goto 49 dL_hammered_178 (by decide) ?_
          exact kr _ _ _ _ h
      · refine z_iload8 118 dL_hammered_116 rfl ?_
        refine z_iload5 120 dL_hammered_118 rfl ?_
        refine z_icmp_ge 172 123 dL_hammered_120 (by decide) rfl (by omega) (by omega) (fun hz => absurd hz (by omega)) (fun h120 => ?_)
        refine z_goto 150 dL_hammered_123 (by decide) ?_
        refine z_aload0 151 dL_hammered_150 rfl ?_
        refine z_iload7 153 dL_hammered_151 rfl ?_
        refine z_iconst 154 dL_hammered_153 rfl ?_
        refine z_pV2 157 dL_hammered_154 lk_L_hammered_66 (pc_at1 h (by omega)) rfl (Nat.le_of_ble_eq_true rfl) (Nat.le_of_ble_eq_true rfl) (by assumption) rfl rfl (fun r0 sh0 I0 L0 R0 hpq => ?_)
        obtain ⟨rfl, rfl, h⟩ := pO hpq
        show zE X mL_hammered 0 0 157 _ [zI (S 2 t)] sh _ _ _ _
        refine z_if_ne 172 160 dL_hammered_157 (by decide) rfl (by omega) (fun hz => absurd hz ((by omega))) (fun h157 => ?_)
        refine z_aload0 161 dL_hammered_160 rfl ?_
        refine z_pV0 164 dL_hammered_161 lk_L_hammered_120 (pc_restore h (q := (S, hh)) rfl) rfl (Nat.le_of_ble_eq_true rfl) (Nat.le_of_ble_eq_true rfl) (by assumption) rfl rfl (fun r0 sh0 I0 L0 R0 hpq => ?_)
        obtain ⟨rfl, rfl, h⟩ := pO hpq
        refine z_iconst 165 dL_hammered_164 rfl ?_
        refine z_icmp_ne 172 168 dL_hammered_165 (by decide) rfl (by omega) (by omega) (fun hz => absurd hz ((by omega))) (fun h165 => ?_)
        refine z_iconst 169 dL_hammered_168 rfl ?_
        refine z_goto 173 dL_hammered_169 (by decide) ?_
        refine z_istore6 175 dL_hammered_173 (Nat.le_of_ble_eq_true rfl) rfl rfl ?_
        refine z_iinc7 178 dL_hammered_175 (Nat.le_of_ble_eq_true rfl) rfl rfl ?_
        refine z_goto 49 dL_hammered_178 (by decide) ?_
        exact kr _ _ _ _ h
    · have ew : oWax (pA S hh TS) 2 (t : Int) 0 = (S 2 t, (zup S 2 t 0, (oPush (pA S hh TS)).2)) := by
        unfold oWax
        rw [if_pos (by omega), Int.toNat_natCast, if_neg hbz]
      obtain ⟨B2, hB2⟩ : ∃ B2, (oPush (pA S hh TS)).2 = (B2, (some (S, hh), TS)) := ⟨_, rfl⟩
      rw [hB2] at ew
      refine z_iload7 51 dL_hammered_49 rfl ?_
      refine z_bipush 53 dL_hammered_51 (by decide) rfl ?_
      refine z_icmp_ge 181 56 dL_hammered_53 (by decide) rfl (by omega) (by omega) (fun hz => absurd hz (by omega)) (fun h53 => ?_)
      refine z_iload6 58 dL_hammered_56 rfl ?_
      refine z_if_eq 181 61 dL_hammered_58 (by decide) rfl (by omega) (fun hz => absurd hz ((by omega))) (fun h58 => ?_)
      refine z_aload0 62 dL_hammered_61 rfl ?_
      refine z_iload7 64 dL_hammered_62 rfl ?_
      refine z_iconst 65 dL_hammered_64 rfl ?_
      refine z_pV2 68 dL_hammered_65 lk_L_hammered_66 (pc_at1 h (by omega)) rfl (Nat.le_of_ble_eq_true rfl) (Nat.le_of_ble_eq_true rfl) (by assumption) rfl rfl (fun r0 sh0 I0 L0 R0 hpq => ?_)
      obtain ⟨rfl, rfl, h⟩ := pO hpq
      show zE X mL_hammered 0 0 68 _ [zI (S 2 t)] sh _ _ _ _
      refine z_if_eq 81 71 dL_hammered_68 (by decide) rfl (by omega) (fun hz => absurd hz (hbz)) (fun h68 => ?_)
      refine z_aload0 72 dL_hammered_71 rfl ?_
      refine z_iload7 74 dL_hammered_72 rfl ?_
      refine z_iconst 75 dL_hammered_74 rfl ?_
      refine z_pV2 78 dL_hammered_75 lk_L_hammered_56 (pc_hammer h (by omega) (by omega) ew) rfl (Nat.le_of_ble_eq_true rfl) (Nat.le_of_ble_eq_true rfl) (by assumption) rfl rfl (fun r0 sh0 I0 L0 R0 hpq => ?_)
      obtain ⟨rfl, rfl, h⟩ := pO hpq
      refine z_if_le 85 81 dL_hammered_78 (by decide) rfl (by omega) (fun hz => absurd hz (by omega)) (fun h78 => ?_)
      refine z_iconst 82 dL_hammered_81 rfl ?_
      refine z_goto 86 dL_hammered_82 (by decide) ?_
      refine z_istore6 88 dL_hammered_86 (Nat.le_of_ble_eq_true rfl) rfl rfl ?_
      refine z_iload6 90 dL_hammered_88 rfl ?_
      refine z_if_eq 101 93 dL_hammered_90 (by decide) rfl (by omega) (fun hz => absurd hz ((by omega))) (fun h90 => ?_)
      refine z_aload0 94 dL_hammered_93 rfl ?_
      refine z_aload1 95 dL_hammered_94 rfl ?_
      refine z_pS2 98 dL_hammered_95 lk_L_hammered_155 (ct_L_through hs (hw.trans e6.symm) hg1 h) rfl (Nat.le_of_ble_eq_true rfl) (Nat.le_of_ble_eq_true rfl) rfl (fun r0 sh0 I0 L0 R0 hpq => ?_)
      obtain ⟨rfl, rfl, h⟩ := pO hpq
      rw [show scn (zup S 2 t 0, (B2, (some (S, hh), TS))).1 ((zup S 2 t 0, (B2, (some (S, hh), TS))).1 0 6).toNat 0 0 = sthb S t from eth]
      refine z_goto 102 dL_hammered_98 (by decide) ?_
      refine z_istore8 104 dL_hammered_102 (Nat.le_of_ble_eq_true rfl) rfl rfl ?_
      refine z_iload6 106 dL_hammered_104 rfl ?_
      refine z_if_eq 172 109 dL_hammered_106 (by decide) rfl (by omega) (fun hz => absurd hz ((by omega))) (fun h106 => ?_)
      refine z_iload7 111 dL_hammered_109 rfl ?_
      refine z_iload4 113 dL_hammered_111 rfl ?_
      refine z_icmp_ge 126 116 dL_hammered_113 (by decide) rfl (by omega) (by omega) (fun h113 => ?_) (fun h113 => ?_)
      · refine z_iload7 128 dL_hammered_126 rfl ?_
        refine z_iload4 130 dL_hammered_128 rfl ?_
        refine z_icmp_ne 143 133 dL_hammered_130 (by decide) rfl (by omega) (by omega) (fun h130 => ?_) (fun h130 => ?_)
        · refine z_iload8 145 dL_hammered_143 rfl ?_
          refine z_iload5 147 dL_hammered_145 rfl ?_
          refine z_icmp_gt 172 150 dL_hammered_147 (by decide) rfl (by omega) (by omega) (fun hz => absurd hz (by omega)) (fun h147 => ?_)
          refine z_aload0 151 dL_hammered_150 rfl ?_
          refine z_iload7 153 dL_hammered_151 rfl ?_
          refine z_iconst 154 dL_hammered_153 rfl ?_
          refine z_pV2 157 dL_hammered_154 lk_L_hammered_66 (pc_at1 h (by omega)) rfl (Nat.le_of_ble_eq_true rfl) (Nat.le_of_ble_eq_true rfl) (by assumption) rfl rfl (fun r0 sh0 I0 L0 R0 hpq => ?_)
          obtain ⟨rfl, rfl, h⟩ := pO hpq
          rw [show (zup S 2 t 0, (B2, (some (S, hh), TS))).1 2 t = 0 from e22]
          refine z_if_ne 172 160 dL_hammered_157 (by decide) rfl (by omega) (fun hz => absurd hz ((by omega))) (fun h157 => ?_)
          refine z_aload0 161 dL_hammered_160 rfl ?_
          refine z_pV0 164 dL_hammered_161 lk_L_hammered_120 (pc_restore h (q := (S, hh)) rfl) rfl (Nat.le_of_ble_eq_true rfl) (Nat.le_of_ble_eq_true rfl) (by assumption) rfl rfl (fun r0 sh0 I0 L0 R0 hpq => ?_)
          obtain ⟨rfl, rfl, h⟩ := pO hpq
          refine z_iconst 165 dL_hammered_164 rfl ?_
          refine z_icmp_ne 172 168 dL_hammered_165 (by decide) rfl (by omega) (by omega) (fun hz => absurd hz ((by omega))) (fun h165 => ?_)
          refine z_iconst 169 dL_hammered_168 rfl ?_
          refine z_goto 173 dL_hammered_169 (by decide) ?_
          refine z_istore6 175 dL_hammered_173 (Nat.le_of_ble_eq_true rfl) rfl rfl ?_
          refine z_iinc7 178 dL_hammered_175 (Nat.le_of_ble_eq_true rfl) rfl rfl ?_
          refine z_goto 49 dL_hammered_178 (by decide) ?_
          exact kr _ _ _ _ h
        · refine z_iload8 135 dL_hammered_133 rfl ?_
          refine z_iload5 137 dL_hammered_135 rfl ?_
          refine z_icmp_ne 172 140 dL_hammered_137 (by decide) rfl (by omega) (by omega) (fun hz => absurd hz ((by omega))) (fun h137 => ?_)
          refine z_goto 150 dL_hammered_140 (by decide) ?_
          refine z_aload0 151 dL_hammered_150 rfl ?_
          refine z_iload7 153 dL_hammered_151 rfl ?_
          refine z_iconst 154 dL_hammered_153 rfl ?_
          refine z_pV2 157 dL_hammered_154 lk_L_hammered_66 (pc_at1 h (by omega)) rfl (Nat.le_of_ble_eq_true rfl) (Nat.le_of_ble_eq_true rfl) (by assumption) rfl rfl (fun r0 sh0 I0 L0 R0 hpq => ?_)
          obtain ⟨rfl, rfl, h⟩ := pO hpq
          rw [show (zup S 2 t 0, (B2, (some (S, hh), TS))).1 2 t = 0 from e22]
          refine z_if_ne 172 160 dL_hammered_157 (by decide) rfl (by omega) (fun hz => absurd hz ((by omega))) (fun h157 => ?_)
          refine z_aload0 161 dL_hammered_160 rfl ?_
          refine z_pV0 164 dL_hammered_161 lk_L_hammered_120 (pc_restore h (q := (S, hh)) rfl) rfl (Nat.le_of_ble_eq_true rfl) (Nat.le_of_ble_eq_true rfl) (by assumption) rfl rfl (fun r0 sh0 I0 L0 R0 hpq => ?_)
          obtain ⟨rfl, rfl, h⟩ := pO hpq
          refine z_iconst 165 dL_hammered_164 rfl ?_
          refine z_icmp_ne 172 168 dL_hammered_165 (by decide) rfl (by omega) (by omega) (fun hz => absurd hz ((by omega))) (fun h165 => ?_)
          refine z_iconst 169 dL_hammered_168 rfl ?_
          refine z_goto 173 dL_hammered_169 (by decide) ?_
          refine z_istore6 175 dL_hammered_173 (Nat.le_of_ble_eq_true rfl) rfl rfl ?_
          refine z_iinc7 178 dL_hammered_175 (Nat.le_of_ble_eq_true rfl) rfl rfl ?_
          refine z_goto 49 dL_hammered_178 (by decide) ?_
          exact kr _ _ _ _ h
      · refine z_iload8 118 dL_hammered_116 rfl ?_
        refine z_iload5 120 dL_hammered_118 rfl ?_
        refine z_icmp_ge 172 123 dL_hammered_120 (by decide) rfl (by omega) (by omega) (fun hz => absurd hz (by omega)) (fun h120 => ?_)
        refine z_goto 150 dL_hammered_123 (by decide) ?_
        refine z_aload0 151 dL_hammered_150 rfl ?_
        refine z_iload7 153 dL_hammered_151 rfl ?_
        refine z_iconst 154 dL_hammered_153 rfl ?_
        refine z_pV2 157 dL_hammered_154 lk_L_hammered_66 (pc_at1 h (by omega)) rfl (Nat.le_of_ble_eq_true rfl) (Nat.le_of_ble_eq_true rfl) (by assumption) rfl rfl (fun r0 sh0 I0 L0 R0 hpq => ?_)
        obtain ⟨rfl, rfl, h⟩ := pO hpq
        rw [show (zup S 2 t 0, (B2, (some (S, hh), TS))).1 2 t = 0 from e22]
        refine z_if_ne 172 160 dL_hammered_157 (by decide) rfl (by omega) (fun hz => absurd hz ((by omega))) (fun h157 => ?_)
        refine z_aload0 161 dL_hammered_160 rfl ?_
        refine z_pV0 164 dL_hammered_161 lk_L_hammered_120 (pc_restore h (q := (S, hh)) rfl) rfl (Nat.le_of_ble_eq_true rfl) (Nat.le_of_ble_eq_true rfl) (by assumption) rfl rfl (fun r0 sh0 I0 L0 R0 hpq => ?_)
        obtain ⟨rfl, rfl, h⟩ := pO hpq
        refine z_iconst 165 dL_hammered_164 rfl ?_
        refine z_icmp_ne 172 168 dL_hammered_165 (by decide) rfl (by omega) (by omega) (fun hz => absurd hz ((by omega))) (fun h165 => ?_)
        refine z_iconst 169 dL_hammered_168 rfl ?_
        refine z_goto 173 dL_hammered_169 (by decide) ?_
        refine z_istore6 175 dL_hammered_173 (Nat.le_of_ble_eq_true rfl) rfl rfl ?_
        refine z_iinc7 178 dL_hammered_175 (Nat.le_of_ble_eq_true rfl) rfl rfl ?_
        refine z_goto 49 dL_hammered_178 (by decide) ?_
        exact kr _ _ _ _ h
theorem ct_L_hammered {I L : zI2} {R : zR2} (hs : sh[157]? = some (20, 43)) (hw : J0 157 0 = S 0 6) (hg : gd S) (h : pH sh J0 K0 Z0 I L R (pA S hh TS)) : zE X mL_hammered 0 0 0 [zR 0, zR 157, zL (phash (pA S hh TS)), zX, zX, zX, zX, zX, zX] [] sh I L R (zOp sh J0 K0 Z0 (zI 1) (pA S hh TS)) := by
  have s0 := h.sh0
  have n5 := hg.n5
  obtain ⟨k, k1, k2, k3, k4⟩ := sbm_0 S
  have b2 := pscn_r (zup S 2 k 0) (S 0 6).toNat 0 0
  rw [show scn (zup S 2 k 0) (S 0 6).toNat 0 0 = sthb S k from rfl] at b2
  refine z_aload0 1 dL_hammered_0 rfl ?_
  refine z_iconst 2 dL_hammered_1 rfl ?_
  refine z_pV1 5 dL_hammered_2 lk_L_hammered_152 (pc_bump0 h) rfl (Nat.le_of_ble_eq_true rfl) (Nat.le_of_ble_eq_true rfl) (by assumption) rfl rfl (fun r0 sh0 I0 L0 R0 hpq => ?_)
  obtain ⟨rfl, rfl, h⟩ := pO hpq
  rw [show (sbm (pA S hh TS).1 10 0 0 (-1)).1 = (k : Int) by rw [show (pA S hh TS).1 = S from rfl, k1]]
  refine z_istore4 7 dL_hammered_5 (Nat.le_of_ble_eq_true rfl) rfl rfl ?_
  refine z_aload0 8 dL_hammered_7 rfl ?_
  refine z_iconst 9 dL_hammered_8 rfl ?_
  refine z_pV1 12 dL_hammered_9 lk_L_hammered_152 (pc_bump1 h) rfl (Nat.le_of_ble_eq_true rfl) (Nat.le_of_ble_eq_true rfl) (by assumption) rfl rfl (fun r0 sh0 I0 L0 R0 hpq => ?_)
  obtain ⟨rfl, rfl, h⟩ := pO hpq
  rw [show (sbm (pA S hh TS).1 10 0 0 (-1)).2 = (sthb S k : Int) by rw [show (pA S hh TS).1 = S from rfl, k1]]
  refine z_istore5 14 dL_hammered_12 (Nat.le_of_ble_eq_true rfl) rfl rfl ?_
  refine z_iload4 16 dL_hammered_14 rfl ?_
  refine z_if_lt 43 19 dL_hammered_16 (by decide) rfl (by omega) (fun hz => absurd hz (by omega)) (fun h16 => ?_)
  refine z_iload4 21 dL_hammered_19 rfl ?_
  refine z_bipush 23 dL_hammered_21 (by decide) rfl ?_
  refine z_icmp_ge 43 26 dL_hammered_23 (by decide) rfl (by omega) (by omega) (fun hz => absurd hz (by omega)) (fun h23 => ?_)
  refine z_iload5 28 dL_hammered_26 rfl ?_
  refine z_if_lt 43 31 dL_hammered_28 (by decide) rfl (by omega) (fun hz => absurd hz (by omega)) (fun h28 => ?_)
  refine z_iload5 33 dL_hammered_31 rfl ?_
  refine z_aload1 34 dL_hammered_33 rfl ?_
  refine z_iconst 35 dL_hammered_34 rfl ?_
  refine z_ialdx 36 (0) dL_hammered_35 (by assumption) (by omega) (by omega) ((congrFun (h.2 157 (by decide)).1 0).trans hw) rfl ?_
  refine z_icmp_gt 43 39 dL_hammered_36 (by decide) rfl (by omega) (by omega) (fun hz => absurd hz (by omega)) (fun h36 => ?_)
  refine z_iconst 40 dL_hammered_39 rfl ?_
  refine z_goto 44 dL_hammered_40 (by decide) ?_
  refine z_istore6 46 dL_hammered_44 (Nat.le_of_ble_eq_true rfl) rfl rfl ?_
  refine z_iconst 47 dL_hammered_46 rfl ?_
  refine z_istore7 49 dL_hammered_47 (Nat.le_of_ble_eq_true rfl) rfl rfl ?_
  exact lp_hammered49 hs hw hg k2 k3 k4 10 0 _ _ _ _ rfl h
end HAMM
