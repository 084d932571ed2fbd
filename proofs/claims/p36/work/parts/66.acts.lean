/-! ===== an act by a number on both, the class's object and the law's own row ===== -/
def lS (sh : zH) (I L : zI2) (R : zR2) (A : zA) (N : Nat → Int) : Prop := (∃ P, zCA sh R P I L A) ∧ sh[157]? = some (20, 43) ∧ 158 ≤ sh.length ∧ I 157 = wpk N A.1
def lO (b : Int) (A : zA) (N : Nat → Int) : zQ := fun r' sh' I' L' R' => r' = [zI b] ∧ lS sh' I' L' R' A N
section ACTS
variable {X : zXs} {sh : zH} {I L : zI2} {R : zR2} {N : Nat → Int}
theorem lS_up {A : zA} {k i j : Nat} {v : Int} (hl : lS sh I L R A N) (h : wix k i j) : zup I 157 k v 157 = wpk N (zup A.1 i j v) ∧ ∃ P, zCA sh R P (zup I 157 k v) L A := by
  obtain ⟨⟨P, hc⟩, h1, h2, h3⟩ := hl
  refine ⟨?_, P, pCA_lo hc (fun a ha => ⟨zup_row _ _ (by omega), rfl⟩)⟩
  rw [← wpk_up N A.1 h v, ← h3]
  funext c
  unfold zup
  by_cases hk : c = k
  · rw [if_pos ⟨rfl, hk⟩, if_pos hk]
  · rw [if_neg (fun z => hk z.2), if_neg hk]
theorem lS_at {A : zA} (hl : lS sh I L R A N) (k : Nat) : I 157 k = wpk N A.1 k := by rw [hl.2.2.2]
theorem lS_3 {A : zA} (hl : lS sh I L R A N) {t : Nat} (h : t < 10) : I 157 (3 + t) = A.1 1 t := (lS_at hl _).trans (wpk_r _ _ h)
theorem lS_13 {A : zA} (hl : lS sh I L R A N) {t : Nat} (h : t < 10) : I 157 (13 + t) = A.1 2 t := (lS_at hl _).trans (wpk_b _ _ h)
theorem lS_26 {A : zA} (hl : lS sh I L R A N) {r : Nat} (h : r < 5) : I 157 (26 + 4 * r) = A.1 6 r := by
  rw [show 26 + 4 * r = 23 + 4 * r + 3 by omega]
  exact (lS_at hl _).trans (wpk_k _ _ h (by decide))
theorem lS_of {A' : zA} {I' L' : zI2} {R' : zR2} {J K : zI2} {Z : zR2} (h : pH sh J K Z I' L' R' A') (h1 : sh[157]? = some (20, 43)) (h2 : 158 ≤ sh.length) (h3 : J 157 = wpk N A'.1) : lS sh I' L' R' A' N := ⟨h.1, h1, h2, ((h.2 157 (by decide)).1).trans h3⟩
theorem x7_n {x : Nat} (h : x < 4096) : zand (x : Int) 7 = ((x % 8 : Nat) : Int) := by
  rw [show (7 : Int) = ((7 : Nat) : Int) from rfl, zb_and (by omega), show (7 : Nat) = 2 ^ 3 - 1 from rfl, Nat.and_two_pow_sub_one_eq_mod]
theorem x3_n {x : Nat} (h : x < 4096) : zshr (x : Int) 3 = ((x / 8 : Nat) : Int) := by
  rw [show (3 : Int) = ((3 : Nat) : Int) from rfl, zb_shr (by omega) (by omega)]
/-- he isn't at the top: NOT -/
theorem acts_a {A : zA} {x r : Nat} (hx : x < 4096) (hg : gd A.1) (h7 : A.1 0 7 ≤ 100) (hrn : ((x / 8 : Nat) : Int) % A.1 0 6 = (r : Int)) (hr : (r : Int) < A.1 0 6) (hc : x % 8 < 5) (hp : ¬ A.1 6 r = 30) (hl : lS sh I L R A N) : zE X mL_acts 0 0 0 [zR 0, zR 157, zI (x : Int), zX, zX, zX, zX, zX, zX] [] sh I L R (lO 0 A N) := by
  have n5 := hg.n5
  have g6 := hg.sr.2.2.2.2.2.2 r (by omega)
  obtain ⟨⟨P, hcA⟩, s157, l158, hI⟩ := id hl
  have h := pH.rf hcA
  have s0 := h.sh0
  have e : oRide A (r : Int) = (-2, A) := by unfold oRide; rw [if_pos (by omega), if_neg (by omega), Int.toNat_natCast, if_neg hp]
  refine z_iload2 1 dL_acts_0 rfl ?_
  refine z_iconst 2 dL_acts_1 rfl ?_
  refine z_ishr 3 dL_acts_2 rfl ?_
  rw [x3_n hx]
  refine z_istore3 4 dL_acts_3 (Nat.le_of_ble_eq_true rfl) rfl rfl ?_
  refine z_iload3 5 dL_acts_4 rfl ?_
  refine z_aload1 6 dL_acts_5 rfl ?_
  refine z_iconst 7 dL_acts_6 rfl ?_
  refine z_ialdx 8 (0) dL_acts_7 (by assumption) (by omega) (by omega) (lS_at hl 0) rfl ?_
  show zE X mL_acts 0 0 8 _ [zI (A.1 0 6), _] sh I L R _
  refine z_irem 9 dL_acts_8 (by omega) (by omega) rfl ?_
  rw [hrn]
  refine z_istore4 11 dL_acts_9 (Nat.le_of_ble_eq_true rfl) rfl rfl ?_
  refine z_aload1 12 dL_acts_11 rfl ?_
  refine z_bipush 14 dL_acts_12 (by decide) rfl ?_
  refine z_iconst 15 dL_acts_14 rfl ?_
  refine z_iload4 17 dL_acts_15 rfl ?_
  refine z_imul 18 dL_acts_17 rfl ?_
  refine z_iadd 19 dL_acts_18 rfl ?_
  refine z_ialdx 20 (26 + 4 * r) dL_acts_19 (by assumption) (by omega) (by omega) (lS_26 hl (by omega)) rfl ?_
  refine z_istore5 22 dL_acts_20 (Nat.le_of_ble_eq_true rfl) rfl rfl ?_
  refine z_iload2 23 dL_acts_22 rfl ?_
  refine z_bipush 25 dL_acts_23 (by decide) rfl ?_
  refine z_iand 26 dL_acts_25 rfl ?_
  rw [x7_n hx]
  refine z_iconst 27 dL_acts_26 rfl ?_
  refine z_icmp_ge 88 30 dL_acts_27 (by decide) rfl (by omega) (by omega) (fun hz => absurd hz (by omega)) (fun h27 => ?_)
  refine z_iload5 32 dL_acts_30 rfl ?_
  refine z_bipush 34 dL_acts_32 (by decide) rfl ?_
  refine z_icmp_eq 54 37 dL_acts_34 (by decide) rfl (by omega) (by omega) (fun hz => absurd hz (by omega)) (fun h34 => ?_)
  refine z_aload0 38 dL_acts_37 rfl ?_
  refine z_iload4 40 dL_acts_38 rfl ?_
  refine z_pV1 43 dL_acts_40 lk_L_acts_43 (pc_ride h (by omega) e) rfl (Nat.le_of_ble_eq_true rfl) (Nat.le_of_ble_eq_true rfl) (by assumption) rfl rfl (fun r0 sh0 I0 L0 R0 hpq => ?_)
  obtain ⟨rfl, rfl, h⟩ := pO hpq
  refine z_bipush 45 dL_acts_43 (by decide) rfl ?_
  refine z_icmp_ne 52 48 dL_acts_45 (by decide) rfl (by omega) (by omega) (fun hz => absurd hz (by omega)) (fun h45 => ?_)
  refine z_iconst 49 dL_acts_48 rfl ?_
  refine z_goto 53 dL_acts_49 (by decide) ?_
  exact z_ireturn dL_acts_53 rfl (⟨rfl, lS_of h s157 l158 hI⟩)
theorem acts_b {A : zA} {x r : Nat} (hx : x < 4096) (hg : gd A.1) (h7 : A.1 0 7 ≤ 100) (hrn : ((x / 8 : Nat) : Int) % A.1 0 6 = (r : Int)) (hr : (r : Int) < A.1 0 6) (hc : x % 8 < 5) (hp : A.1 6 r = 30) (hl : lS sh I L R A N) : zE X mL_acts 1 10 0 [zR 0, zR 157, zI (x : Int), zX, zX, zX, zX, zX, zX] [] sh I L R (lO 1 (send A.1 r, (oPush A).2) N) := by
  have n5 := hg.n5
  have g6 := hg.sr.2.2.2.2.2.2 r (by omega)
  have he := sfe_r A.1 r hg.sr (by omega)
  obtain ⟨⟨P, hcA⟩, s157, l158, hI⟩ := id hl
  have e : oRide A (r : Int) = (sfe A.1 r, (send A.1 r, (oPush A).2)) := by unfold oRide; rw [if_pos (by omega), if_neg (by omega), Int.toNat_natCast, if_pos hp]
  have t157 : (sh ++ [(20, 10)])[157]? = some (20, 43) := zg_l s157
  have tq : (sh ++ [(20, 10)])[sh.length]? = some (20, 10) := zg_r rfl
  have eJ : zrow I sh.length (fun _ => 0) = wN (zrow I sh.length fun _ => 0) N A.1 := (wN_self (by rw [zrow_oR _ _ (by omega)]; exact hI)).symm
  refine z_iload2 1 dL_acts_0 rfl ?_
  refine z_iconst 2 dL_acts_1 rfl ?_
  refine z_ishr 3 dL_acts_2 rfl ?_
  rw [x3_n hx]
  refine z_istore3 4 dL_acts_3 (Nat.le_of_ble_eq_true rfl) rfl rfl ?_
  refine z_iload3 5 dL_acts_4 rfl ?_
  refine z_aload1 6 dL_acts_5 rfl ?_
  refine z_iconst 7 dL_acts_6 rfl ?_
  refine z_ialdx 8 (0) dL_acts_7 (by assumption) (by omega) (by omega) (lS_at hl 0) rfl ?_
  show zE X mL_acts 1 10 8 _ [zI (A.1 0 6), _] sh I L R _
  refine z_irem 9 dL_acts_8 (by omega) (by omega) rfl ?_
  rw [hrn]
  refine z_istore4 11 dL_acts_9 (Nat.le_of_ble_eq_true rfl) rfl rfl ?_
  refine z_aload1 12 dL_acts_11 rfl ?_
  refine z_bipush 14 dL_acts_12 (by decide) rfl ?_
  refine z_iconst 15 dL_acts_14 rfl ?_
  refine z_iload4 17 dL_acts_15 rfl ?_
  refine z_imul 18 dL_acts_17 rfl ?_
  refine z_iadd 19 dL_acts_18 rfl ?_
  refine z_ialdx 20 (26 + 4 * r) dL_acts_19 (by assumption) (by omega) (by omega) (lS_26 hl (by omega)) rfl ?_
  refine z_istore5 22 dL_acts_20 (Nat.le_of_ble_eq_true rfl) rfl rfl ?_
  refine z_iload2 23 dL_acts_22 rfl ?_
  refine z_bipush 25 dL_acts_23 (by decide) rfl ?_
  refine z_iand 26 dL_acts_25 rfl ?_
  rw [x7_n hx]
  refine z_iconst 27 dL_acts_26 rfl ?_
  refine z_icmp_ge 88 30 dL_acts_27 (by decide) rfl (by omega) (by omega) (fun hz => absurd hz (by omega)) (fun h27 => ?_)
  refine z_iload5 32 dL_acts_30 rfl ?_
  refine z_bipush 34 dL_acts_32 (by decide) rfl ?_
  refine z_icmp_eq 54 37 dL_acts_34 (by decide) rfl (by omega) (by omega) (fun h34 => ?_) (fun hz => absurd hz (by omega))
  refine z_aload1 55 dL_acts_54 rfl ?_
  refine z_iload4 57 dL_acts_55 rfl ?_
  refine z_bipush 59 dL_acts_57 (by decide) rfl ?_
  refine z_newaX 61 (sh.length) 10 dL_acts_59 (Or.inl ⟨rfl, rfl⟩) ac_int rfl (by decide) (rfl) rfl rfl rfl ?_
  show zE X mL_acts 0 0 61 _ _ (sh ++ [(20, 10)]) (zrow I sh.length fun _ => 0) (zrow L sh.length fun _ => 0) R _
  rw [eJ]
  refine z_pS3 64 dL_acts_61 lk_L_acts_46 (ct_L_ride t157 tq (by omega) hg.sr hg.2.2.1 hr hp) rfl (Nat.le_of_ble_eq_true rfl) (Nat.le_of_ble_eq_true rfl) rfl (fun r0 sh0 I0 L0 R0 hpq => ?_)
  obtain ⟨rfl, rfl, rfl, rfl, J, hJ, rfl⟩ := hpq
  have hcB := pCA_up hcA [(20, 10)] (I' := wN J N (send A.1 r)) (L' := zrow L sh.length fun _ => 0) (fun a ha => ⟨by rw [wN_o _ _ _ (by omega), hJ a (by omega), zrow_oR _ _ (by omega)], zrow_oR _ _ (by omega)⟩) (fun _ _ => rfl)
  have h := pH.rf hcB
  have s0 := h.sh0
  refine z_aload0 65 dL_acts_64 rfl ?_
  refine z_iload4 67 dL_acts_65 rfl ?_
  refine z_pV1 70 dL_acts_67 lk_L_acts_43 (pc_ride h (by omega) e) rfl (Nat.le_of_ble_eq_true rfl) (Nat.le_of_ble_eq_true rfl) (by assumption) rfl rfl (fun r0 sh0 I0 L0 R0 hpq => ?_)
  obtain ⟨rfl, rfl, h⟩ := pO hpq
  refine z_aload1 71 dL_acts_70 rfl ?_
  refine z_bipush 73 dL_acts_71 (by decide) rfl ?_
  refine z_iconst 74 dL_acts_73 rfl ?_
  refine z_iload4 76 dL_acts_74 rfl ?_
  refine z_imul 77 dL_acts_76 rfl ?_
  refine z_iadd 78 dL_acts_77 rfl ?_
  refine z_ialdx 79 (26 + 4 * r) dL_acts_78 (by assumption) (by omega) (by omega) (((congrFun (h.2 157 (by decide)).1 _).trans (wN_6 _ _ _ (by omega))).trans ((send_6 _ _ _).trans (if_pos rfl))) rfl ?_
  refine z_icmp_ne 86 82 dL_acts_79 (by decide) rfl (by omega) (by omega) (fun hz => absurd hz ((by omega))) (fun h79 => ?_)
  refine z_iconst 83 dL_acts_82 rfl ?_
  refine z_goto 87 dL_acts_83 (by decide) ?_
  exact z_ireturn dL_acts_87 rfl (⟨rfl, h.1, t157, by rw [List.length_append]; omega, by rw [(h.2 157 (by decide)).1]; funext k; exact wN_at _ _ _ _⟩)
theorem acts_c {A : zA} {x r : Nat} (hx : x < 4096) (hg : gd A.1) (hrn : ((x / 8 : Nat) : Int) % A.1 0 6 = (r : Int)) (hr : (r : Int) < A.1 0 6) (hc : x % 8 = 5) (hl : lS sh I L R A N) : zE X mL_acts 0 0 0 [zR 0, zR 157, zI (x : Int), zX, zX, zX, zX, zX, zX] [] sh I L R (lO (if A.1 6 r = 30 then 0 else 1) (if A.1 6 r = 30 then A else (zup A.1 6 r 30, (oPush A).2)) N) := by
  have n5 := hg.n5
  have g6 := hg.sr.2.2.2.2.2.2 r (by omega)
  obtain ⟨⟨P, hcA⟩, s157, l158, hI⟩ := id hl
  obtain ⟨u1, P2, u2⟩ := lS_up (k := 26 + 4 * r) (i := 6) (j := r) (v := 30) hl (by unfold wix; omega)
  have h := pH.rf u2
  have s0 := h.sh0
  by_cases hp : A.1 6 r = 30
  · have e : oUp A (r : Int) = (-2, A) := by unfold oUp; rw [if_pos (by omega), Int.toNat_natCast, if_pos hp]
    have es : zup A.1 6 r 30 = A.1 := by rw [← hp]; exact zup_self _ _ _
    rw [if_pos hp, if_pos hp]
    refine z_iload2 1 dL_acts_0 rfl ?_
    refine z_iconst 2 dL_acts_1 rfl ?_
    refine z_ishr 3 dL_acts_2 rfl ?_
    rw [x3_n hx]
    refine z_istore3 4 dL_acts_3 (Nat.le_of_ble_eq_true rfl) rfl rfl ?_
    refine z_iload3 5 dL_acts_4 rfl ?_
    refine z_aload1 6 dL_acts_5 rfl ?_
    refine z_iconst 7 dL_acts_6 rfl ?_
    refine z_ialdx 8 (0) dL_acts_7 (by assumption) (by omega) (by omega) (lS_at hl 0) rfl ?_
    show zE X mL_acts 0 0 8 _ [zI (A.1 0 6), _] sh I L R _
    refine z_irem 9 dL_acts_8 (by omega) (by omega) rfl ?_
    rw [hrn]
    refine z_istore4 11 dL_acts_9 (Nat.le_of_ble_eq_true rfl) rfl rfl ?_
    refine z_aload1 12 dL_acts_11 rfl ?_
    refine z_bipush 14 dL_acts_12 (by decide) rfl ?_
    refine z_iconst 15 dL_acts_14 rfl ?_
    refine z_iload4 17 dL_acts_15 rfl ?_
    refine z_imul 18 dL_acts_17 rfl ?_
    refine z_iadd 19 dL_acts_18 rfl ?_
    refine z_ialdx 20 (26 + 4 * r) dL_acts_19 (by assumption) (by omega) (by omega) (lS_26 hl (by omega)) rfl ?_
    refine z_istore5 22 dL_acts_20 (Nat.le_of_ble_eq_true rfl) rfl rfl ?_
    refine z_iload2 23 dL_acts_22 rfl ?_
    refine z_bipush 25 dL_acts_23 (by decide) rfl ?_
    refine z_iand 26 dL_acts_25 rfl ?_
    rw [x7_n hx]
    refine z_iconst 27 dL_acts_26 rfl ?_
    refine z_icmp_ge 88 30 dL_acts_27 (by decide) rfl (by omega) (by omega) (fun h27 => ?_) (fun hz => absurd hz (by omega))
    refine z_iload2 89 dL_acts_88 rfl ?_
    refine z_bipush 91 dL_acts_89 (by decide) rfl ?_
    refine z_iand 92 dL_acts_91 rfl ?_
    rw [x7_n hx]
    refine z_iconst 93 dL_acts_92 rfl ?_
    refine z_icmp_ne 147 96 dL_acts_93 (by decide) rfl (by omega) (by omega) (fun hz => absurd hz (by omega)) (fun h93 => ?_)
    refine z_aload1 97 dL_acts_96 rfl ?_
    refine z_bipush 99 dL_acts_97 (by decide) rfl ?_
    refine z_iconst 100 dL_acts_99 rfl ?_
    refine z_iload4 102 dL_acts_100 rfl ?_
    refine z_imul 103 dL_acts_102 rfl ?_
    refine z_iadd 104 dL_acts_103 rfl ?_
    refine z_bipush 106 dL_acts_104 (by decide) rfl ?_
    refine z_iastN 107 (26 + 4 * r) dL_acts_106 (by assumption) (by omega) (by omega) rfl ?_
    refine z_aload0 108 dL_acts_107 rfl ?_
    refine z_iload4 110 dL_acts_108 rfl ?_
    refine z_pV1 113 dL_acts_110 lk_L_acts_49 (pc_up h (by omega) e) rfl (Nat.le_of_ble_eq_true rfl) (Nat.le_of_ble_eq_true rfl) (by assumption) rfl rfl (fun r0 sh0 I0 L0 R0 hpq => ?_)
    obtain ⟨rfl, rfl, h⟩ := pO hpq
    refine z_iload5 115 dL_acts_113 rfl ?_
    refine z_bipush 117 dL_acts_115 (by decide) rfl ?_
    refine z_icmp_ne 125 120 dL_acts_117 (by decide) rfl (by omega) (by omega) (fun hz => absurd hz ((by omega))) (fun h117 => ?_)
    refine z_bipush 122 dL_acts_120 (by decide) rfl ?_
    refine z_goto 127 dL_acts_122 (by decide) ?_
    refine z_icmp_ne 145 130 dL_acts_127 (by decide) rfl (by omega) (by omega) (fun hz => absurd hz ((by omega))) (fun h127 => ?_)
    refine z_iload5 132 dL_acts_130 rfl ?_
    refine z_bipush 134 dL_acts_132 (by decide) rfl ?_
    refine z_icmp_ne 141 137 dL_acts_134 (by decide) rfl (by omega) (by omega) (fun hz => absurd hz ((by omega))) (fun h134 => ?_)
    refine z_iconst 138 dL_acts_137 rfl ?_
    refine z_goto 146 dL_acts_138 (by decide) ?_
    exact z_ireturn dL_acts_146 rfl (⟨rfl, lS_of h s157 l158 (by rw [u1, es])⟩)
  · have e : oUp A (r : Int) = (A.1 6 r, (zup A.1 6 r 30, (oPush A).2)) := by unfold oUp; rw [if_pos (by omega), Int.toNat_natCast, if_neg hp]
    rw [if_neg hp, if_neg hp]
    refine z_iload2 1 dL_acts_0 rfl ?_
    refine z_iconst 2 dL_acts_1 rfl ?_
    refine z_ishr 3 dL_acts_2 rfl ?_
    rw [x3_n hx]
    refine z_istore3 4 dL_acts_3 (Nat.le_of_ble_eq_true rfl) rfl rfl ?_
    refine z_iload3 5 dL_acts_4 rfl ?_
    refine z_aload1 6 dL_acts_5 rfl ?_
    refine z_iconst 7 dL_acts_6 rfl ?_
    refine z_ialdx 8 (0) dL_acts_7 (by assumption) (by omega) (by omega) (lS_at hl 0) rfl ?_
    show zE X mL_acts 0 0 8 _ [zI (A.1 0 6), _] sh I L R _
    refine z_irem 9 dL_acts_8 (by omega) (by omega) rfl ?_
    rw [hrn]
    refine z_istore4 11 dL_acts_9 (Nat.le_of_ble_eq_true rfl) rfl rfl ?_
    refine z_aload1 12 dL_acts_11 rfl ?_
    refine z_bipush 14 dL_acts_12 (by decide) rfl ?_
    refine z_iconst 15 dL_acts_14 rfl ?_
    refine z_iload4 17 dL_acts_15 rfl ?_
    refine z_imul 18 dL_acts_17 rfl ?_
    refine z_iadd 19 dL_acts_18 rfl ?_
    refine z_ialdx 20 (26 + 4 * r) dL_acts_19 (by assumption) (by omega) (by omega) (lS_26 hl (by omega)) rfl ?_
    refine z_istore5 22 dL_acts_20 (Nat.le_of_ble_eq_true rfl) rfl rfl ?_
    refine z_iload2 23 dL_acts_22 rfl ?_
    refine z_bipush 25 dL_acts_23 (by decide) rfl ?_
    refine z_iand 26 dL_acts_25 rfl ?_
    rw [x7_n hx]
    refine z_iconst 27 dL_acts_26 rfl ?_
    refine z_icmp_ge 88 30 dL_acts_27 (by decide) rfl (by omega) (by omega) (fun h27 => ?_) (fun hz => absurd hz (by omega))
    refine z_iload2 89 dL_acts_88 rfl ?_
    refine z_bipush 91 dL_acts_89 (by decide) rfl ?_
    refine z_iand 92 dL_acts_91 rfl ?_
    rw [x7_n hx]
    refine z_iconst 93 dL_acts_92 rfl ?_
    refine z_icmp_ne 147 96 dL_acts_93 (by decide) rfl (by omega) (by omega) (fun hz => absurd hz (by omega)) (fun h93 => ?_)
    refine z_aload1 97 dL_acts_96 rfl ?_
    refine z_bipush 99 dL_acts_97 (by decide) rfl ?_
    refine z_iconst 100 dL_acts_99 rfl ?_
    refine z_iload4 102 dL_acts_100 rfl ?_
    refine z_imul 103 dL_acts_102 rfl ?_
    refine z_iadd 104 dL_acts_103 rfl ?_
    refine z_bipush 106 dL_acts_104 (by decide) rfl ?_
    refine z_iastN 107 (26 + 4 * r) dL_acts_106 (by assumption) (by omega) (by omega) rfl ?_
    refine z_aload0 108 dL_acts_107 rfl ?_
    refine z_iload4 110 dL_acts_108 rfl ?_
    refine z_pV1 113 dL_acts_110 lk_L_acts_49 (pc_up h (by omega) e) rfl (Nat.le_of_ble_eq_true rfl) (Nat.le_of_ble_eq_true rfl) (by assumption) rfl rfl (fun r0 sh0 I0 L0 R0 hpq => ?_)
    obtain ⟨rfl, rfl, h⟩ := pO hpq
    refine z_iload5 115 dL_acts_113 rfl ?_
    refine z_bipush 117 dL_acts_115 (by decide) rfl ?_
    refine z_icmp_ne 125 120 dL_acts_117 (by decide) rfl (by omega) (by omega) (fun h117 => ?_) (fun hz => absurd hz (by omega))
    refine z_iload5 127 dL_acts_125 rfl ?_
    refine z_icmp_ne 145 130 dL_acts_127 (by decide) rfl (by omega) (by omega) (fun hz => absurd hz ((by omega))) (fun h127 => ?_)
    refine z_iload5 132 dL_acts_130 rfl ?_
    refine z_bipush 134 dL_acts_132 (by decide) rfl ?_
    refine z_icmp_ne 141 137 dL_acts_134 (by decide) rfl (by omega) (by omega) (fun h134 => ?_) (fun hz => absurd hz (by omega))
    refine z_iconst 142 dL_acts_141 rfl ?_
    refine z_goto 146 dL_acts_142 (by decide) ?_
    exact z_ireturn dL_acts_146 rfl (⟨rfl, lS_of h s157 l158 u1⟩)
theorem acts_d {A : zA} {x r t v : Nat} (hx : x < 4096) (hg : gd A.1) (hrn : ((x / 8 : Nat) : Int) % A.1 0 6 = (r : Int)) (hr : (r : Int) < A.1 0 6) (hc : x % 8 = 6) (ht : (x / 8) % 10 = t) (hv : (x / 8 / 8) % 10 = v) (hl : lS sh I L R A N) : zE X mL_acts 0 0 0 [zR 0, zR 157, zI (x : Int), zX, zX, zX, zX, zX, zX] [] sh I L R (lO (if A.1 1 t = (v : Int) then 0 else 1) (if A.1 1 t = (v : Int) then A else (zup A.1 1 t (v : Int), (oPush A).2)) N) := by
  have n5 := hg.n5
  have g6 := hg.sr.2.2.2.2.2.2 r (by omega)
  have t10 : t < 10 := by omega
  have v10 : v < 10 := by omega
  have g1 := hg.sr.2.1 t t10
  obtain ⟨⟨P, hcA⟩, s157, l158, hI⟩ := id hl
  obtain ⟨u1, P2, u2⟩ := lS_up (k := 3 + t) (i := 1) (j := t) (v := (v : Int)) hl (by unfold wix; omega)
  have h := pH.rf u2
  have s0 := h.sh0
  have et : ((x / 8 : Nat) : Int) % 10 = (t : Int) := by omega
  have ev : zshr ((x / 8 : Nat) : Int) 3 = ((x / 8 / 8 : Nat) : Int) := x3_n (by omega)
  have ev2 : ((x / 8 / 8 : Nat) : Int) % 10 = (v : Int) := by omega
  by_cases hp : A.1 1 t = (v : Int)
  · have e : oWax A 1 (t : Int) (v : Int) = (-2, A) := by unfold oWax; rw [if_pos (by omega), Int.toNat_natCast, if_pos hp]
    have es : zup A.1 1 t (v : Int) = A.1 := by rw [← hp]; exact zup_self _ _ _
    rw [if_pos hp, if_pos hp]
    refine z_iload2 1 dL_acts_0 rfl ?_
    refine z_iconst 2 dL_acts_1 rfl ?_
    refine z_ishr 3 dL_acts_2 rfl ?_
    rw [x3_n hx]
    refine z_istore3 4 dL_acts_3 (Nat.le_of_ble_eq_true rfl) rfl rfl ?_
    refine z_iload3 5 dL_acts_4 rfl ?_
    refine z_aload1 6 dL_acts_5 rfl ?_
    refine z_iconst 7 dL_acts_6 rfl ?_
    refine z_ialdx 8 (0) dL_acts_7 (by assumption) (by omega) (by omega) (lS_at hl 0) rfl ?_
    show zE X mL_acts 0 0 8 _ [zI (A.1 0 6), _] sh I L R _
    refine z_irem 9 dL_acts_8 (by omega) (by omega) rfl ?_
    rw [hrn]
    refine z_istore4 11 dL_acts_9 (Nat.le_of_ble_eq_true rfl) rfl rfl ?_
    refine z_aload1 12 dL_acts_11 rfl ?_
    refine z_bipush 14 dL_acts_12 (by decide) rfl ?_
    refine z_iconst 15 dL_acts_14 rfl ?_
    refine z_iload4 17 dL_acts_15 rfl ?_
    refine z_imul 18 dL_acts_17 rfl ?_
    refine z_iadd 19 dL_acts_18 rfl ?_
    refine z_ialdx 20 (26 + 4 * r) dL_acts_19 (by assumption) (by omega) (by omega) (lS_26 hl (by omega)) rfl ?_
    refine z_istore5 22 dL_acts_20 (Nat.le_of_ble_eq_true rfl) rfl rfl ?_
    refine z_iload2 23 dL_acts_22 rfl ?_
    refine z_bipush 25 dL_acts_23 (by decide) rfl ?_
    refine z_iand 26 dL_acts_25 rfl ?_
    rw [x7_n hx]
    refine z_iconst 27 dL_acts_26 rfl ?_
    refine z_icmp_ge 88 30 dL_acts_27 (by decide) rfl (by omega) (by omega) (fun h27 => ?_) (fun hz => absurd hz (by omega))
    refine z_iload2 89 dL_acts_88 rfl ?_
    refine z_bipush 91 dL_acts_89 (by decide) rfl ?_
    refine z_iand 92 dL_acts_91 rfl ?_
    rw [x7_n hx]
    refine z_iconst 93 dL_acts_92 rfl ?_
    refine z_icmp_ne 147 96 dL_acts_93 (by decide) rfl (by omega) (by omega) (fun h93 => ?_) (fun hz => absurd hz (by omega))
    refine z_iload2 148 dL_acts_147 rfl ?_
    refine z_bipush 150 dL_acts_148 (by decide) rfl ?_
    refine z_iand 151 dL_acts_150 rfl ?_
    rw [x7_n hx]
    refine z_bipush 153 dL_acts_151 (by decide) rfl ?_
    refine z_icmp_ne 160 156 dL_acts_153 (by decide) rfl (by omega) (by omega) (fun hz => absurd hz (by omega)) (fun h153 => ?_)
    refine z_iconst 157 dL_acts_156 rfl ?_
    refine z_goto 162 dL_acts_157 (by decide) ?_
    refine z_iload3 163 dL_acts_162 rfl ?_
    refine z_bipush 165 dL_acts_163 (by decide) rfl ?_
    refine z_irem 166 dL_acts_165 (by omega) (by omega) rfl ?_
    rw [et]
    refine z_iadd 167 dL_acts_166 rfl ?_
    refine z_istore6 169 dL_acts_167 (Nat.le_of_ble_eq_true rfl) rfl rfl ?_
    refine z_iload3 170 dL_acts_169 rfl ?_
    refine z_iconst 171 dL_acts_170 rfl ?_
    refine z_ishr 172 dL_acts_171 rfl ?_
    rw [ev]
    refine z_bipush 174 dL_acts_172 (by decide) rfl ?_
    refine z_irem 175 dL_acts_174 (by omega) (by omega) rfl ?_
    rw [ev2]
    refine z_istore7 177 dL_acts_175 (Nat.le_of_ble_eq_true rfl) rfl rfl ?_
    refine z_aload1 178 dL_acts_177 rfl ?_
    refine z_iload6 180 dL_acts_178 rfl ?_
    refine z_ialdx 181 (3 + t) dL_acts_180 (by assumption) (by omega) (by omega) (lS_3 hl t10) rfl ?_
    refine z_istore8 183 dL_acts_181 (Nat.le_of_ble_eq_true rfl) rfl rfl ?_
    refine z_aload1 184 dL_acts_183 rfl ?_
    refine z_iload6 186 dL_acts_184 rfl ?_
    refine z_iload7 188 dL_acts_186 rfl ?_
    refine z_iastN 189 (3 + t) dL_acts_188 (by assumption) (by omega) (by omega) rfl ?_
    refine z_iload2 190 dL_acts_189 rfl ?_
    refine z_bipush 192 dL_acts_190 (by decide) rfl ?_
    refine z_iand 193 dL_acts_192 rfl ?_
    rw [x7_n hx]
    refine z_bipush 195 dL_acts_193 (by decide) rfl ?_
    refine z_icmp_ne 211 198 dL_acts_195 (by decide) rfl (by omega) (by omega) (fun hz => absurd hz (by omega)) (fun h195 => ?_)
    refine z_aload0 199 dL_acts_198 rfl ?_
    refine z_iload3 200 dL_acts_199 rfl ?_
    refine z_bipush 202 dL_acts_200 (by decide) rfl ?_
    refine z_irem 203 dL_acts_202 (by omega) (by omega) rfl ?_
    rw [et]
    refine z_iload7 205 dL_acts_203 rfl ?_
    refine z_pV2 208 dL_acts_205 lk_L_acts_52 (pc_wax h (by omega) (by omega) e) rfl (Nat.le_of_ble_eq_true rfl) (Nat.le_of_ble_eq_true rfl) (by assumption) rfl rfl (fun r0 sh0 I0 L0 R0 hpq => ?_)
    obtain ⟨rfl, rfl, h⟩ := pO hpq
    refine z_goto 221 dL_acts_208 (by decide) ?_
    refine z_iload8 223 dL_acts_221 rfl ?_
    refine z_iload7 225 dL_acts_223 rfl ?_
    refine z_icmp_ne 233 228 dL_acts_225 (by decide) rfl (by omega) (by omega) (fun hz => absurd hz ((by omega))) (fun h225 => ?_)
    refine z_bipush 230 dL_acts_228 (by decide) rfl ?_
    refine z_goto 235 dL_acts_230 (by decide) ?_
    refine z_icmp_ne 253 238 dL_acts_235 (by decide) rfl (by omega) (by omega) (fun hz => absurd hz ((by omega))) (fun h235 => ?_)
    refine z_iload8 240 dL_acts_238 rfl ?_
    refine z_iload7 242 dL_acts_240 rfl ?_
    refine z_icmp_ne 249 245 dL_acts_242 (by decide) rfl (by omega) (by omega) (fun hz => absurd hz ((by omega))) (fun h242 => ?_)
    refine z_iconst 246 dL_acts_245 rfl ?_
    refine z_goto 254 dL_acts_246 (by decide) ?_
    exact z_ireturn dL_acts_254 rfl (⟨rfl, lS_of h s157 l158 (by rw [u1, es])⟩)
  · have e : oWax A 1 (t : Int) (v : Int) = (A.1 1 t, (zup A.1 1 t (v : Int), (oPush A).2)) := by unfold oWax; rw [if_pos (by omega), Int.toNat_natCast, if_neg hp]
    rw [if_neg hp, if_neg hp]
    refine z_iload2 1 dL_acts_0 rfl ?_
    refine z_iconst 2 dL_acts_1 rfl ?_
    refine z_ishr 3 dL_acts_2 rfl ?_
    rw [x3_n hx]
    refine z_istore3 4 dL_acts_3 (Nat.le_of_ble_eq_true rfl) rfl rfl ?_
    refine z_iload3 5 dL_acts_4 rfl ?_
    refine z_aload1 6 dL_acts_5 rfl ?_
    refine z_iconst 7 dL_acts_6 rfl ?_
    refine z_ialdx 8 (0) dL_acts_7 (by assumption) (by omega) (by omega) (lS_at hl 0) rfl ?_
    show zE X mL_acts 0 0 8 _ [zI (A.1 0 6), _] sh I L R _
    refine z_irem 9 dL_acts_8 (by omega) (by omega) rfl ?_
    rw [hrn]
    refine z_istore4 11 dL_acts_9 (Nat.le_of_ble_eq_true rfl) rfl rfl ?_
    refine z_aload1 12 dL_acts_11 rfl ?_
    refine z_bipush 14 dL_acts_12 (by decide) rfl ?_
    refine z_iconst 15 dL_acts_14 rfl ?_
    refine z_iload4 17 dL_acts_15 rfl ?_
    refine z_imul 18 dL_acts_17 rfl ?_
    refine z_iadd 19 dL_acts_18 rfl ?_
    refine z_ialdx 20 (26 + 4 * r) dL_acts_19 (by assumption) (by omega) (by omega) (lS_26 hl (by omega)) rfl ?_
    refine z_istore5 22 dL_acts_20 (Nat.le_of_ble_eq_true rfl) rfl rfl ?_
    refine z_iload2 23 dL_acts_22 rfl ?_
    refine z_bipush 25 dL_acts_23 (by decide) rfl ?_
    refine z_iand 26 dL_acts_25 rfl ?_
    rw [x7_n hx]
    refine z_iconst 27 dL_acts_26 rfl ?_
    refine z_icmp_ge 88 30 dL_acts_27 (by decide) rfl (by omega) (by omega) (fun h27 => ?_) (fun hz => absurd hz (by omega))
    refine z_iload2 89 dL_acts_88 rfl ?_
    refine z_bipush 91 dL_acts_89 (by decide) rfl ?_
    refine z_iand 92 dL_acts_91 rfl ?_
    rw [x7_n hx]
    refine z_iconst 93 dL_acts_92 rfl ?_
    refine z_icmp_ne 147 96 dL_acts_93 (by decide) rfl (by omega) (by omega) (fun h93 => ?_) (fun hz => absurd hz (by omega))
    refine z_iload2 148 dL_acts_147 rfl ?_
    refine z_bipush 150 dL_acts_148 (by decide) rfl ?_
    refine z_iand 151 dL_acts_150 rfl ?_
    rw [x7_n hx]
    refine z_bipush 153 dL_acts_151 (by decide) rfl ?_
    refine z_icmp_ne 160 156 dL_acts_153 (by decide) rfl (by omega) (by omega) (fun hz => absurd hz (by omega)) (fun h153 => ?_)
    refine z_iconst 157 dL_acts_156 rfl ?_
    refine z_goto 162 dL_acts_157 (by decide) ?_
    refine z_iload3 163 dL_acts_162 rfl ?_
    refine z_bipush 165 dL_acts_163 (by decide) rfl ?_
    refine z_irem 166 dL_acts_165 (by omega) (by omega) rfl ?_
    rw [et]
    refine z_iadd 167 dL_acts_166 rfl ?_
    refine z_istore6 169 dL_acts_167 (Nat.le_of_ble_eq_true rfl) rfl rfl ?_
    refine z_iload3 170 dL_acts_169 rfl ?_
    refine z_iconst 171 dL_acts_170 rfl ?_
    refine z_ishr 172 dL_acts_171 rfl ?_
    rw [ev]
    refine z_bipush 174 dL_acts_172 (by decide) rfl ?_
    refine z_irem 175 dL_acts_174 (by omega) (by omega) rfl ?_
    rw [ev2]
    refine z_istore7 177 dL_acts_175 (Nat.le_of_ble_eq_true rfl) rfl rfl ?_
    refine z_aload1 178 dL_acts_177 rfl ?_
    refine z_iload6 180 dL_acts_178 rfl ?_
    refine z_ialdx 181 (3 + t) dL_acts_180 (by assumption) (by omega) (by omega) (lS_3 hl t10) rfl ?_
    refine z_istore8 183 dL_acts_181 (Nat.le_of_ble_eq_true rfl) rfl rfl ?_
    refine z_aload1 184 dL_acts_183 rfl ?_
    refine z_iload6 186 dL_acts_184 rfl ?_
    refine z_iload7 188 dL_acts_186 rfl ?_
    refine z_iastN 189 (3 + t) dL_acts_188 (by assumption) (by omega) (by omega) rfl ?_
    refine z_iload2 190 dL_acts_189 rfl ?_
    refine z_bipush 192 dL_acts_190 (by decide) rfl ?_
    refine z_iand 193 dL_acts_192 rfl ?_
    rw [x7_n hx]
    refine z_bipush 195 dL_acts_193 (by decide) rfl ?_
    refine z_icmp_ne 211 198 dL_acts_195 (by decide) rfl (by omega) (by omega) (fun hz => absurd hz (by omega)) (fun h195 => ?_)
    refine z_aload0 199 dL_acts_198 rfl ?_
    refine z_iload3 200 dL_acts_199 rfl ?_
    refine z_bipush 202 dL_acts_200 (by decide) rfl ?_
    refine z_irem 203 dL_acts_202 (by omega) (by omega) rfl ?_
    rw [et]
    refine z_iload7 205 dL_acts_203 rfl ?_
    refine z_pV2 208 dL_acts_205 lk_L_acts_52 (pc_wax h (by omega) (by omega) e) rfl (Nat.le_of_ble_eq_true rfl) (Nat.le_of_ble_eq_true rfl) (by assumption) rfl rfl (fun r0 sh0 I0 L0 R0 hpq => ?_)
    obtain ⟨rfl, rfl, h⟩ := pO hpq
    refine z_goto 221 dL_acts_208 (by decide) ?_
    refine z_iload8 223 dL_acts_221 rfl ?_
    refine z_iload7 225 dL_acts_223 rfl ?_
    refine z_icmp_ne 233 228 dL_acts_225 (by decide) rfl (by omega) (by omega) (fun h225 => ?_) (fun hz => absurd hz (by omega))
    refine z_iload8 235 dL_acts_233 rfl ?_
    refine z_icmp_ne 253 238 dL_acts_235 (by decide) rfl (by omega) (by omega) (fun hz => absurd hz ((by omega))) (fun h235 => ?_)
    refine z_iload8 240 dL_acts_238 rfl ?_
    refine z_iload7 242 dL_acts_240 rfl ?_
    refine z_icmp_ne 249 245 dL_acts_242 (by decide) rfl (by omega) (by omega) (fun h242 => ?_) (fun hz => absurd hz (by omega))
    refine z_iconst 250 dL_acts_249 rfl ?_
    refine z_goto 254 dL_acts_250 (by decide) ?_
    exact z_ireturn dL_acts_254 rfl (⟨rfl, lS_of h s157 l158 u1⟩)
theorem acts_e {A : zA} {x r t v : Nat} (hx : x < 4096) (hg : gd A.1) (hrn : ((x / 8 : Nat) : Int) % A.1 0 6 = (r : Int)) (hr : (r : Int) < A.1 0 6) (hc : x % 8 = 7) (ht : (x / 8) % 10 = t) (hv : (x / 8 / 8) % 10 = v) (hl : lS sh I L R A N) : zE X mL_acts 0 0 0 [zR 0, zR 157, zI (x : Int), zX, zX, zX, zX, zX, zX] [] sh I L R (lO (if A.1 2 t = (v : Int) then 0 else 1) (if A.1 2 t = (v : Int) then A else (zup A.1 2 t (v : Int), (oPush A).2)) N) := by
  have n5 := hg.n5
  have g6 := hg.sr.2.2.2.2.2.2 r (by omega)
  have t10 : t < 10 := by omega
  have v10 : v < 10 := by omega
  have g1 := hg.sr.2.2.1 t t10
  obtain ⟨⟨P, hcA⟩, s157, l158, hI⟩ := id hl
  obtain ⟨u1, P2, u2⟩ := lS_up (k := 13 + t) (i := 2) (j := t) (v := (v : Int)) hl (by unfold wix; omega)
  have h := pH.rf u2
  have s0 := h.sh0
  have et : ((x / 8 : Nat) : Int) % 10 = (t : Int) := by omega
  have ev : zshr ((x / 8 : Nat) : Int) 3 = ((x / 8 / 8 : Nat) : Int) := x3_n (by omega)
  have ev2 : ((x / 8 / 8 : Nat) : Int) % 10 = (v : Int) := by omega
  by_cases hp : A.1 2 t = (v : Int)
  · have e : oWax A 2 (t : Int) (v : Int) = (-2, A) := by unfold oWax; rw [if_pos (by omega), Int.toNat_natCast, if_pos hp]
    have es : zup A.1 2 t (v : Int) = A.1 := by rw [← hp]; exact zup_self _ _ _
    rw [if_pos hp, if_pos hp]
    refine z_iload2 1 dL_acts_0 rfl ?_
    refine z_iconst 2 dL_acts_1 rfl ?_
    refine z_ishr 3 dL_acts_2 rfl ?_
    rw [x3_n hx]
    refine z_istore3 4 dL_acts_3 (Nat.le_of_ble_eq_true rfl) rfl rfl ?_
    refine z_iload3 5 dL_acts_4 rfl ?_
    refine z_aload1 6 dL_acts_5 rfl ?_
    refine z_iconst 7 dL_acts_6 rfl ?_
    refine z_ialdx 8 (0) dL_acts_7 (by assumption) (by omega) (by omega) (lS_at hl 0) rfl ?_
    show zE X mL_acts 0 0 8 _ [zI (A.1 0 6), _] sh I L R _
    refine z_irem 9 dL_acts_8 (by omega) (by omega) rfl ?_
    rw [hrn]
    refine z_istore4 11 dL_acts_9 (Nat.le_of_ble_eq_true rfl) rfl rfl ?_
    refine z_aload1 12 dL_acts_11 rfl ?_
    refine z_bipush 14 dL_acts_12 (by decide) rfl ?_
    refine z_iconst 15 dL_acts_14 rfl ?_
    refine z_iload4 17 dL_acts_15 rfl ?_
    refine z_imul 18 dL_acts_17 rfl ?_
    refine z_iadd 19 dL_acts_18 rfl ?_
    refine z_ialdx 20 (26 + 4 * r) dL_acts_19 (by assumption) (by omega) (by omega) (lS_26 hl (by omega)) rfl ?_
    refine z_istore5 22 dL_acts_20 (Nat.le_of_ble_eq_true rfl) rfl rfl ?_
    refine z_iload2 23 dL_acts_22 rfl ?_
    refine z_bipush 25 dL_acts_23 (by decide) rfl ?_
    refine z_iand 26 dL_acts_25 rfl ?_
    rw [x7_n hx]
    refine z_iconst 27 dL_acts_26 rfl ?_
    refine z_icmp_ge 88 30 dL_acts_27 (by decide) rfl (by omega) (by omega) (fun h27 => ?_) (fun hz => absurd hz (by omega))
    refine z_iload2 89 dL_acts_88 rfl ?_
    refine z_bipush 91 dL_acts_89 (by decide) rfl ?_
    refine z_iand 92 dL_acts_91 rfl ?_
    rw [x7_n hx]
    refine z_iconst 93 dL_acts_92 rfl ?_
    refine z_icmp_ne 147 96 dL_acts_93 (by decide) rfl (by omega) (by omega) (fun h93 => ?_) (fun hz => absurd hz (by omega))
    refine z_iload2 148 dL_acts_147 rfl ?_
    refine z_bipush 150 dL_acts_148 (by decide) rfl ?_
    refine z_iand 151 dL_acts_150 rfl ?_
    rw [x7_n hx]
    refine z_bipush 153 dL_acts_151 (by decide) rfl ?_
    refine z_icmp_ne 160 156 dL_acts_153 (by decide) rfl (by omega) (by omega) (fun h153 => ?_) (fun hz => absurd hz (by omega))
    refine z_bipush 162 dL_acts_160 (by decide) rfl ?_
    refine z_iload3 163 dL_acts_162 rfl ?_
    refine z_bipush 165 dL_acts_163 (by decide) rfl ?_
    refine z_irem 166 dL_acts_165 (by omega) (by omega) rfl ?_
    rw [et]
    refine z_iadd 167 dL_acts_166 rfl ?_
    refine z_istore6 169 dL_acts_167 (Nat.le_of_ble_eq_true rfl) rfl rfl ?_
    refine z_iload3 170 dL_acts_169 rfl ?_
    refine z_iconst 171 dL_acts_170 rfl ?_
    refine z_ishr 172 dL_acts_171 rfl ?_
    rw [ev]
    refine z_bipush 174 dL_acts_172 (by decide) rfl ?_
    refine z_irem 175 dL_acts_174 (by omega) (by omega) rfl ?_
    rw [ev2]
    refine z_istore7 177 dL_acts_175 (Nat.le_of_ble_eq_true rfl) rfl rfl ?_
    refine z_aload1 178 dL_acts_177 rfl ?_
    refine z_iload6 180 dL_acts_178 rfl ?_
    refine z_ialdx 181 (13 + t) dL_acts_180 (by assumption) (by omega) (by omega) (lS_13 hl t10) rfl ?_
    refine z_istore8 183 dL_acts_181 (Nat.le_of_ble_eq_true rfl) rfl rfl ?_
    refine z_aload1 184 dL_acts_183 rfl ?_
    refine z_iload6 186 dL_acts_184 rfl ?_
    refine z_iload7 188 dL_acts_186 rfl ?_
    refine z_iastN 189 (13 + t) dL_acts_188 (by assumption) (by omega) (by omega) rfl ?_
    refine z_iload2 190 dL_acts_189 rfl ?_
    refine z_bipush 192 dL_acts_190 (by decide) rfl ?_
    refine z_iand 193 dL_acts_192 rfl ?_
    rw [x7_n hx]
    refine z_bipush 195 dL_acts_193 (by decide) rfl ?_
    refine z_icmp_ne 211 198 dL_acts_195 (by decide) rfl (by omega) (by omega) (fun h195 => ?_) (fun hz => absurd hz (by omega))
    refine z_aload0 212 dL_acts_211 rfl ?_
    refine z_iload3 213 dL_acts_212 rfl ?_
    refine z_bipush 215 dL_acts_213 (by decide) rfl ?_
    refine z_irem 216 dL_acts_215 (by omega) (by omega) rfl ?_
    rw [et]
    refine z_iload7 218 dL_acts_216 rfl ?_
    refine z_pV2 221 dL_acts_218 lk_L_acts_56 (pc_hammer h (by omega) (by omega) e) rfl (Nat.le_of_ble_eq_true rfl) (Nat.le_of_ble_eq_true rfl) (by assumption) rfl rfl (fun r0 sh0 I0 L0 R0 hpq => ?_)
    obtain ⟨rfl, rfl, h⟩ := pO hpq
    refine z_iload8 223 dL_acts_221 rfl ?_
    refine z_iload7 225 dL_acts_223 rfl ?_
    refine z_icmp_ne 233 228 dL_acts_225 (by decide) rfl (by omega) (by omega) (fun hz => absurd hz ((by omega))) (fun h225 => ?_)
    refine z_bipush 230 dL_acts_228 (by decide) rfl ?_
    refine z_goto 235 dL_acts_230 (by decide) ?_
    refine z_icmp_ne 253 238 dL_acts_235 (by decide) rfl (by omega) (by omega) (fun hz => absurd hz ((by omega))) (fun h235 => ?_)
    refine z_iload8 240 dL_acts_238 rfl ?_
    refine z_iload7 242 dL_acts_240 rfl ?_
    refine z_icmp_ne 249 245 dL_acts_242 (by decide) rfl (by omega) (by omega) (fun hz => absurd hz ((by omega))) (fun h242 => ?_)
    refine z_iconst 246 dL_acts_245 rfl ?_
    refine z_goto 254 dL_acts_246 (by decide) ?_
    exact z_ireturn dL_acts_254 rfl (⟨rfl, lS_of h s157 l158 (by rw [u1, es])⟩)
  · have e : oWax A 2 (t : Int) (v : Int) = (A.1 2 t, (zup A.1 2 t (v : Int), (oPush A).2)) := by unfold oWax; rw [if_pos (by omega), Int.toNat_natCast, if_neg hp]
    rw [if_neg hp, if_neg hp]
    refine z_iload2 1 dL_acts_0 rfl ?_
    refine z_iconst 2 dL_acts_1 rfl ?_
    refine z_ishr 3 dL_acts_2 rfl ?_
    rw [x3_n hx]
    refine z_istore3 4 dL_acts_3 (Nat.le_of_ble_eq_true rfl) rfl rfl ?_
    refine z_iload3 5 dL_acts_4 rfl ?_
    refine z_aload1 6 dL_acts_5 rfl ?_
    refine z_iconst 7 dL_acts_6 rfl ?_
    refine z_ialdx 8 (0) dL_acts_7 (by assumption) (by omega) (by omega) (lS_at hl 0) rfl ?_
    show zE X mL_acts 0 0 8 _ [zI (A.1 0 6), _] sh I L R _
    refine z_irem 9 dL_acts_8 (by omega) (by omega) rfl ?_
    rw [hrn]
    refine z_istore4 11 dL_acts_9 (Nat.le_of_ble_eq_true rfl) rfl rfl ?_
    refine z_aload1 12 dL_acts_11 rfl ?_
    refine z_bipush 14 dL_acts_12 (by decide) rfl ?_
    refine z_iconst 15 dL_acts_14 rfl ?_
    refine z_iload4 17 dL_acts_15 rfl ?_
    refine z_imul 18 dL_acts_17 rfl ?_
    refine z_iadd 19 dL_acts_18 rfl ?_
    refine z_ialdx 20 (26 + 4 * r) dL_acts_19 (by assumption) (by omega) (by omega) (lS_26 hl (by omega)) rfl ?_
    refine z_istore5 22 dL_acts_20 (Nat.le_of_ble_eq_true rfl) rfl rfl ?_
    refine z_iload2 23 dL_acts_22 rfl ?_
    refine z_bipush 25 dL_acts_23 (by decide) rfl ?_
    refine z_iand 26 dL_acts_25 rfl ?_
    rw [x7_n hx]
    refine z_iconst 27 dL_acts_26 rfl ?_
    refine z_icmp_ge 88 30 dL_acts_27 (by decide) rfl (by omega) (by omega) (fun h27 => ?_) (fun hz => absurd hz (by omega))
    refine z_iload2 89 dL_acts_88 rfl ?_
    refine z_bipush 91 dL_acts_89 (by decide) rfl ?_
    refine z_iand 92 dL_acts_91 rfl ?_
    rw [x7_n hx]
    refine z_iconst 93 dL_acts_92 rfl ?_
    refine z_icmp_ne 147 96 dL_acts_93 (by decide) rfl (by omega) (by omega) (fun h93 => ?_) (fun hz => absurd hz (by omega))
    refine z_iload2 148 dL_acts_147 rfl ?_
    refine z_bipush 150 dL_acts_148 (by decide) rfl ?_
    refine z_iand 151 dL_acts_150 rfl ?_
    rw [x7_n hx]
    refine z_bipush 153 dL_acts_151 (by decide) rfl ?_
    refine z_icmp_ne 160 156 dL_acts_153 (by decide) rfl (by omega) (by omega) (fun h153 => ?_) (fun hz => absurd hz (by omega))
    refine z_bipush 162 dL_acts_160 (by decide) rfl ?_
    refine z_iload3 163 dL_acts_162 rfl ?_
    refine z_bipush 165 dL_acts_163 (by decide) rfl ?_
    refine z_irem 166 dL_acts_165 (by omega) (by omega) rfl ?_
    rw [et]
    refine z_iadd 167 dL_acts_166 rfl ?_
    refine z_istore6 169 dL_acts_167 (Nat.le_of_ble_eq_true rfl) rfl rfl ?_
    refine z_iload3 170 dL_acts_169 rfl ?_
    refine z_iconst 171 dL_acts_170 rfl ?_
    refine z_ishr 172 dL_acts_171 rfl ?_
    rw [ev]
    refine z_bipush 174 dL_acts_172 (by decide) rfl ?_
    refine z_irem 175 dL_acts_174 (by omega) (by omega) rfl ?_
    rw [ev2]
    refine z_istore7 177 dL_acts_175 (Nat.le_of_ble_eq_true rfl) rfl rfl ?_
    refine z_aload1 178 dL_acts_177 rfl ?_
    refine z_iload6 180 dL_acts_178 rfl ?_
    refine z_ialdx 181 (13 + t) dL_acts_180 (by assumption) (by omega) (by omega) (lS_13 hl t10) rfl ?_
    refine z_istore8 183 dL_acts_181 (Nat.le_of_ble_eq_true rfl) rfl rfl ?_
    refine z_aload1 184 dL_acts_183 rfl ?_
    refine z_iload6 186 dL_acts_184 rfl ?_
    refine z_iload7 188 dL_acts_186 rfl ?_
    refine z_iastN 189 (13 + t) dL_acts_188 (by assumption) (by omega) (by omega) rfl ?_
    refine z_iload2 190 dL_acts_189 rfl ?_
    refine z_bipush 192 dL_acts_190 (by decide) rfl ?_
    refine z_iand 193 dL_acts_192 rfl ?_
    rw [x7_n hx]
    refine z_bipush 195 dL_acts_193 (by decide) rfl ?_
    refine z_icmp_ne 211 198 dL_acts_195 (by decide) rfl (by omega) (by omega) (fun h195 => ?_) (fun hz => absurd hz (by omega))
    refine z_aload0 212 dL_acts_211 rfl ?_
    refine z_iload3 213 dL_acts_212 rfl ?_
    refine z_bipush 215 dL_acts_213 (by decide) rfl ?_
    refine z_irem 216 dL_acts_215 (by omega) (by omega) rfl ?_
    rw [et]
    refine z_iload7 218 dL_acts_216 rfl ?_
    refine z_pV2 221 dL_acts_218 lk_L_acts_56 (pc_hammer h (by omega) (by omega) e) rfl (Nat.le_of_ble_eq_true rfl) (Nat.le_of_ble_eq_true rfl) (by assumption) rfl rfl (fun r0 sh0 I0 L0 R0 hpq => ?_)
    obtain ⟨rfl, rfl, h⟩ := pO hpq
    refine z_iload8 223 dL_acts_221 rfl ?_
    refine z_iload7 225 dL_acts_223 rfl ?_
    refine z_icmp_ne 233 228 dL_acts_225 (by decide) rfl (by omega) (by omega) (fun h225 => ?_) (fun hz => absurd hz (by omega))
    refine z_iload8 235 dL_acts_233 rfl ?_
    refine z_icmp_ne 253 238 dL_acts_235 (by decide) rfl (by omega) (by omega) (fun hz => absurd hz ((by omega))) (fun h235 => ?_)
    refine z_iload8 240 dL_acts_238 rfl ?_
    refine z_iload7 242 dL_acts_240 rfl ?_
    refine z_icmp_ne 249 245 dL_acts_242 (by decide) rfl (by omega) (by omega) (fun h242 => ?_) (fun hz => absurd hz (by omega))
    refine z_iconst 250 dL_acts_249 rfl ?_
    refine z_goto 254 dL_acts_250 (by decide) ?_
    exact z_ireturn dL_acts_254 rfl (⟨rfl, lS_of h s157 l158 u1⟩)
/-- whatever the number: the act is done on both alike -/
theorem ct_L_acts {A : zA} {x : Nat} (hx : x < 4096) (hg : gd A.1) (h7 : A.1 0 7 ≤ 100) : ∃ (A' : zA) (k : Nat) (b : Int), k ≤ 1 ∧ (0 ≤ b ∧ b ≤ 1) ∧ gd A'.1 ∧ A'.1 0 7 ≤ A.1 0 7 + 1 ∧ ∀ (N : Nat → Int) (sh : zH) (I L : zI2) (R : zR2), lS sh I L R A N → zE X mL_acts k (10 * k) 0 [zR 0, zR 157, zI (x : Int), zX, zX, zX, zX, zX, zX] [] sh I L R (lO b A' N) := by
  have n5 := hg.n5
  have hm0 := Int.emod_nonneg ((x / 8 : Nat) : Int) (show A.1 0 6 ≠ 0 by omega)
  have hm1 := Int.emod_lt_of_pos ((x / 8 : Nat) : Int) (show 0 < A.1 0 6 by omega)
  obtain ⟨r, hrn⟩ : ∃ r : Nat, ((x / 8 : Nat) : Int) % A.1 0 6 = (r : Int) := ⟨(((x / 8 : Nat) : Int) % A.1 0 6).toNat, by omega⟩
  have hr : (r : Int) < A.1 0 6 := by omega
  by_cases hc : x % 8 < 5
  · by_cases hp : A.1 6 r = 30
    · refine ⟨(send A.1 r, (oPush A).2), 1, 1, by omega, by omega, gd_send hg hr hp (by omega), ?_, fun N sh I L R hl => acts_b hx hg h7 hrn hr hc hp hl⟩
      show send A.1 r 0 7 ≤ _
      rw [psend_07]
      omega
    · exact ⟨A, 0, 0, by omega, by omega, hg, by omega, fun N sh I L R hl => acts_a hx hg h7 hrn hr hc hp hl⟩
  · by_cases h5 : x % 8 = 5
    · refine ⟨if A.1 6 r = 30 then A else (zup A.1 6 r 30, (oPush A).2), 0, if A.1 6 r = 30 then 0 else 1, by omega, by split <;> omega, ?_, ?_, fun N sh I L R hl => acts_c hx hg hrn hr h5 hl⟩
      · split
        · exact hg
        · exact gd_up hg r
      · split
        · omega
        · show zup A.1 6 r 30 0 7 ≤ _
          rw [zup_row _ _ (by decide)]
          omega
    · have ht : (x / 8) % 10 < 10 := Nat.mod_lt _ (by omega)
      have hv : (x / 8 / 8) % 10 < 10 := Nat.mod_lt _ (by omega)
      by_cases h6 : x % 8 = 6
      · refine ⟨if A.1 1 ((x / 8) % 10) = (((x / 8 / 8) % 10 : Nat) : Int) then A else (zup A.1 1 ((x / 8) % 10) (((x / 8 / 8) % 10 : Nat) : Int), (oPush A).2), 0, if A.1 1 ((x / 8) % 10) = (((x / 8 / 8) % 10 : Nat) : Int) then 0 else 1, by omega, by split <;> omega, ?_, ?_, fun N sh I L R hl => acts_d hx hg hrn hr h6 rfl rfl hl⟩
        · split
          · exact hg
          · exact gd_row hg (Or.inl rfl) (by omega)
        · split
          · omega
          · show zup A.1 1 ((x / 8) % 10) (((x / 8 / 8) % 10 : Nat) : Int) 0 7 ≤ _
            rw [zup_row _ _ (by decide)]
            omega
      · have h8 : x % 8 = 7 := by omega
        refine ⟨if A.1 2 ((x / 8) % 10) = (((x / 8 / 8) % 10 : Nat) : Int) then A else (zup A.1 2 ((x / 8) % 10) (((x / 8 / 8) % 10 : Nat) : Int), (oPush A).2), 0, if A.1 2 ((x / 8) % 10) = (((x / 8 / 8) % 10 : Nat) : Int) then 0 else 1, by omega, by split <;> omega, ?_, ?_, fun N sh I L R hl => acts_e hx hg hrn hr h8 rfl rfl hl⟩
        · split
          · exact hg
          · exact gd_row hg (Or.inr rfl) (by omega)
        · split
          · omega
          · show zup A.1 2 ((x / 8) % 10) (((x / 8 / 8) % 10 : Nat) : Int) 0 7 ≤ _
            rw [zup_row _ _ (by decide)]
            omega
end ACTS
