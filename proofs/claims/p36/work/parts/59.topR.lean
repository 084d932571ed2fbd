/-! ===== lowest terms ===== -/
def rq (p a q : Int) : Int := if a % p = 0 then q / p else q
def rdi : Nat → Int → Int → Int × Int
  | 0, a, b => (a, b)
  | m + 1, a, b => rdi m (rq 5 (rq 2 a a) (rq 2 a a)) (rq 5 (rq 2 a a) (rq 2 a b))
def rdl : Nat → Nat → Nat → Nat × Nat
  | 0, a, b => (a, b)
  | m + 1, a, b => rdl m (if (if a % 2 = 0 then a / 2 else a) % 5 = 0 then (if a % 2 = 0 then a / 2 else a) / 5 else (if a % 2 = 0 then a / 2 else a)) (if (if a % 2 = 0 then a / 2 else a) % 5 = 0 then (if a % 2 = 0 then b / 2 else b) / 5 else (if a % 2 = 0 then b / 2 else b))
theorem rq_n (p a q : Nat) : rq (p : Int) (a : Int) (q : Int) = ((if a % p = 0 then q / p else q : Nat) : Int) := by
  unfold rq
  by_cases h : a % p = 0
  · rw [if_pos h, if_pos (by rw [← Int.natCast_emod, h]; rfl)]
    rfl
  · rw [if_neg h, if_neg (fun q => h (by rw [← Int.natCast_emod] at q; omega))]
theorem rdi_n : ∀ (m a b : Nat), rdi m (a : Int) (b : Int) = (((rdl m a b).1 : Int), ((rdl m a b).2 : Int))
  | 0, a, b => rfl
  | m + 1, a, b => by
    have e2 := fun q : Nat => rq_n 2 a q
    have e5 := fun x q : Nat => rq_n 5 x q
    unfold rdi rdl
    rw [show (2 : Int) = ((2 : Nat) : Int) from rfl, show (5 : Int) = ((5 : Nat) : Int) from rfl, e2 a, e2 b, e5, e5, rdi_n m]
theorem cop_p {a p : Nat} (hp : p = 2 ∨ p = 5) (h : a % p ≠ 0) (k : Nat) : Nat.Coprime a (p ^ k) := by
  apply Nat.Coprime.pow_right
  unfold Nat.Coprime
  rw [Nat.gcd_comm, Nat.gcd_rec]
  have h2 : a % p < p := Nat.mod_lt _ (by omega)
  rcases hp with rfl | rfl
  · rw [show a % 2 = 1 by omega]
    decide
  · have : a % 5 = 1 ∨ a % 5 = 2 ∨ a % 5 = 3 ∨ a % 5 = 4 := by omega
    rcases this with e | e | e | e <;> (rw [e]; decide)
theorem rdl_g : ∀ (m a b i j : Nat), b = 2 ^ i * 5 ^ j → m ≤ i → m ≤ j → (i = m ∨ a % 2 ≠ 0) → (j = m ∨ a % 5 ≠ 0) → ∃ G, a = (rdl m a b).1 * G ∧ b = (rdl m a b).2 * G ∧ Nat.Coprime (rdl m a b).1 (rdl m a b).2
  | 0, a, b, i, j, hb, _, _, hi, hj => by
    refine ⟨1, (Nat.mul_one a).symm, (Nat.mul_one b).symm, ?_⟩
    show Nat.Coprime a b
    rw [hb]
    refine Nat.Coprime.mul_right ?_ ?_
    · rcases hi with h | h
      · subst h; exact Nat.coprime_one_right a
      · exact cop_p (Or.inl rfl) h i
    · rcases hj with h | h
      · subst h; exact Nat.coprime_one_right a
      · exact cop_p (Or.inr rfl) h j
  | m + 1, a, b, i, j, hb, hmi, hmj, hi, hj => by
    -- the step by 2
    obtain ⟨a1, b1, i1, G1, ha1, hb1, e1, e2, hb1', hmi1, hi1, hj1⟩ : ∃ a1 b1 i1 G1 : Nat, a1 = (if a % 2 = 0 then a / 2 else a) ∧ b1 = (if a % 2 = 0 then b / 2 else b) ∧ a = a1 * G1 ∧ b = b1 * G1 ∧ b1 = 2 ^ i1 * 5 ^ j ∧ m ≤ i1 ∧ (i1 = m ∨ a1 % 2 ≠ 0) ∧ (j = m + 1 ∨ a1 % 5 ≠ 0) := by
      by_cases h : a % 2 = 0
      · have him : i = m + 1 := by omega
        subst him
        have hb2 : b = 2 * (2 ^ m * 5 ^ j) := by rw [hb, Nat.pow_succ, Nat.mul_comm (2 ^ m) 2, Nat.mul_assoc]
        refine ⟨a / 2, b / 2, m, 2, by rw [if_pos h], by rw [if_pos h], by omega, by omega, by rw [hb2]; omega, Nat.le_refl _, Or.inl rfl, ?_⟩
        rcases hj with h1 | h1
        · exact Or.inl h1
        · exact Or.inr (by omega)
      · exact ⟨a, b, i, 1, by rw [if_neg h], by rw [if_neg h], by omega, by omega, hb, by omega, Or.inr (by omega), hj⟩
    obtain ⟨a2, b2, j2, G2, ha2, hb2, f1, f2, hb2', hmj2, hi2, hj2⟩ : ∃ a2 b2 j2 G2 : Nat, a2 = (if a1 % 5 = 0 then a1 / 5 else a1) ∧ b2 = (if a1 % 5 = 0 then b1 / 5 else b1) ∧ a1 = a2 * G2 ∧ b1 = b2 * G2 ∧ b2 = 2 ^ i1 * 5 ^ j2 ∧ m ≤ j2 ∧ (i1 = m ∨ a2 % 2 ≠ 0) ∧ (j2 = m ∨ a2 % 5 ≠ 0) := by
      by_cases h : a1 % 5 = 0
      · have hjm : j = m + 1 := by omega
        subst hjm
        have hb2 : b1 = 5 * (2 ^ i1 * 5 ^ m) := by rw [hb1', Nat.pow_succ, Nat.mul_comm (5 ^ m) 5, Nat.mul_left_comm]
        refine ⟨a1 / 5, b1 / 5, m, 5, by rw [if_pos h], by rw [if_pos h], by omega, by omega, by rw [hb2]; omega, Nat.le_refl _, ?_, Or.inl rfl⟩
        rcases hi1 with h1 | h1
        · exact Or.inl h1
        · exact Or.inr (by omega)
      · exact ⟨a1, b1, j, 1, by rw [if_neg h], by rw [if_neg h], by omega, by omega, hb1', by omega, hi1, Or.inr (by omega)⟩
    obtain ⟨G, g1, g2, g3⟩ := rdl_g m a2 b2 i1 j2 hb2' hmi1 hmj2 hi2 hj2
    have er : rdl (m + 1) a b = rdl m a2 b2 := by
      rw [rdl]
      rw [← ha1, ← hb1, ← ha2, ← hb2]
    rw [er]
    exact ⟨G * (G2 * G1), by rw [← Nat.mul_assoc, ← g1, ← Nat.mul_assoc, ← f1, ← e1], by rw [← Nat.mul_assoc, ← g2, ← Nat.mul_assoc, ← f2, ← e2], g3⟩
theorem rdl_e (a : Nat) : rdl 10 a 10000000000 = (a / Nat.gcd a 10000000000, 10000000000 / Nat.gcd a 10000000000) := by
  obtain ⟨G, h1, h2, h3⟩ := rdl_g 10 a 10000000000 10 10 (by decide) (Nat.le_refl _) (Nat.le_refl _) (Or.inl rfl) (Or.inl rfl)
  generalize rdl 10 a 10000000000 = d at h1 h2 h3 ⊢
  have hG : 0 < G := by
    rcases Nat.eq_zero_or_pos G with h | h
    · subst h; omega
    · exact h
  have hg : Nat.gcd a 10000000000 = G := by
    rw [h1, h2, Nat.gcd_mul_right, h3, Nat.one_mul]
  rw [hg]
  have e1 : a / G = d.1 := by rw [h1]; exact Nat.mul_div_cancel _ hG
  have e2 : 10000000000 / G = d.2 := by rw [h2]; exact Nat.mul_div_cancel _ hG
  rw [e1, e2]
theorem zcm0 {x : Int} : zcmpL x 0 = 0 ↔ x = 0 := by
  unfold zcmpL
  split
  · omega
  · split <;> omega
theorem zcmr (x y : Int) : -1 ≤ zcmpL x y ∧ zcmpL x y ≤ 1 := by
  unfold zcmpL
  split
  · omega
  · split <;> omega
theorem rdi_pp {m : Nat} {a b : Int} (h : a % 2 = 0) (h5 : a / 2 % 5 = 0) : rdi (m + 1) a b = rdi m (a / 2 / 5) (b / 2 / 5) := by rw [rdi]; unfold rq; rw [if_pos h, if_pos h, if_pos h5, if_pos h5]
theorem rdi_pn {m : Nat} {a b : Int} (h : a % 2 = 0) (h5 : ¬ a / 2 % 5 = 0) : rdi (m + 1) a b = rdi m (a / 2) (b / 2) := by rw [rdi]; unfold rq; rw [if_pos h, if_pos h, if_neg h5, if_neg h5]
theorem rdi_np {m : Nat} {a b : Int} (h : ¬ a % 2 = 0) (h5 : a % 5 = 0) : rdi (m + 1) a b = rdi m (a / 5) (b / 5) := by rw [rdi]; unfold rq; rw [if_neg h, if_neg h, if_pos h5, if_pos h5]
theorem rdi_nn {m : Nat} {a b : Int} (h : ¬ a % 2 = 0) (h5 : ¬ a % 5 = 0) : rdi (m + 1) a b = rdi m a b := by rw [rdi]; unfold rq; rw [if_neg h, if_neg h, if_neg h5, if_neg h5]
def oRain (A : zA) (r c w : Int) : Int := if (0 ≤ r ∧ r ≤ A.1 0 6 - 1) ∧ (0 ≤ c ∧ c ≤ 10) ∧ (0 ≤ w ∧ w ≤ 1) then (if w = 0 then (((rfn A.1 r.toNat c 10 0 2).toNat / Nat.gcd (rfn A.1 r.toNat c 10 0 2).toNat 10000000000 : Nat) : Int) else ((10000000000 / Nat.gcd (rfn A.1 r.toNat c 10 0 2).toNat 10000000000 : Nat) : Int)) else -1
section TOPR
variable {X : zXs} {sh : zH} {I L : zI2} {R : zR2} {P : Nat → Nat} {A : zA}
theorem zOp_sameL {L' : zI2} (h : zCA sh R P I L A) {x y : Int} (hK : ∀ a, ¬ (a = 147 ∨ a = 148) → L' a = L a) (e : x = y) : zOp sh I L R (zL y) A [zL x] sh I L' R := by
  subst e
  exact ⟨rfl, rfl, ⟨P, zCA_scr h (fun a _ => rfl) hK h.2.2.1 h.2.2.2.2.2.2.2⟩, fun a ha => ⟨rfl, hK a (by omega), rfl⟩⟩
theorem lp_X6_rain {r c w : Int} {L' : zI2} {v : Int} (h : zCA sh R P I L A) (hK : ∀ a, ¬ (a = 147 ∨ a = 148) → L' a = L a) (hw : 0 ≤ w ∧ w ≤ 1) : ∀ (m i : Nat) (a b : Int), i + m = 10 → (0 ≤ a ∧ a ≤ 10000000000) → (0 ≤ b ∧ b ≤ 10000000000) → v = (if w = 0 then (rdi m a b).1 else (rdi m a b).2) → zE X mX6_rain 0 0 57 [zR 0, zI r, zI c, zI w, zL a, zX, zL b, zX, zI (i : Int)] [] sh I L' R (zOp sh I L R (zL v) A)
  | 0, i, a, b, hi, ha, hb, hv => by
    refine z_iload8 59 dX6_rain_57 rfl ?_
    refine z_bipush 61 dX6_rain_59 (by decide) rfl ?_
    refine z_icmp_ge 124 64 dX6_rain_61 (by decide) rfl (by omega) (by omega) (fun h61 => ?_) (fun hz => absurd hz (by omega))
    refine z_iload3 125 dX6_rain_124 rfl ?_
    refine z_if_ne 133 128 dX6_rain_125 (by decide) rfl (by omega) (fun h125 => ?_) (fun h125 => ?_)
    · refine z_lload6 135 dX6_rain_133 rfl ?_
      exact z_lreturn dX6_rain_135 rfl (zOp_sameL h hK (by rw [hv]; first | rw [if_pos (by omega)]; rfl | rw [if_neg (by omega)]; rfl))
    · refine z_lload4 130 dX6_rain_128 rfl ?_
      refine z_goto 135 dX6_rain_130 (by decide) ?_
      exact z_lreturn dX6_rain_135 rfl (zOp_sameL h hK (by rw [hv]; first | rw [if_pos (by omega)]; rfl | rw [if_neg (by omega)]; rfl))
  | m + 1, i, a, b, hi, ha, hb, hv => by
    have c1 := zcmr (a % 2) 0
    have c2 := zcmr (a % 5) 0
    have c3 := zcmr (a / 2 % 5) 0
    refine z_iload8 59 dX6_rain_57 rfl ?_
    refine z_bipush 61 dX6_rain_59 (by decide) rfl ?_
    refine z_icmp_ge 124 64 dX6_rain_61 (by decide) rfl (by omega) (by omega) (fun hz => absurd hz (by omega)) (fun h61 => ?_)
    refine z_lload4 66 dX6_rain_64 rfl ?_
    refine z_ldc2 69 dX6_rain_66 kl_RX6_222 rfl ?_
    refine z_lrem 70 dX6_rain_69 (by omega) (by omega) rfl ?_
    refine z_lconst0 71 dX6_rain_70 rfl ?_
    refine z_lcmp 72 dX6_rain_71 (by omega) (by omega) rfl ?_
    refine z_if_ne 91 75 dX6_rain_72 (by decide) rfl (by omega) (fun h72 => ?_) (fun h72 => ?_)
    · have g2 := fun e => h72 (zcm0.mpr e)
      refine z_lload4 93 dX6_rain_91 rfl ?_
      refine z_ldc2 96 dX6_rain_93 kl_RX6_224 rfl ?_
      refine z_lrem 97 dX6_rain_96 (by omega) (by omega) rfl ?_
      refine z_lconst0 98 dX6_rain_97 rfl ?_
      refine z_lcmp 99 dX6_rain_98 (by omega) (by omega) rfl ?_
      refine z_if_ne 118 102 dX6_rain_99 (by decide) rfl (by omega) (fun h99 => ?_) (fun h99 => ?_)
      · have g5 := fun e => h99 (zcm0.mpr e)
        refine z_iinc8 121 dX6_rain_118 (Nat.le_of_ble_eq_true rfl) rfl rfl ?_
        refine z_goto 57 dX6_rain_121 (by decide) ?_
        first | (rw [rdi_pp g2 g5] at hv; exact lp_X6_rain h hK hw m (i + 1) _ _ (by omega) (by omega) (by omega) hv) | (rw [rdi_pn g2 g5] at hv; exact lp_X6_rain h hK hw m (i + 1) _ _ (by omega) (by omega) (by omega) hv) | (rw [rdi_np g2 g5] at hv; exact lp_X6_rain h hK hw m (i + 1) _ _ (by omega) (by omega) (by omega) hv) | (rw [rdi_nn g2 g5] at hv; exact lp_X6_rain h hK hw m (i + 1) _ _ (by omega) (by omega) (by omega) hv)
      · have g5 := zcm0.mp h99
        refine z_lload4 104 dX6_rain_102 rfl ?_
        refine z_ldc2 107 dX6_rain_104 kl_RX6_224 rfl ?_
        refine z_ldiv 108 dX6_rain_107 (by omega) (by omega) rfl ?_
        refine z_lstore4 110 dX6_rain_108 (Nat.le_of_ble_eq_true rfl) rfl rfl ?_
        refine z_lload6 112 dX6_rain_110 rfl ?_
        refine z_ldc2 115 dX6_rain_112 kl_RX6_224 rfl ?_
        refine z_ldiv 116 dX6_rain_115 (by omega) (by omega) rfl ?_
        refine z_lstore6 118 dX6_rain_116 (Nat.le_of_ble_eq_true rfl) rfl rfl ?_
        refine z_iinc8 121 dX6_rain_118 (Nat.le_of_ble_eq_true rfl) rfl rfl ?_
        refine z_goto 57 dX6_rain_121 (by decide) ?_
        first | (rw [rdi_pp g2 g5] at hv; exact lp_X6_rain h hK hw m (i + 1) _ _ (by omega) (by omega) (by omega) hv) | (rw [rdi_pn g2 g5] at hv; exact lp_X6_rain h hK hw m (i + 1) _ _ (by omega) (by omega) (by omega) hv) | (rw [rdi_np g2 g5] at hv; exact lp_X6_rain h hK hw m (i + 1) _ _ (by omega) (by omega) (by omega) hv) | (rw [rdi_nn g2 g5] at hv; exact lp_X6_rain h hK hw m (i + 1) _ _ (by omega) (by omega) (by omega) hv)
    · have g2 := zcm0.mp h72
      refine z_lload4 77 dX6_rain_75 rfl ?_
      refine z_ldc2 80 dX6_rain_77 kl_RX6_222 rfl ?_
      refine z_ldiv 81 dX6_rain_80 (by omega) (by omega) rfl ?_
      refine z_lstore4 83 dX6_rain_81 (Nat.le_of_ble_eq_true rfl) rfl rfl ?_
      refine z_lload6 85 dX6_rain_83 rfl ?_
      refine z_ldc2 88 dX6_rain_85 kl_RX6_222 rfl ?_
      refine z_ldiv 89 dX6_rain_88 (by omega) (by omega) rfl ?_
      refine z_lstore6 91 dX6_rain_89 (Nat.le_of_ble_eq_true rfl) rfl rfl ?_
      refine z_lload4 93 dX6_rain_91 rfl ?_
      refine z_ldc2 96 dX6_rain_93 kl_RX6_224 rfl ?_
      refine z_lrem 97 dX6_rain_96 (by omega) (by omega) rfl ?_
      refine z_lconst0 98 dX6_rain_97 rfl ?_
      refine z_lcmp 99 dX6_rain_98 (by omega) (by omega) rfl ?_
      refine z_if_ne 118 102 dX6_rain_99 (by decide) rfl (by omega) (fun h99 => ?_) (fun h99 => ?_)
      · have g5 := fun e => h99 (zcm0.mpr e)
        refine z_iinc8 121 dX6_rain_118 (Nat.le_of_ble_eq_true rfl) rfl rfl ?_
        refine z_goto 57 dX6_rain_121 (by decide) ?_
        first | (rw [rdi_pp g2 g5] at hv; exact lp_X6_rain h hK hw m (i + 1) _ _ (by omega) (by omega) (by omega) hv) | (rw [rdi_pn g2 g5] at hv; exact lp_X6_rain h hK hw m (i + 1) _ _ (by omega) (by omega) (by omega) hv) | (rw [rdi_np g2 g5] at hv; exact lp_X6_rain h hK hw m (i + 1) _ _ (by omega) (by omega) (by omega) hv) | (rw [rdi_nn g2 g5] at hv; exact lp_X6_rain h hK hw m (i + 1) _ _ (by omega) (by omega) (by omega) hv)
      · have g5 := zcm0.mp h99
        refine z_lload4 104 dX6_rain_102 rfl ?_
        refine z_ldc2 107 dX6_rain_104 kl_RX6_224 rfl ?_
        refine z_ldiv 108 dX6_rain_107 (by omega) (by omega) rfl ?_
        refine z_lstore4 110 dX6_rain_108 (Nat.le_of_ble_eq_true rfl) rfl rfl ?_
        refine z_lload6 112 dX6_rain_110 rfl ?_
        refine z_ldc2 115 dX6_rain_112 kl_RX6_224 rfl ?_
        refine z_ldiv 116 dX6_rain_115 (by omega) (by omega) rfl ?_
        refine z_lstore6 118 dX6_rain_116 (Nat.le_of_ble_eq_true rfl) rfl rfl ?_
        refine z_iinc8 121 dX6_rain_118 (Nat.le_of_ble_eq_true rfl) rfl rfl ?_
        refine z_goto 57 dX6_rain_121 (by decide) ?_
        first | (rw [rdi_pp g2 g5] at hv; exact lp_X6_rain h hK hw m (i + 1) _ _ (by omega) (by omega) (by omega) hv) | (rw [rdi_pn g2 g5] at hv; exact lp_X6_rain h hK hw m (i + 1) _ _ (by omega) (by omega) (by omega) hv) | (rw [rdi_np g2 g5] at hv; exact lp_X6_rain h hK hw m (i + 1) _ _ (by omega) (by omega) (by omega) hv) | (rw [rdi_nn g2 g5] at hv; exact lp_X6_rain h hK hw m (i + 1) _ _ (by omega) (by omega) (by omega) hv)
theorem op_X6_rain {r c w : Int} (h : zCA sh R P I L A) (hr : -2147483648 ≤ r ∧ r ≤ 2147483647) (hc : -2147483648 ≤ c ∧ c ≤ 2147483647) (hw : -2147483648 ≤ w ∧ w ≤ 2147483647) : zE X mX6_rain 0 0 0 [zR 0, zI r, zI c, zI w, zX, zX, zX, zX, zX] [] sh I L R (zOp sh I L R (zL (oRain A r c w)) A) := by
  obtain ⟨hC, hNow, hTri, hHis, hKep, hTap, hShe, hOrd⟩ := id h
  obtain ⟨⟨c0, c1, c2, c3, c4, c5, c6, c7, c8, c9, c10, c11⟩, ⟨n1, n8, n73⟩, ⟨hh, hpm⟩, kh, tp, ⟨shs, shk⟩, spd, o1, o2, ra⟩ := id hC
  obtain ⟨⟨s0, s1, s2, s3, s4, s5, s6⟩, r0, r1, r2, r3, r4, r5⟩ := id n1
  have n80 := n8.1.1
  have hh0 := hh.1.1
  have e6 := hNow.2.1.1
  have hn5 := hNow.1.1.1
  have ra0 := ra.1
  have z1 := zwi_r r 0 (zvw I 1 0 6 - 1)
  have z2 := zwi_r c 0 10
  have z3 := zwi_r w 0 1
  refine z_aload0 1 dX6_rain_0 rfl ?_
  refine z_getR 4 dX6_rain_1 fl_RX6_10 (by assumption) (by assumption) rfl ?_
  refine z_iload1 5 dX6_rain_4 rfl ?_
  refine z_xV1 8 dX6_rain_5 lk_X6_rain_82 (cti_hasRider n1 hNow.1.1 hr) rfl (Nat.le_of_ble_eq_true rfl) (Nat.le_of_ble_eq_true rfl) (by assumption) rfl rfl ?_
  refine z_if_eq 30 11 dX6_rain_8 (by decide) rfl (by omega) (fun h8 => ?_) (fun h8 => ?_)
  · have g8 := zwi_eq0 h8
    refine z_ldc2 33 dX6_rain_30 kl_RX6_214 rfl ?_
    exact z_lreturn dX6_rain_33 rfl (zOp_sameL h (fun _ _ => rfl) (by unfold oRain; rw [if_neg (by omega)]))
  · have g8 := zwi_ne0 h8
    refine z_iload2 12 dX6_rain_11 rfl ?_
    refine z_iconst 13 dX6_rain_12 rfl ?_
    refine z_bipush 15 dX6_rain_13 (by decide) rfl ?_
    refine z_xS3 18 dX6_rain_15 lk_X6_rain_71 (ct_X6_within (by omega) (by omega) (by omega)) rfl (Nat.le_of_ble_eq_true rfl) (Nat.le_of_ble_eq_true rfl) rfl ?_
    refine z_if_eq 30 21 dX6_rain_18 (by decide) rfl (by omega) (fun h18 => ?_) (fun h18 => ?_)
    · have g18 := zwi_eq0 h18
      refine z_ldc2 33 dX6_rain_30 kl_RX6_214 rfl ?_
      exact z_lreturn dX6_rain_33 rfl (zOp_sameL h (fun _ _ => rfl) (by unfold oRain; rw [if_neg (by omega)]))
    · have g18 := zwi_ne0 h18
      refine z_iload3 22 dX6_rain_21 rfl ?_
      refine z_iconst 23 dX6_rain_22 rfl ?_
      refine z_iconst 24 dX6_rain_23 rfl ?_
      refine z_xS3 27 dX6_rain_24 lk_X6_rain_71 (ct_X6_within (by omega) (by omega) (by omega)) rfl (Nat.le_of_ble_eq_true rfl) (Nat.le_of_ble_eq_true rfl) rfl ?_
      refine z_if_ne 34 30 dX6_rain_27 (by decide) rfl (by omega) (fun h27 => ?_) (fun h27 => ?_)
      · have g27 := zwi_ne0 h27
        obtain ⟨q, rfl⟩ : ∃ q : Nat, r = (q : Int) := ⟨r.toNat, by omega⟩
        have kw := ct_X2_waysThrough (X := X) (I := I) (L := L) (R := R) (W := L 147) (B := L 148) (S := zvw I 1) (q := 146) (r := q) (c := c) ra n1 hNow.1.1 (by omega) g18 (rit_b _ _ _ _ g18)
        rw [zsl_self, show zln L 146 (L 147) (L 148) = L from zln_self L 146, (rit_end (zvw I 1) q (L 147) (L 148) g18).1] at kw
        have hb := (rit_end (zvw I 1) q (L 147) (L 148) g18).2
        rw [rfn_c hNow.2 (by omega) c 10 0 2 (by omega)] at kw hb
        have eo : oRain A q c w = (if w = 0 then (rdi 10 (rfn A.1 q c 10 0 2) 10000000000).1 else (rdi 10 (rfn A.1 q c 10 0 2) 10000000000).2) := by
          unfold oRain
          rw [if_pos (by omega), Int.toNat_natCast]
          generalize rfn A.1 q c 10 0 2 = v at hb ⊢
          obtain ⟨n, rfl⟩ : ∃ n : Nat, v = (n : Int) := ⟨v.toNat, by omega⟩
          rw [show (10000000000 : Int) = ((10000000000 : Nat) : Int) from rfl, rdi_n, rdl_e, Int.toNat_natCast]
        rw [eo]
        refine z_aload0 35 dX6_rain_34 rfl ?_
        refine z_getR 38 dX6_rain_35 fl_RX6_66 (by assumption) (by assumption) rfl ?_
        refine z_aload0 39 dX6_rain_38 rfl ?_
        refine z_getR 42 dX6_rain_39 fl_RX6_10 (by assumption) (by assumption) rfl ?_
        refine z_iload1 43 dX6_rain_42 rfl ?_
        refine z_iload2 44 dX6_rain_43 rfl ?_
        refine z_xV3 47 dX6_rain_44 lk_X6_rain_216 (kw) rfl (Nat.le_of_ble_eq_true rfl) (Nat.le_of_ble_eq_true rfl) (by assumption) rfl rfl ?_
        refine z_lstore4 49 dX6_rain_47 (Nat.le_of_ble_eq_true rfl) rfl rfl ?_
        refine z_ldc2 52 dX6_rain_49 kl_RX6_220 rfl ?_
        refine z_lstore6 54 dX6_rain_52 (Nat.le_of_ble_eq_true rfl) rfl rfl ?_
        refine z_iconst 55 dX6_rain_54 rfl ?_
        refine z_istore8 57 dX6_rain_55 (Nat.le_of_ble_eq_true rfl) rfl rfl ?_
        exact lp_X6_rain h (fun a ha => by unfold zln; rw [zrow_oR _ _ (by omega), zrow_oR _ _ (by omega)]) g27 10 0 _ _ rfl hb (by omega) rfl
      · have g27 := zwi_eq0 h27
        refine z_ldc2 33 dX6_rain_30 kl_RX6_214 rfl ?_
        exact z_lreturn dX6_rain_33 rfl (zOp_sameL h (fun _ _ => rfl) (by unfold oRain; rw [if_neg (by omega)]))
end TOPR
