/-! ===== odds: what they are without rain and in rain for sure ===== -/
theorem rfn_b {S : zT} {r : Nat} {c : Int} (hc : 0 ≤ c ∧ c ≤ 10) : ∀ (m t v : Nat), 0 ≤ rfn S r c m t v ∧ rfn S r c m t v ≤ ((10 ^ m : Nat) : Int)
  | 0, t, v => by
    show 0 ≤ (1 : Int) ∧ (1 : Int) ≤ ((10 ^ 0 : Nat) : Int)
    decide
  | m + 1, t, v => by
    have hh : ∀ x, 0 ≤ rhat (rfn S r c m (t + 1)) x ∧ rhat (rfn S r c m (t + 1)) x ≤ ((10 ^ m : Nat) : Int) := fun x => by
      have hN : (0 : Int) ≤ ((10 ^ m : Nat) : Int) := Int.natCast_nonneg _
      unfold rhat
      split
      · exact rfn_b hc m (t + 1) x.toNat
      · exact ⟨Int.le_refl _, hN⟩
    show 0 ≤ (10 - c) * rhat (rfn S r c m (t + 1)) _ + c * rhat (rfn S r c m (t + 1)) _ ∧ (10 - c) * rhat (rfn S r c m (t + 1)) _ + c * rhat (rfn S r c m (t + 1)) _ ≤ _
    have h1 := hh (sbh S t r (v : Int) (S 1 t))
    have h2 := hh (sbh S t r (v : Int) (rwet (S 1 t)))
    have e : ((10 ^ (m + 1) : Nat) : Int) = 10 * ((10 ^ m : Nat) : Int) := by rw [Nat.pow_succ, Nat.mul_comm]; exact Int.natCast_mul 10 _
    rw [e]
    generalize ((10 ^ m : Nat) : Int) = N at *
    generalize rhat (rfn S r c m (t + 1)) (sbh S t r (v : Int) (S 1 t)) = a at *
    generalize rhat (rfn S r c m (t + 1)) (sbh S t r (v : Int) (rwet (S 1 t))) = b at *
    have p1 := Int.mul_nonneg (show 0 ≤ 10 - c by omega) h1.1
    have p2 := Int.mul_nonneg hc.1 h2.1
    have p3 := Int.mul_le_mul_of_nonneg_left h1.2 (show 0 ≤ 10 - c by omega)
    have p4 := Int.mul_le_mul_of_nonneg_left h2.2 hc.1
    have p5 : (10 - c) * N + c * N = 10 * N := by rw [← Int.add_mul]; congr 1; omega
    omega
/-- where it is sure how rough each turn is: all ways, or none -/
theorem rfn_sure {S T : zT} {r : Nat} {c : Int} (hb : ∀ t v g, t < 10 → sbh T t r v g = sbh S t r v g) (h5 : T 5 r = S 5 r) (hc : (c = 0 ∧ ∀ t, t < 10 → T 1 t = S 1 t) ∨ (c = 10 ∧ ∀ t, t < 10 → T 1 t = rwet (S 1 t))) : ∀ (m t v : Nat) (w : Nat → Int), t + m = 10 → rfn S r c m t v = if (sft T r m t (v : Int) w).1 < 8 then ((10 ^ m : Nat) : Int) else 0
  | 0, t, v, w, h => by
    show (1 : Int) = if ((v : Int) + T 5 r) % 8 < 8 then ((10 ^ 0 : Nat) : Int) else 0
    rw [if_pos (by omega)]
    rfl
  | m + 1, t, v, w, h => by
    have e : rfn S r c (m + 1) t v = 10 * rhat (rfn S r c m (t + 1)) (sbh T t r (v : Int) (T 1 t)) := by
      show (10 - c) * rhat (rfn S r c m (t + 1)) (sbh S t r (v : Int) (S 1 t)) + c * rhat (rfn S r c m (t + 1)) (sbh S t r (v : Int) (rwet (S 1 t))) = _
      rw [hb t _ _ (by omega)]
      rcases hc with ⟨rfl, h1⟩ | ⟨rfl, h1⟩
      · rw [h1 t (by omega), Int.zero_mul, Int.add_zero]
        rfl
      · rw [h1 t (by omega), show (10 : Int) - 10 = 0 by decide, Int.zero_mul, Int.zero_add]
    have hx := sbh_le T t r (v : Int) (T 1 t)
    have e10 : ((10 ^ (m + 1) : Nat) : Int) = 10 * ((10 ^ m : Nat) : Int) := by rw [Nat.pow_succ, Nat.mul_comm]; exact Int.natCast_mul 10 _
    rw [e]
    unfold sft
    generalize hxe : sbh T t r (v : Int) (T 1 t) = x at *
    by_cases h0 : 0 < x
    · rw [if_pos h0]
      unfold rhat
      rw [if_pos (by omega), rfn_sure hb h5 hc m (t + 1) x.toNat (fun j => if j = t then x else w j) (by omega), Int.toNat_of_nonneg (by omega), e10]
      split
      · rfl
      · rfl
    · rw [if_neg h0]
      unfold rhat
      rw [if_neg (by omega), if_neg (by show ¬ 10 + (t : Int) < 8; omega)]
      rfl
/-- all wet, the first t turns -/
def wetS (S : zT) : Nat → zT
  | 0 => S
  | t + 1 => zup (wetS S t) 1 t (rwet (S 1 t))
theorem wetS_o (S : zT) {a : Nat} (h : a ≠ 1) : ∀ t, wetS S t a = S a
  | 0 => rfl
  | t + 1 => by
    unfold wetS
    rw [zup_row _ _ h, wetS_o S h t]
theorem wetS_1 (S : zT) : ∀ (t u : Nat), wetS S t 1 u = if u < t then rwet (S 1 u) else S 1 u
  | 0, u => by rw [if_neg (by omega)]; rfl
  | t + 1, u => by
    unfold wetS
    by_cases h : u = t
    · subst h
      rw [zup_at, if_pos (by omega)]
    · rw [zup_ne _ _ (by omega), wetS_1 S t u]
      by_cases h2 : u < t
      · rw [if_pos h2, if_pos (by omega)]
      · rw [if_neg h2, if_neg (by omega)]
theorem rwet_r {d : Int} (h : 0 ≤ d ∧ d ≤ 9) : 0 ≤ rwet d ∧ rwet d ≤ 9 := by
  unfold rwet
  split <;> omega
theorem wetS_gd {S : zT} (hg : gd S) : ∀ t, t ≤ 10 → gd (wetS S t)
  | 0, _ => hg
  | t + 1, h => gd_row (wetS_gd hg t (by omega)) (Or.inl rfl) (rwet_r (hg.sr.2.1 t (by omega)))
theorem wetS_sbh (S : zT) (n t r : Nat) (v g : Int) : sbh (wetS S n) t r v g = sbh S t r v g := by
  unfold sbh sgn sgo sst
  rw [wetS_o S (show 6 ≠ 1 by decide), wetS_o S (show 0 ≠ 1 by decide), wetS_o S (show 2 ≠ 1 by decide), wetS_o S (show 3 ≠ 1 by decide), wetS_o S (show 4 ≠ 1 by decide)]
theorem gcd_1 {n N : Nat} (hN : 0 < N) (h : n = N ∨ n = 0) : N / Nat.gcd n N = 1 ∧ n / Nat.gcd n N = (if n = N then 1 else 0) := by
  rcases h with h | h
  · subst h
    rw [Nat.gcd_self, if_pos rfl]
    exact ⟨Nat.div_self hN, Nat.div_self hN⟩
  · subst h
    rw [Nat.gcd_zero_left, if_neg (by omega)]
    exact ⟨Nat.div_self hN, Nat.zero_div _⟩
theorem gcd_2 {n N : Nat} (hN : 0 < N) (h : n ≤ N) : 0 < N / Nat.gcd n N ∧ n / Nat.gcd n N ≤ N / Nat.gcd n N ∧ N / Nat.gcd n N ≤ N :=
  ⟨Nat.div_pos (Nat.gcd_le_right n hN) (Nat.gcd_pos_of_pos_right n hN), Nat.div_le_div_right h, Nat.div_le_self _ _⟩
theorem oRain_e {A : zA} {r : Nat} {c : Int} (hr : (r : Int) < A.1 0 6) (hc : 0 ≤ c ∧ c ≤ 10) : oRain A (r : Int) c 0 = (((rfn A.1 r c 10 0 2).toNat / Nat.gcd (rfn A.1 r c 10 0 2).toNat 10000000000 : Nat) : Int) ∧ oRain A (r : Int) c 1 = ((10000000000 / Nat.gcd (rfn A.1 r c 10 0 2).toNat 10000000000 : Nat) : Int) := by
  constructor
  · unfold oRain
    rw [if_pos (show (0 ≤ (r : Int) ∧ (r : Int) ≤ A.1 0 6 - 1) ∧ (0 ≤ c ∧ c ≤ 10) ∧ (0 ≤ (0 : Int) ∧ (0 : Int) ≤ 1) by omega), if_pos rfl, Int.toNat_natCast]
  · unfold oRain
    rw [if_pos (show (0 ≤ (r : Int) ∧ (r : Int) ≤ A.1 0 6 - 1) ∧ (0 ≤ c ∧ c ≤ 10) ∧ (0 ≤ (1 : Int) ∧ (1 : Int) ≤ 1) by omega), if_neg (show ¬ (1 : Int) = 0 by decide), Int.toNat_natCast]
theorem oRain_b {A : zA} {r : Nat} {c : Int} (hr : (r : Int) < A.1 0 6) (hc : 0 ≤ c ∧ c ≤ 10) : 0 ≤ oRain A (r : Int) c 0 ∧ 0 < oRain A (r : Int) c 1 ∧ oRain A (r : Int) c 0 ≤ oRain A (r : Int) c 1 ∧ oRain A (r : Int) c 1 ≤ 10000000000 := by
  have hb := rfn_b (S := A.1) (r := r) hc 10 0 2
  have h10 : ((10 ^ 10 : Nat) : Int) = 10000000000 := by decide
  rw [h10] at hb
  have hg := gcd_2 (n := (rfn A.1 r c 10 0 2).toNat) (N := 10000000000) (by decide) (by omega)
  obtain ⟨e1, e2⟩ := oRain_e hr hc
  rw [e1, e2]
  obtain ⟨g1, g2, g3⟩ := hg
  exact ⟨Int.natCast_nonneg _, Int.ofNat_lt.mpr g1, Int.ofNat_le.mpr g2, Int.ofNat_le.mpr g3⟩
theorem oRain_1 {A : zA} {r : Nat} {c : Int} {T : zT} (hr : (r : Int) < A.1 0 6) (hb : ∀ t v g, t < 10 → sbh T t r v g = sbh A.1 t r v g) (h5 : T 5 r = A.1 5 r) (hc : (c = 0 ∧ ∀ t, t < 10 → T 1 t = A.1 1 t) ∨ (c = 10 ∧ ∀ t, t < 10 → T 1 t = rwet (A.1 1 t))) : oRain A (r : Int) c 1 = 1 ∧ oRain A (r : Int) c 0 = if sfe T r < 8 then 1 else 0 := by
  have hs := rfn_sure hb h5 hc 10 0 2 (fun _ => -4) rfl
  have h10 : ((10 ^ 10 : Nat) : Int) = 10000000000 := by decide
  rw [h10, show (sft T r 10 0 ((2 : Nat) : Int) fun _ => -4).1 = sfe T r from rfl] at hs
  have c1 : 0 ≤ c ∧ c ≤ 10 := by omega
  obtain ⟨e1, e2⟩ := oRain_e (A := A) hr c1
  rw [e1, e2, hs]
  by_cases h8 : sfe T r < 8
  · rw [if_pos h8, if_pos h8]
    obtain ⟨g1, g2⟩ := gcd_1 (n := 10000000000) (N := 10000000000) (by decide) (Or.inl rfl)
    rw [show (10000000000 : Int).toNat = 10000000000 by decide, g1]
    exact ⟨rfl, rfl⟩
  · rw [if_neg h8, if_neg h8]
    obtain ⟨g1, g2⟩ := gcd_1 (n := 0) (N := 10000000000) (by decide) (Or.inr rfl)
    rw [show (0 : Int).toNat = 0 by decide, g1, Nat.zero_div]
    exact ⟨rfl, rfl⟩
section RAINED
variable {X : zXs} {sh : zH} {J0 K0 : zI2} {Z0 : zR2} {S : zT} {hh : List zT} {TS : List Int × (Nat → Int × (Int × (Nat → Int)))}
theorem tl_rained254 {c r : Nat} {sv : Int} {z8 z9 : zV} {B : List zT} {I L : zI2} {R : zR2} (hg : gd S) (hr : (r : Int) < S 0 6) (hsv : sv = if sfe (wetS S 10) r < 8 then 1 else 0) (h : pH sh J0 K0 Z0 I L R (wetS S 10, (B, (some (S, hh), TS)))) : zE X mL_rained 0 0 254 [zR 0, zS, zR 157, zI (c : Int), zI 1, zI (r : Int), zL sv, zX, z8, z9] [] sh I L R (zOp sh J0 K0 Z0 (zI 1) (pA S hh TS)) := by
  have s0 := h.sh0
  have n5 := hg.n5
  have hgw := wetS_gd hg 10 (by omega)
  have e0 : wetS S 10 0 = S 0 := wetS_o S (by decide) 10
  have hre := sfe_r (wetS S 10) r hgw.sr (by omega)
  by_cases h8 : sfe (wetS S 10) r < 8
  · rw [if_pos h8] at hsv
    subst hsv
    refine z_iload4 256 dL_rained_254 rfl ?_
    refine z_if_eq 302 259 dL_rained_256 (by decide) rfl (by omega) (fun hz => absurd hz ((by omega))) (fun h256 => ?_)
    refine z_aload0 260 dL_rained_259 rfl ?_
    refine z_iload5 262 dL_rained_260 rfl ?_
    refine z_pV1 265 dL_rained_262 lk_L_rained_130 (pc_ends h (by show wetS S 10 0 6 ≤ 5; rw [e0]; omega) (by show (r : Int) < wetS S 10 0 6; rw [e0]; exact hr)) rfl (Nat.le_of_ble_eq_true rfl) (Nat.le_of_ble_eq_true rfl) (by assumption) rfl rfl (fun r0 sh0 I0 L0 R0 hpq => ?_)
    obtain ⟨rfl, rfl, h⟩ := pO hpq
    show zE X mL_rained 0 0 265 _ [zI (sfe (wetS S 10) r)] sh _ _ _ _
    refine z_bipush 267 dL_rained_265 (by decide) rfl ?_
    refine z_icmp_ge 274 270 dL_rained_267 (by decide) rfl (by omega) (by omega) (fun hz => absurd hz (by omega)) (fun h267 => ?_)
    refine z_iconst 271 dL_rained_270 rfl ?_
    refine z_goto 275 dL_rained_271 (by decide) ?_
    refine z_lload6 277 dL_rained_275 rfl ?_
    refine z_lconst1 278 dL_rained_277 rfl ?_
    refine z_lcmpS 279 dL_rained_278 rfl ?_
    refine z_if_ne 286 282 dL_rained_279 (by decide) rfl (by omega) (fun hz => absurd hz (by omega)) (fun h279 => ?_)
    refine z_iconst 283 dL_rained_282 rfl ?_
    refine z_goto 287 dL_rained_283 (by decide) ?_
    refine z_icmp_ne 302 290 dL_rained_287 (by decide) rfl (by omega) (by omega) (fun hz => absurd hz ((by omega))) (fun h287 => ?_)
    refine z_aload0 291 dL_rained_290 rfl ?_
    refine z_pV0 294 dL_rained_291 lk_L_rained_120 (pc_restore h (q := (S, hh)) rfl) rfl (Nat.le_of_ble_eq_true rfl) (Nat.le_of_ble_eq_true rfl) (by assumption) rfl rfl (fun r0 sh0 I0 L0 R0 hpq => ?_)
    obtain ⟨rfl, rfl, h⟩ := pO hpq
    refine z_iconst 295 dL_rained_294 rfl ?_
    refine z_icmp_ne 302 298 dL_rained_295 (by decide) rfl (by omega) (by omega) (fun hz => absurd hz ((by omega))) (fun h295 => ?_)
    refine z_iconst 299 dL_rained_298 rfl ?_
    refine z_goto 303 dL_rained_299 (by decide) ?_
    exact z_zreturn dL_rained_303 rfl (by omega) (zOp_h h)
  · rw [if_neg h8] at hsv
    subst hsv
    have ec : zcmpL 0 1 = -1 := by decide
    refine z_iload4 256 dL_rained_254 rfl ?_
    refine z_if_eq 302 259 dL_rained_256 (by decide) rfl (by omega) (fun hz => absurd hz ((by omega))) (fun h256 => ?_)
    refine z_aload0 260 dL_rained_259 rfl ?_
    refine z_iload5 262 dL_rained_260 rfl ?_
    refine z_pV1 265 dL_rained_262 lk_L_rained_130 (pc_ends h (by show wetS S 10 0 6 ≤ 5; rw [e0]; omega) (by show (r : Int) < wetS S 10 0 6; rw [e0]; exact hr)) rfl (Nat.le_of_ble_eq_true rfl) (Nat.le_of_ble_eq_true rfl) (by assumption) rfl rfl (fun r0 sh0 I0 L0 R0 hpq => ?_)
    obtain ⟨rfl, rfl, h⟩ := pO hpq
    show zE X mL_rained 0 0 265 _ [zI (sfe (wetS S 10) r)] sh _ _ _ _
    refine z_bipush 267 dL_rained_265 (by decide) rfl ?_
    refine z_icmp_ge 274 270 dL_rained_267 (by decide) rfl (by omega) (by omega) (fun h267 => ?_) (fun hz => absurd hz (by omega))
    refine z_iconst 275 dL_rained_274 rfl ?_
    refine z_lload6 277 dL_rained_275 rfl ?_
    refine z_lconst1 278 dL_rained_277 rfl ?_
    refine z_lcmp 279 dL_rained_278 (by omega) (by omega) rfl ?_
    rw [ec]
    refine z_if_ne 286 282 dL_rained_279 (by decide) rfl (by omega) (fun h279 => ?_) (fun hz => absurd hz ((by omega)))
    refine z_iconst 287 dL_rained_286 rfl ?_
    refine z_icmp_ne 302 290 dL_rained_287 (by decide) rfl (by omega) (by omega) (fun hz => absurd hz ((by omega))) (fun h287 => ?_)
    refine z_aload0 291 dL_rained_290 rfl ?_
    refine z_pV0 294 dL_rained_291 lk_L_rained_120 (pc_restore h (q := (S, hh)) rfl) rfl (Nat.le_of_ble_eq_true rfl) (Nat.le_of_ble_eq_true rfl) (by assumption) rfl rfl (fun r0 sh0 I0 L0 R0 hpq => ?_)
    obtain ⟨rfl, rfl, h⟩ := pO hpq
    refine z_iconst 295 dL_rained_294 rfl ?_
    refine z_icmp_ne 302 298 dL_rained_295 (by decide) rfl (by omega) (by omega) (fun hz => absurd hz ((by omega))) (fun h295 => ?_)
    refine z_iconst 299 dL_rained_298 rfl ?_
    refine z_goto 303 dL_rained_299 (by decide) ?_
    exact z_zreturn dL_rained_303 rfl (by omega) (zOp_h h)
theorem lp_rained176 {c r : Nat} {sv : Int} (hg : gd S) (hr : (r : Int) < S 0 6) (hsv : sv = if sfe (wetS S 10) r < 8 then 1 else 0) : ∀ (m t : Nat) (z9 : zV) (B : List zT) (I L : zI2) (R : zR2), t + m = 10 → pH sh J0 K0 Z0 I L R (wetS S t, (B, (some (S, hh), TS))) → zE X mL_rained 0 0 176 [zR 0, zS, zR 157, zI (c : Int), zI 1, zI (r : Int), zL sv, zX, zI (t : Int), z9] [] sh I L R (zOp sh J0 K0 Z0 (zI 1) (pA S hh TS))
  | 0, t, z9, B, I, L, R, hm, h => by
    have ht : t = 10 := by omega
    subst ht
    refine z_iload8 178 dL_rained_176 rfl ?_
    refine z_bipush 180 dL_rained_178 (by decide) rfl ?_
    refine z_icmp_ge 254 183 dL_rained_180 (by decide) rfl (by omega) (by omega) (fun h180 => ?_) (fun hz => absurd hz (by omega))
    exact tl_rained254 hg hr hsv h
  | m + 1, t, z9, B, I, L, R, hm, h => by
    have s0 := h.sh0
    have n5 := hg.n5
    have g1 := hg.sr.2.1 t (by omega)
    have e1 : wetS S t 1 t = S 1 t := by rw [wetS_1, if_neg (by omega)]
    have ew : rwet (S 1 t) = if S 1 t + 2 < 9 then S 1 t + 2 else 9 := rfl
    have wr := rwet_r g1
    have kr := fun z9 B I L R => lp_rained176 (c := c) hg hr hsv m (t + 1) z9 B I L R (by omega)
    by_cases hwz : S 1 t = rwet (S 1 t)
    · have eS : wetS S (t + 1) = wetS S t := by
        show zup (wetS S t) 1 t (rwet (S 1 t)) = wetS S t
        rw [← hwz, ← e1, zup_self]
      rw [eS] at kr
      have h9 : S 1 t = 9 := by
        rw [ew] at hwz
        split at hwz <;> omega
      refine z_iload8 178 dL_rained_176 rfl ?_
      refine z_bipush 180 dL_rained_178 (by decide) rfl ?_
      refine z_icmp_ge 254 183 dL_rained_180 (by decide) rfl (by omega) (by omega) (fun hz => absurd hz (by omega)) (fun h180 => ?_)
      refine z_iload4 185 dL_rained_183 rfl ?_
      refine z_if_eq 254 188 dL_rained_185 (by decide) rfl (by omega) (fun hz => absurd hz ((by omega))) (fun h185 => ?_)
      refine z_aload0 189 dL_rained_188 rfl ?_
      refine z_iload8 191 dL_rained_189 rfl ?_
      refine z_iconst 192 dL_rained_191 rfl ?_
      refine z_pV2 195 dL_rained_192 lk_L_rained_66 (pc_at0 h (by omega)) rfl (Nat.le_of_ble_eq_true rfl) (Nat.le_of_ble_eq_true rfl) (by assumption) rfl rfl (fun r0 sh0 I0 L0 R0 hpq => ?_)
      obtain ⟨rfl, rfl, h⟩ := pO hpq
      rw [show (wetS S t, (B, (some (S, hh), TS))).1 1 t = S 1 t from e1]
      refine z_iconst 196 dL_rained_195 rfl ?_
      refine z_iadd 197 dL_rained_196 rfl ?_
      refine z_bipush 199 dL_rained_197 (by decide) rfl ?_
      refine z_icmp_le 207 202 dL_rained_199 (by decide) rfl (by omega) (by omega) (fun hz => absurd hz (by omega)) (fun h199 => ?_)
      refine z_bipush 204 dL_rained_202 (by decide) rfl ?_
      refine z_goto 216 dL_rained_204 (by decide) ?_
      refine z_istore9 218 dL_rained_216 (Nat.le_of_ble_eq_true rfl) rfl rfl ?_
      refine z_aload0 219 dL_rained_218 rfl ?_
      refine z_iload8 221 dL_rained_219 rfl ?_
      refine z_iconst 222 dL_rained_221 rfl ?_
      refine z_pV2 225 dL_rained_222 lk_L_rained_66 (pc_at0 h (by omega)) rfl (Nat.le_of_ble_eq_true rfl) (Nat.le_of_ble_eq_true rfl) (by assumption) rfl rfl (fun r0 sh0 I0 L0 R0 hpq => ?_)
      obtain ⟨rfl, rfl, h⟩ := pO hpq
      rw [show (wetS S t, (B, (some (S, hh), TS))).1 1 t = S 1 t from e1]
      refine z_iload9 227 dL_rained_225 rfl ?_
      refine z_icmp_eq 241 230 dL_rained_227 (by decide) rfl (by omega) (by omega) (fun h227 => ?_) (fun hz => absurd hz ((by omega)))
      refine z_iconst 242 dL_rained_241 rfl ?_
      refine z_goto 246 dL_rained_242 (by decide) ?_
      refine z_istore4 248 dL_rained_246 (Nat.le_of_ble_eq_true rfl) rfl rfl ?_
      refine z_iinc8 251 dL_rained_248 (Nat.le_of_ble_eq_true rfl) rfl rfl ?_
      refine z_goto 176 dL_rained_251 (by decide) ?_
      exact kr _ _ _ _ _ h
    · have ewx : oWax (wetS S t, (B, (some (S, hh), TS))) 1 (t : Int) (rwet (S 1 t)) = (S 1 t, (wetS S (t + 1), (oPush (wetS S t, (B, (some (S, hh), TS)))).2)) := by
        unfold oWax
        rw [if_pos (by omega), Int.toNat_natCast]
        show (if wetS S t 1 t = rwet (S 1 t) then _ else (wetS S t 1 t, (zup (wetS S t) 1 t (rwet (S 1 t)), _))) = _
        rw [e1, if_neg hwz]
        rfl
      obtain ⟨B2, hB2⟩ : ∃ B2, (oPush (wetS S t, (B, (some (S, hh), TS)))).2 = (B2, (some (S, hh), TS)) := ⟨_, rfl⟩
      rw [hB2] at ewx
      have hd : rwet (S 1 t) = if 9 < S 1 t + 2 then 9 else S 1 t + 2 := by
        rw [ew]
        split <;> split <;> omega
      by_cases h9 : 9 < S 1 t + 2
      · rw [if_pos h9] at hd
        rw [hd] at ewx hwz wr
        refine z_iload8 178 dL_rained_176 rfl ?_
        refine z_bipush 180 dL_rained_178 (by decide) rfl ?_
        refine z_icmp_ge 254 183 dL_rained_180 (by decide) rfl (by omega) (by omega) (fun hz => absurd hz (by omega)) (fun h180 => ?_)
        refine z_iload4 185 dL_rained_183 rfl ?_
        refine z_if_eq 254 188 dL_rained_185 (by decide) rfl (by omega) (fun hz => absurd hz ((by omega))) (fun h185 => ?_)
        refine z_aload0 189 dL_rained_188 rfl ?_
        refine z_iload8 191 dL_rained_189 rfl ?_
        refine z_iconst 192 dL_rained_191 rfl ?_
        refine z_pV2 195 dL_rained_192 lk_L_rained_66 (pc_at0 h (by omega)) rfl (Nat.le_of_ble_eq_true rfl) (Nat.le_of_ble_eq_true rfl) (by assumption) rfl rfl (fun r0 sh0 I0 L0 R0 hpq => ?_)
        obtain ⟨rfl, rfl, h⟩ := pO hpq
        rw [show (wetS S t, (B, (some (S, hh), TS))).1 1 t = S 1 t from e1]
        refine z_iconst 196 dL_rained_195 rfl ?_
        refine z_iadd 197 dL_rained_196 rfl ?_
        refine z_bipush 199 dL_rained_197 (by decide) rfl ?_
        refine z_icmp_le 207 202 dL_rained_199 (by decide) rfl (by omega) (by omega) (fun hz => absurd hz (by omega)) (fun h199 => ?_)
        refine z_bipush 204 dL_rained_202 (by decide) rfl ?_
        refine z_goto 216 dL_rained_204 (by decide) ?_
        refine z_istore9 218 dL_rained_216 (Nat.le_of_ble_eq_true rfl) rfl rfl ?_
        refine z_aload0 219 dL_rained_218 rfl ?_
        refine z_iload8 221 dL_rained_219 rfl ?_
        refine z_iconst 222 dL_rained_221 rfl ?_
        refine z_pV2 225 dL_rained_222 lk_L_rained_66 (pc_at0 h (by omega)) rfl (Nat.le_of_ble_eq_true rfl) (Nat.le_of_ble_eq_true rfl) (by assumption) rfl rfl (fun r0 sh0 I0 L0 R0 hpq => ?_)
        obtain ⟨rfl, rfl, h⟩ := pO hpq
        rw [show (wetS S t, (B, (some (S, hh), TS))).1 1 t = S 1 t from e1]
        refine z_iload9 227 dL_rained_225 rfl ?_
        refine z_icmp_eq 241 230 dL_rained_227 (by decide) rfl (by omega) (by omega) (fun hz => absurd hz (hwz)) (fun h227 => ?_)
        refine z_aload0 231 dL_rained_230 rfl ?_
        refine z_iload8 233 dL_rained_231 rfl ?_
        refine z_iload9 235 dL_rained_233 rfl ?_
        refine z_pV2 238 dL_rained_235 lk_L_rained_52 (pc_wax h (by omega) (by omega) ewx) rfl (Nat.le_of_ble_eq_true rfl) (Nat.le_of_ble_eq_true rfl) (by assumption) rfl rfl (fun r0 sh0 I0 L0 R0 hpq => ?_)
        obtain ⟨rfl, rfl, h⟩ := pO hpq
        refine z_if_lt 245 241 dL_rained_238 (by decide) rfl (by omega) (fun hz => absurd hz (by omega)) (fun h238 => ?_)
        refine z_iconst 242 dL_rained_241 rfl ?_
        refine z_goto 246 dL_rained_242 (by decide) ?_
        refine z_istore4 248 dL_rained_246 (Nat.le_of_ble_eq_true rfl) rfl rfl ?_
        refine z_iinc8 251 dL_rained_248 (Nat.le_of_ble_eq_true rfl) rfl rfl ?_
        refine z_goto 176 dL_rained_251 (by decide) ?_
        exact kr _ _ _ _ _ h
      · rw [if_neg h9] at hd
        rw [hd] at ewx hwz wr
        refine z_iload8 178 dL_rained_176 rfl ?_
        refine z_bipush 180 dL_rained_178 (by decide) rfl ?_
        refine z_icmp_ge 254 183 dL_rained_180 (by decide) rfl (by omega) (by omega) (fun hz => absurd hz (by omega)) (fun h180 => ?_)
        refine z_iload4 185 dL_rained_183 rfl ?_
        refine z_if_eq 254 188 dL_rained_185 (by decide) rfl (by omega) (fun hz => absurd hz ((by omega))) (fun h185 => ?_)
        refine z_aload0 189 dL_rained_188 rfl ?_
        refine z_iload8 191 dL_rained_189 rfl ?_
        refine z_iconst 192 dL_rained_191 rfl ?_
        refine z_pV2 195 dL_rained_192 lk_L_rained_66 (pc_at0 h (by omega)) rfl (Nat.le_of_ble_eq_true rfl) (Nat.le_of_ble_eq_true rfl) (by assumption) rfl rfl (fun r0 sh0 I0 L0 R0 hpq => ?_)
        obtain ⟨rfl, rfl, h⟩ := pO hpq
        rw [show (wetS S t, (B, (some (S, hh), TS))).1 1 t = S 1 t from e1]
        refine z_iconst 196 dL_rained_195 rfl ?_
        refine z_iadd 197 dL_rained_196 rfl ?_
        refine z_bipush 199 dL_rained_197 (by decide) rfl ?_
        refine z_icmp_le 207 202 dL_rained_199 (by decide) rfl (by omega) (by omega) (fun h199 => ?_) (fun hz => absurd hz (by omega))
        refine z_aload0 208 dL_rained_207 rfl ?_
        refine z_iload8 210 dL_rained_208 rfl ?_
        refine z_iconst 211 dL_rained_210 rfl ?_
        refine z_pV2 214 dL_rained_211 lk_L_rained_66 (pc_at0 h (by omega)) rfl (Nat.le_of_ble_eq_true rfl) (Nat.le_of_ble_eq_true rfl) (by assumption) rfl rfl (fun r0 sh0 I0 L0 R0 hpq => ?_)
        obtain ⟨rfl, rfl, h⟩ := pO hpq
        rw [show (wetS S t, (B, (some (S, hh), TS))).1 1 t = S 1 t from e1]
        refine z_iconst 215 dL_rained_214 rfl ?_
        refine z_iadd 216 dL_rained_215 rfl ?_
        refine z_istore9 218 dL_rained_216 (Nat.le_of_ble_eq_true rfl) rfl rfl ?_
        refine z_aload0 219 dL_rained_218 rfl ?_
        refine z_iload8 221 dL_rained_219 rfl ?_
        refine z_iconst 222 dL_rained_221 rfl ?_
        refine z_pV2 225 dL_rained_222 lk_L_rained_66 (pc_at0 h (by omega)) rfl (Nat.le_of_ble_eq_true rfl) (Nat.le_of_ble_eq_true rfl) (by assumption) rfl rfl (fun r0 sh0 I0 L0 R0 hpq => ?_)
        obtain ⟨rfl, rfl, h⟩ := pO hpq
        rw [show (wetS S t, (B, (some (S, hh), TS))).1 1 t = S 1 t from e1]
        refine z_iload9 227 dL_rained_225 rfl ?_
        refine z_icmp_eq 241 230 dL_rained_227 (by decide) rfl (by omega) (by omega) (fun hz => absurd hz (hwz)) (fun h227 => ?_)
        refine z_aload0 231 dL_rained_230 rfl ?_
        refine z_iload8 233 dL_rained_231 rfl ?_
        refine z_iload9 235 dL_rained_233 rfl ?_
        refine z_pV2 238 dL_rained_235 lk_L_rained_52 (pc_wax h (by omega) (by omega) ewx) rfl (Nat.le_of_ble_eq_true rfl) (Nat.le_of_ble_eq_true rfl) (by assumption) rfl rfl (fun r0 sh0 I0 L0 R0 hpq => ?_)
        obtain ⟨rfl, rfl, h⟩ := pO hpq
        refine z_if_lt 245 241 dL_rained_238 (by decide) rfl (by omega) (fun hz => absurd hz (by omega)) (fun h238 => ?_)
        refine z_iconst 242 dL_rained_241 rfl ?_
        refine z_goto 246 dL_rained_242 (by decide) ?_
        refine z_istore4 248 dL_rained_246 (Nat.le_of_ble_eq_true rfl) rfl rfl ?_
        refine z_iinc8 251 dL_rained_248 (Nat.le_of_ble_eq_true rfl) rfl rfl ?_
        refine z_goto 176 dL_rained_251 (by decide) ?_
        exact kr _ _ _ _ _ h
theorem lp_rained16 {c : Nat} (hX : X.1 ≤ 260) (hj : ∀ j, -2147483648 ≤ X.2 j ∧ X.2 j ≤ 2147483647) (hs : sh[157]? = some (20, 43)) (hw : J0 157 0 = S 0 6) (hg : gd S) (hc : c ≤ 10) : ∀ (m r : Nat) (z6 z7 z8 z9 : zV) (I L : zI2) (R : zR2), r + m = (S 0 6).toNat → pH sh J0 K0 Z0 I L R (pA S hh TS) → zE X mL_rained 0 0 16 [zR 0, zS, zR 157, zI (c : Int), zI 1, zI (r : Int), z6, z7, z8, z9] [] sh I L R (zOp sh J0 K0 Z0 (zI 1) (pA S hh TS))
  | 0, r, z6, z7, z8, z9, I, L, R, hm, h => by
    have s0 := h.sh0
    have n5 := hg.n5
    have hp := pcl_r X 14
    obtain ⟨pn, hpn⟩ : ∃ pn : Nat, pcl X 14 = (pn : Int) := ⟨(pcl X 14).toNat, by omega⟩
    have e4 : zshr (pn : Int) 4 = ((pn / 16 : Nat) : Int) := by
      rw [show (4 : Int) = ((4 : Nat) : Int) from rfl, zb_shr (by omega) (by omega)]
    have hm0 := Int.emod_nonneg ((pn / 16 : Nat) : Int) (show S 0 6 ≠ 0 by omega)
    have hm1 := Int.emod_lt_of_pos ((pn / 16 : Nat) : Int) (show 0 < S 0 6 by omega)
    obtain ⟨r2, hrn⟩ : ∃ r2 : Nat, ((pn / 16 : Nat) : Int) % S 0 6 = (r2 : Int) := ⟨(((pn / 16 : Nat) : Int) % S 0 6).toNat, by omega⟩
    have hr2 : (r2 : Int) < S 0 6 := by omega
    have er := (oRain_1 (A := pA S hh TS) (r := r2) (c := 10) (T := wetS S 10) hr2 (fun t v g _ => wetS_sbh S 10 t r2 v g) (by rw [wetS_o S (by decide)]) (Or.inr ⟨rfl, fun t ht => by rw [wetS_1, if_pos ht]⟩)).2
    have kt := fun z9 => lp_rained176 (X := X) (sh := sh) (J0 := J0) (K0 := K0) (Z0 := Z0) (hh := hh) (TS := TS) (c := c) (r := r2) hg hr2 rfl 10 0 z9 hh
    refine z_iload5 18 dL_rained_16 rfl ?_
    refine z_aload2 19 dL_rained_18 rfl ?_
    refine z_iconst 20 dL_rained_19 rfl ?_
    refine z_ialdx 21 (0) dL_rained_20 (by assumption) (by omega) (by omega) ((congrFun (h.2 157 (by decide)).1 0).trans hw) rfl ?_
    refine z_icmp_ge 139 24 dL_rained_21 (by decide) rfl (by omega) (by omega) (fun h21 => ?_) (fun hz => absurd hz (by omega))
    refine z_aloadS1 140 dL_rained_139 rfl ?_
    refine z_bipush 142 dL_rained_140 (by decide) rfl ?_
    refine z_xS2 145 dL_rained_142 lk_L_rained_15 (ct_L_cell (i := 14) hX hj (by omega)) rfl (Nat.le_of_ble_eq_true rfl) (Nat.le_of_ble_eq_true rfl) rfl ?_
    rw [hpn]
    refine z_iconst 146 dL_rained_145 rfl ?_
    refine z_ishr 147 dL_rained_146 rfl ?_
    rw [e4]
    refine z_aload2 148 dL_rained_147 rfl ?_
    refine z_iconst 149 dL_rained_148 rfl ?_
    refine z_ialdx 150 (0) dL_rained_149 (by assumption) (by omega) (by omega) ((congrFun (h.2 157 (by decide)).1 0).trans hw) rfl ?_
    refine z_irem 151 dL_rained_150 (by omega) (by omega) rfl ?_
    rw [hrn]
    refine z_istore5 153 dL_rained_151 (Nat.le_of_ble_eq_true rfl) rfl rfl ?_
    refine z_iload4 155 dL_rained_153 rfl ?_
    refine z_if_eq 170 158 dL_rained_155 (by decide) rfl (by omega) (fun hz => absurd hz ((by omega))) (fun h155 => ?_)
    refine z_aload0 159 dL_rained_158 rfl ?_
    refine z_iload5 161 dL_rained_159 rfl ?_
    refine z_bipush 163 dL_rained_161 (by decide) rfl ?_
    refine z_iconst 164 dL_rained_163 rfl ?_
    refine z_pV3 167 dL_rained_164 lk_L_rained_165 (pc_rain h (by omega) (by omega) (Or.inl rfl)) rfl (Nat.le_of_ble_eq_true rfl) (Nat.le_of_ble_eq_true rfl) (by assumption) rfl rfl (fun r0 sh0 I0 L0 R0 hpq => ?_)
    obtain ⟨rfl, rfl, h⟩ := pO hpq
    rw [er]
    refine z_goto 171 dL_rained_167 (by decide) ?_
    refine z_lstore6 173 dL_rained_171 (Nat.le_of_ble_eq_true rfl) rfl rfl ?_
    refine z_iconst 174 dL_rained_173 rfl ?_
    refine z_istore8 176 dL_rained_174 (Nat.le_of_ble_eq_true rfl) rfl rfl ?_
    exact kt _ _ _ _ rfl h
  | m + 1, r, z6, z7, z8, z9, I, L, R, hm, h => by
    have s0 := h.sh0
    have n5 := hg.n5
    have hr : (r : Int) < S 0 6 := by omega
    have hre := sfe_r S r hg.sr (by omega)
    obtain ⟨b1, b2, b3, b4⟩ := oRain_b (A := pA S hh TS) (r := r) (c := (c : Int)) hr (by omega)
    obtain ⟨d1, d0⟩ := oRain_1 (A := pA S hh TS) (r := r) (c := 0) (T := S) hr (fun _ _ _ _ => rfl) rfl (Or.inl ⟨rfl, fun _ _ => rfl⟩)
    have w1 := (oRain_1 (A := pA S hh TS) (r := r) (c := 10) (T := wetS S 10) hr (fun t v g _ => wetS_sbh S 10 t r v g) (by rw [wetS_o S (by decide)]) (Or.inr ⟨rfl, fun t ht => by rw [wetS_1, if_pos ht]⟩)).1
    obtain ⟨u, eu⟩ : ∃ u, oRain (pA S hh TS) (r : Int) (c : Int) 0 = u := ⟨_, rfl⟩
    obtain ⟨v, ev⟩ : ∃ v, oRain (pA S hh TS) (r : Int) (c : Int) 1 = v := ⟨_, rfl⟩
    rw [eu] at b1 b3
    rw [ev] at b2 b3 b4
    have z1 : 0 ≤ zcmpL u 0 ∧ zcmpL u 0 ≤ 1 := by unfold zcmpL; (repeat' split) <;> omega
    have z2 : zcmpL v 0 = 1 := by unfold zcmpL; rw [if_pos b2]
    have z3 : -1 ≤ zcmpL u v ∧ zcmpL u v ≤ 0 := by unfold zcmpL; (repeat' split) <;> omega
    have kr := fun z6 z7 z8 z9 I L R => lp_rained16 hX hj hs hw hg hc m (r + 1) z6 z7 z8 z9 I L R (by omega)
    by_cases h8 : sfe S r < 8
    · rw [if_pos h8] at d0
      refine z_iload5 18 dL_rained_16 rfl ?_
      refine z_aload2 19 dL_rained_18 rfl ?_
      refine z_iconst 20 dL_rained_19 rfl ?_
      refine z_ialdx 21 (0) dL_rained_20 (by assumption) (by omega) (by omega) ((congrFun (h.2 157 (by decide)).1 0).trans hw) rfl ?_
      refine z_icmp_ge 139 24 dL_rained_21 (by decide) rfl (by omega) (by omega) (fun hz => absurd hz (by omega)) (fun h21 => ?_)
      refine z_iload4 26 dL_rained_24 rfl ?_
      refine z_if_eq 139 29 dL_rained_26 (by decide) rfl (by omega) (fun hz => absurd hz ((by omega))) (fun h26 => ?_)
      refine z_aload0 30 dL_rained_29 rfl ?_
      refine z_iload5 32 dL_rained_30 rfl ?_
      refine z_iload3 33 dL_rained_32 rfl ?_
      refine z_iconst 34 dL_rained_33 rfl ?_
      refine z_pV3 37 dL_rained_34 lk_L_rained_165 (pc_rain h (by omega) (by omega) (Or.inl rfl)) rfl (Nat.le_of_ble_eq_true rfl) (Nat.le_of_ble_eq_true rfl) (by assumption) rfl rfl (fun r0 sh0 I0 L0 R0 hpq => ?_)
      obtain ⟨rfl, rfl, h⟩ := pO hpq
      rw [eu]
      refine z_lstore6 39 dL_rained_37 (Nat.le_of_ble_eq_true rfl) rfl rfl ?_
      refine z_aload0 40 dL_rained_39 rfl ?_
      refine z_iload5 42 dL_rained_40 rfl ?_
      refine z_iload3 43 dL_rained_42 rfl ?_
      refine z_iconst 44 dL_rained_43 rfl ?_
      refine z_pV3 47 dL_rained_44 lk_L_rained_165 (pc_rain h (by omega) (by omega) (Or.inr rfl)) rfl (Nat.le_of_ble_eq_true rfl) (Nat.le_of_ble_eq_true rfl) (by assumption) rfl rfl (fun r0 sh0 I0 L0 R0 hpq => ?_)
      obtain ⟨rfl, rfl, h⟩ := pO hpq
      rw [ev]
      refine z_lstore8 49 dL_rained_47 (Nat.le_of_ble_eq_true rfl) rfl rfl ?_
      refine z_lload6 51 dL_rained_49 rfl ?_
      refine z_lconst0 52 dL_rained_51 rfl ?_
      refine z_lcmp 53 dL_rained_52 (by omega) (by omega) rfl ?_
      refine z_if_lt 130 56 dL_rained_53 (by decide) rfl (by omega) (fun hz => absurd hz (by omega)) (fun h53 => ?_)
      refine z_lload8 58 dL_rained_56 rfl ?_
      refine z_lconst0 59 dL_rained_58 rfl ?_
      refine z_lcmp 60 dL_rained_59 (by omega) (by omega) rfl ?_
      refine z_if_le 130 63 dL_rained_60 (by decide) rfl (by omega) (fun hz => absurd hz (by omega)) (fun h60 => ?_)
      refine z_lload6 65 dL_rained_63 rfl ?_
      refine z_lload8 67 dL_rained_65 rfl ?_
      refine z_lcmp 68 dL_rained_67 (by omega) (by omega) rfl ?_
      refine z_if_gt 130 71 dL_rained_68 (by decide) rfl (by omega) (fun hz => absurd hz (by omega)) (fun h68 => ?_)
      refine z_aload0 72 dL_rained_71 rfl ?_
      refine z_iload5 74 dL_rained_72 rfl ?_
      refine z_iconst 75 dL_rained_74 rfl ?_
      refine z_iconst 76 dL_rained_75 rfl ?_
      refine z_pV3 79 dL_rained_76 lk_L_rained_165 (pc_rain h (by omega) (by omega) (Or.inl rfl)) rfl (Nat.le_of_ble_eq_true rfl) (Nat.le_of_ble_eq_true rfl) (by assumption) rfl rfl (fun r0 sh0 I0 L0 R0 hpq => ?_)
      obtain ⟨rfl, rfl, h⟩ := pO hpq
      rw [d0]
      refine z_aload0 80 dL_rained_79 rfl ?_
      refine z_iload5 82 dL_rained_80 rfl ?_
      refine z_pV1 85 dL_rained_82 lk_L_rained_130 (pc_ends h n5.2 hr) rfl (Nat.le_of_ble_eq_true rfl) (Nat.le_of_ble_eq_true rfl) (by assumption) rfl rfl (fun r0 sh0 I0 L0 R0 hpq => ?_)
      obtain ⟨rfl, rfl, h⟩ := pO hpq
      show zE X mL_rained 0 0 85 _ [zI (sfe S r), zL 1] sh _ _ _ _
      refine z_bipush 87 dL_rained_85 (by decide) rfl ?_
      refine z_icmp_ge 94 90 dL_rained_87 (by decide) rfl (by omega) (by omega) (fun hz => absurd hz (by omega)) (fun h87 => ?_)
      refine z_lconst1 91 dL_rained_90 rfl ?_
      refine z_goto 95 dL_rained_91 (by decide) ?_
      refine z_lcmpS 96 dL_rained_95 rfl ?_
      refine z_if_ne 130 99 dL_rained_96 (by decide) rfl (by omega) (fun hz => absurd hz (by omega)) (fun h96 => ?_)
      refine z_aload0 100 dL_rained_99 rfl ?_
      refine z_iload5 102 dL_rained_100 rfl ?_
      refine z_iconst 103 dL_rained_102 rfl ?_
      refine z_iconst 104 dL_rained_103 rfl ?_
      refine z_pV3 107 dL_rained_104 lk_L_rained_165 (pc_rain h (by omega) (by omega) (Or.inr rfl)) rfl (Nat.le_of_ble_eq_true rfl) (Nat.le_of_ble_eq_true rfl) (by assumption) rfl rfl (fun r0 sh0 I0 L0 R0 hpq => ?_)
      obtain ⟨rfl, rfl, h⟩ := pO hpq
      rw [d1]
      refine z_lconst1 108 dL_rained_107 rfl ?_
      refine z_lcmpS 109 dL_rained_108 rfl ?_
      refine z_if_ne 130 112 dL_rained_109 (by decide) rfl (by omega) (fun hz => absurd hz (by omega)) (fun h109 => ?_)
      refine z_aload0 113 dL_rained_112 rfl ?_
      refine z_iload5 115 dL_rained_113 rfl ?_
      refine z_bipush 117 dL_rained_115 (by decide) rfl ?_
      refine z_iconst 118 dL_rained_117 rfl ?_
      refine z_pV3 121 dL_rained_118 lk_L_rained_165 (pc_rain h (by omega) (by omega) (Or.inr rfl)) rfl (Nat.le_of_ble_eq_true rfl) (Nat.le_of_ble_eq_true rfl) (by assumption) rfl rfl (fun r0 sh0 I0 L0 R0 hpq => ?_)
      obtain ⟨rfl, rfl, h⟩ := pO hpq
      rw [w1]
      refine z_lconst1 122 dL_rained_121 rfl ?_
      refine z_lcmpS 123 dL_rained_122 rfl ?_
      refine z_if_ne 130 126 dL_rained_123 (by decide) rfl (by omega) (fun hz => absurd hz (by omega)) (fun h123 => ?_)
      refine z_iconst 127 dL_rained_126 rfl ?_
      refine z_goto 131 dL_rained_127 (by decide) ?_
      refine z_istore4 133 dL_rained_131 (Nat.le_of_ble_eq_true rfl) rfl rfl ?_
      refine z_iinc5 136 dL_rained_133 (Nat.le_of_ble_eq_true rfl) rfl rfl ?_
      refine z_goto 16 dL_rained_136 (by decide) ?_
      exact kr _ _ _ _ _ _ _ h
    · rw [if_neg h8] at d0
      refine z_iload5 18 dL_rained_16 rfl ?_
      refine z_aload2 19 dL_rained_18 rfl ?_
      refine z_iconst 20 dL_rained_19 rfl ?_
      refine z_ialdx 21 (0) dL_rained_20 (by assumption) (by omega) (by omega) ((congrFun (h.2 157 (by decide)).1 0).trans hw) rfl ?_
      refine z_icmp_ge 139 24 dL_rained_21 (by decide) rfl (by omega) (by omega) (fun hz => absurd hz (by omega)) (fun h21 => ?_)
      refine z_iload4 26 dL_rained_24 rfl ?_
      refine z_if_eq 139 29 dL_rained_26 (by decide) rfl (by omega) (fun hz => absurd hz ((by omega))) (fun h26 => ?_)
      refine z_aload0 30 dL_rained_29 rfl ?_
      refine z_iload5 32 dL_rained_30 rfl ?_
      refine z_iload3 33 dL_rained_32 rfl ?_
      refine z_iconst 34 dL_rained_33 rfl ?_
      refine z_pV3 37 dL_rained_34 lk_L_rained_165 (pc_rain h (by omega) (by omega) (Or.inl rfl)) rfl (Nat.le_of_ble_eq_true rfl) (Nat.le_of_ble_eq_true rfl) (by assumption) rfl rfl (fun r0 sh0 I0 L0 R0 hpq => ?_)
      obtain ⟨rfl, rfl, h⟩ := pO hpq
      rw [eu]
      refine z_lstore6 39 dL_rained_37 (Nat.le_of_ble_eq_true rfl) rfl rfl ?_
      refine z_aload0 40 dL_rained_39 rfl ?_
      refine z_iload5 42 dL_rained_40 rfl ?_
      refine z_iload3 43 dL_rained_42 rfl ?_
      refine z_iconst 44 dL_rained_43 rfl ?_
      refine z_pV3 47 dL_rained_44 lk_L_rained_165 (pc_rain h (by omega) (by omega) (Or.inr rfl)) rfl (Nat.le_of_ble_eq_true rfl) (Nat.le_of_ble_eq_true rfl) (by assumption) rfl rfl (fun r0 sh0 I0 L0 R0 hpq => ?_)
      obtain ⟨rfl, rfl, h⟩ := pO hpq
      rw [ev]
      refine z_lstore8 49 dL_rained_47 (Nat.le_of_ble_eq_true rfl) rfl rfl ?_
      refine z_lload6 51 dL_rained_49 rfl ?_
      refine z_lconst0 52 dL_rained_51 rfl ?_
      refine z_lcmp 53 dL_rained_52 (by omega) (by omega) rfl ?_
      refine z_if_lt 130 56 dL_rained_53 (by decide) rfl (by omega) (fun hz => absurd hz (by omega)) (fun h53 => ?_)
      refine z_lload8 58 dL_rained_56 rfl ?_
      refine z_lconst0 59 dL_rained_58 rfl ?_
      refine z_lcmp 60 dL_rained_59 (by omega) (by omega) rfl ?_
      refine z_if_le 130 63 dL_rained_60 (by decide) rfl (by omega) (fun hz => absurd hz (by omega)) (fun h60 => ?_)
      refine z_lload6 65 dL_rained_63 rfl ?_
      refine z_lload8 67 dL_rained_65 rfl ?_
      refine z_lcmp 68 dL_rained_67 (by omega) (by omega) rfl ?_
      refine z_if_gt 130 71 dL_rained_68 (by decide) rfl (by omega) (fun hz => absurd hz (by omega)) (fun h68 => ?_)
      refine z_aload0 72 dL_rained_71 rfl ?_
      refine z_iload5 74 dL_rained_72 rfl ?_
      refine z_iconst 75 dL_rained_74 rfl ?_
      refine z_iconst 76 dL_rained_75 rfl ?_
      refine z_pV3 79 dL_rained_76 lk_L_rained_165 (pc_rain h (by omega) (by omega) (Or.inl rfl)) rfl (Nat.le_of_ble_eq_true rfl) (Nat.le_of_ble_eq_true rfl) (by assumption) rfl rfl (fun r0 sh0 I0 L0 R0 hpq => ?_)
      obtain ⟨rfl, rfl, h⟩ := pO hpq
      rw [d0]
      refine z_aload0 80 dL_rained_79 rfl ?_
      refine z_iload5 82 dL_rained_80 rfl ?_
      refine z_pV1 85 dL_rained_82 lk_L_rained_130 (pc_ends h n5.2 hr) rfl (Nat.le_of_ble_eq_true rfl) (Nat.le_of_ble_eq_true rfl) (by assumption) rfl rfl (fun r0 sh0 I0 L0 R0 hpq => ?_)
      obtain ⟨rfl, rfl, h⟩ := pO hpq
      show zE X mL_rained 0 0 85 _ [zI (sfe S r), zL 0] sh _ _ _ _
      refine z_bipush 87 dL_rained_85 (by decide) rfl ?_
      refine z_icmp_ge 94 90 dL_rained_87 (by decide) rfl (by omega) (by omega) (fun h87 => ?_) (fun hz => absurd hz (by omega))
      refine z_lconst0 95 dL_rained_94 rfl ?_
      refine z_lcmpS 96 dL_rained_95 rfl ?_
      refine z_if_ne 130 99 dL_rained_96 (by decide) rfl (by omega) (fun hz => absurd hz (by omega)) (fun h96 => ?_)
      refine z_aload0 100 dL_rained_99 rfl ?_
      refine z_iload5 102 dL_rained_100 rfl ?_
      refine z_iconst 103 dL_rained_102 rfl ?_
      refine z_iconst 104 dL_rained_103 rfl ?_
      refine z_pV3 107 dL_rained_104 lk_L_rained_165 (pc_rain h (by omega) (by omega) (Or.inr rfl)) rfl (Nat.le_of_ble_eq_true rfl) (Nat.le_of_ble_eq_true rfl) (by assumption) rfl rfl (fun r0 sh0 I0 L0 R0 hpq => ?_)
      obtain ⟨rfl, rfl, h⟩ := pO hpq
      rw [d1]
      refine z_lconst1 108 dL_rained_107 rfl ?_
      refine z_lcmpS 109 dL_rained_108 rfl ?_
      refine z_if_ne 130 112 dL_rained_109 (by decide) rfl (by omega) (fun hz => absurd hz (by omega)) (fun h109 => ?_)
      refine z_aload0 113 dL_rained_112 rfl ?_
      refine z_iload5 115 dL_rained_113 rfl ?_
      refine z_bipush 117 dL_rained_115 (by decide) rfl ?_
      refine z_iconst 118 dL_rained_117 rfl ?_
      refine z_pV3 121 dL_rained_118 lk_L_rained_165 (pc_rain h (by omega) (by omega) (Or.inr rfl)) rfl (Nat.le_of_ble_eq_true rfl) (Nat.le_of_ble_eq_true rfl) (by assumption) rfl rfl (fun r0 sh0 I0 L0 R0 hpq => ?_)
      obtain ⟨rfl, rfl, h⟩ := pO hpq
      rw [w1]
      refine z_lconst1 122 dL_rained_121 rfl ?_
      refine z_lcmpS 123 dL_rained_122 rfl ?_
      refine z_if_ne 130 126 dL_rained_123 (by decide) rfl (by omega) (fun hz => absurd hz (by omega)) (fun h123 => ?_)
      refine z_iconst 127 dL_rained_126 rfl ?_
      refine z_goto 131 dL_rained_127 (by decide) ?_
      refine z_istore4 133 dL_rained_131 (Nat.le_of_ble_eq_true rfl) rfl rfl ?_
      refine z_iinc5 136 dL_rained_133 (Nat.le_of_ble_eq_true rfl) rfl rfl ?_
      refine z_goto 16 dL_rained_136 (by decide) ?_
      exact kr _ _ _ _ _ _ _ h
theorem ct_L_rained {I L : zI2} {R : zR2} (hX : X.1 ≤ 260) (hj : ∀ j, -2147483648 ≤ X.2 j ∧ X.2 j ≤ 2147483647) (hs : sh[157]? = some (20, 43)) (hw : J0 157 0 = S 0 6) (hg : gd S) (h : pH sh J0 K0 Z0 I L R (pA S hh TS)) : zE X mL_rained 0 0 0 [zR 0, zS, zR 157, zX, zX, zX, zX, zX, zX, zX] [] sh I L R (zOp sh J0 K0 Z0 (zI 1) (pA S hh TS)) := by
  have n5 := hg.n5
  have hp := pcl_r X 14
  obtain ⟨c, hc⟩ : ∃ c : Nat, pcl X 14 % 11 = (c : Int) := ⟨(pcl X 14 % 11).toNat, by omega⟩
  refine z_aloadS1 1 dL_rained_0 rfl ?_
  refine z_bipush 3 dL_rained_1 (by decide) rfl ?_
  refine z_xS2 6 dL_rained_3 lk_L_rained_15 (ct_L_cell (i := 14) hX hj (by omega)) rfl (Nat.le_of_ble_eq_true rfl) (Nat.le_of_ble_eq_true rfl) rfl ?_
  refine z_bipush 8 dL_rained_6 (by decide) rfl ?_
  refine z_irem 9 dL_rained_8 (by omega) (by omega) rfl ?_
  rw [hc]
  refine z_istore3 10 dL_rained_9 (Nat.le_of_ble_eq_true rfl) rfl rfl ?_
  refine z_iconst 11 dL_rained_10 rfl ?_
  refine z_istore4 13 dL_rained_11 (Nat.le_of_ble_eq_true rfl) rfl rfl ?_
  refine z_iconst 14 dL_rained_13 rfl ?_
  refine z_istore5 16 dL_rained_14 (Nat.le_of_ble_eq_true rfl) rfl rfl ?_
  exact lp_rained16 hX hj hs hw hg (by omega) (S 0 6).toNat 0 _ _ _ _ _ _ _ (by omega) h
end RAINED
