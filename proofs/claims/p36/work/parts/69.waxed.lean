/-! ===== the law's waxed ===== -/
theorem smy_b {T : zT} {r t : Nat} (h0 : ∀ q : Nat, q < 10 → 0 ≤ sfe (zup T 1 t (q : Int)) r) : ∀ (m i a : Nat), i + m ≤ 10 → a < 2 ^ 8 → ∃ c : Nat, smy T r t m i (a : Int) = (c : Int) ∧ c < 2 ^ 8 ∧ ∀ j : Nat, (c.testBit j = true ↔ a.testBit j = true ∨ (j ≤ 7 ∧ ∃ q : Nat, i ≤ q ∧ q < i + m ∧ sfe (zup T 1 t (q : Int)) r = (j : Int)))
  | 0, i, a, _, ha => ⟨a, rfl, ha, fun j => ⟨Or.inl, fun h => by rcases h with h | ⟨_, q, h1, h2, _⟩; exact h; omega⟩⟩
  | m + 1, i, a, hi, ha => by
    unfold smy
    have hs := h0 i (by omega)
    have h256 : (2 : Nat) ^ 8 = 256 := by decide
    by_cases h7 : sfe (zup T 1 t (i : Int)) r ≤ 7
    · rw [if_pos ⟨hs, h7⟩]
      obtain ⟨p, hp⟩ : ∃ p : Nat, sfe (zup T 1 t (i : Int)) r = (p : Int) := ⟨(sfe (zup T 1 t (i : Int)) r).toNat, by omega⟩
      have h2 : (2 : Nat) ^ p < 2 ^ 8 := Nat.pow_lt_pow_right (by omega) (by omega)
      rw [hp, zb_shl (by omega), zb_or (by omega) (by omega)]
      obtain ⟨c, c1, c2, c3⟩ := smy_b (T := T) (r := r) (t := t) h0 m (i + 1) (a ||| 2 ^ p) (by omega) (Nat.or_lt_two_pow ha h2)
      refine ⟨c, c1, c2, fun j => ?_⟩
      rw [c3 j, zb_tor, Bool.or_eq_true, decide_eq_true_eq]
      constructor
      · rintro ((h | h) | ⟨hj, q, q1, q2, q3⟩)
        · exact Or.inl h
        · exact Or.inr ⟨by omega, i, by omega, by omega, by omega⟩
        · exact Or.inr ⟨hj, q, by omega, by omega, q3⟩
      · rintro (h | ⟨hj, q, q1, q2, q3⟩)
        · exact Or.inl (Or.inl h)
        · by_cases e : q = i
          · subst e; exact Or.inl (Or.inr (by omega))
          · exact Or.inr ⟨hj, q, by omega, by omega, q3⟩
    · rw [if_neg (fun z => h7 z.2)]
      obtain ⟨c, c1, c2, c3⟩ := smy_b (T := T) (r := r) (t := t) h0 m (i + 1) a (by omega) ha
      refine ⟨c, c1, c2, fun j => ?_⟩
      rw [c3 j]
      constructor
      · rintro (h | ⟨hj, q, q1, q2, q3⟩)
        · exact Or.inl h
        · exact Or.inr ⟨hj, q, by omega, by omega, q3⟩
      · rintro (h | ⟨hj, q, q1, q2, q3⟩)
        · exact Or.inl h
        · by_cases e : q = i
          · subst e; omega
          · exact Or.inr ⟨hj, q, by omega, by omega, q3⟩
theorem swf_s (T : zT) (r t : Nat) (o : Int) : ∀ (m i : Nat), (swf T r t o m i = -4 ∧ ∀ q : Nat, i ≤ q → q < i + m → sfe (zup T 1 t (q : Int)) r ≠ o) ∨ ∃ q : Nat, swf T r t o m i = (q : Int) ∧ (i ≤ q ∧ q < i + m) ∧ sfe (zup T 1 t (q : Int)) r = o
  | 0, i => Or.inl ⟨rfl, fun q h1 h2 => by omega⟩
  | m + 1, i => by
    unfold swf
    by_cases h : sfe (zup T 1 t (i : Int)) r = o
    · rw [if_pos h]
      exact Or.inr ⟨i, rfl, by omega, h⟩
    · rw [if_neg h]
      rcases swf_s T r t o m (i + 1) with ⟨h1, h2⟩ | ⟨q, h1, h2, h3⟩
      · refine Or.inl ⟨h1, fun q a b => ?_⟩
        by_cases e : q = i
        · subst e; exact h
        · exact h2 q (by omega) (by omega)
      · exact Or.inr ⟨q, h1, by omega, h3⟩
theorem swx_s (T : zT) (r : Nat) (o : Int) : ∀ (m t : Nat), (swx T r o m t = -4 ∧ ∀ u q : Nat, t ≤ u → u < t + m → q < 10 → sfe (zup T 1 u (q : Int)) r ≠ o) ∨ ∃ u q : Nat, swx T r o m t = 10 * (u : Int) + (q : Int) ∧ (t ≤ u ∧ u < t + m) ∧ q < 10 ∧ sfe (zup T 1 u (q : Int)) r = o
  | 0, t => Or.inl ⟨rfl, fun u q h1 h2 => by omega⟩
  | m + 1, t => by
    unfold swx
    rcases swf_s T r t o 10 0 with ⟨h1, h2⟩ | ⟨q, h1, h2, h3⟩
    · rw [if_pos h1]
      rcases swx_s T r o m (t + 1) with ⟨h4, h5⟩ | ⟨u, q, h4, h5, h6⟩
      · refine Or.inl ⟨h4, fun u q a b c => ?_⟩
        by_cases e : u = t
        · subst e; exact h2 q (by omega) (by omega)
        · exact h5 u q (by omega) (by omega) c
      · exact Or.inr ⟨u, q, h4, by omega, h6⟩
    · rw [if_neg (by omega), h1]
      exact Or.inr ⟨t, q, rfl, by omega, by omega, h3⟩
theorem swg_s {T : zT} {r : Nat} (h0 : ∀ q : Nat, q ≤ 20 → 0 ≤ sfe (zup T 4 r (q : Int)) r) : ∀ (m i : Nat), i + m ≤ 21 → (swg T r m i = -4 ∧ ∀ q : Nat, i ≤ q → q < i + m → 7 < sfe (zup T 4 r (q : Int)) r) ∨ ∃ q : Nat, swg T r m i = (q : Int) ∧ (i ≤ q ∧ q < i + m) ∧ sfe (zup T 4 r (q : Int)) r ≤ 7 ∧ ∀ p : Nat, i ≤ p → p < q → 7 < sfe (zup T 4 r (p : Int)) r
  | 0, i, _ => Or.inl ⟨rfl, fun q h1 h2 => by omega⟩
  | m + 1, i, hi => by
    unfold swg
    have hs := h0 i (by omega)
    by_cases h : sfe (zup T 4 r (i : Int)) r ≤ 7
    · rw [if_pos ⟨hs, h⟩]
      exact Or.inr ⟨i, rfl, by omega, h, fun p a b => by omega⟩
    · rw [if_neg (fun z => h z.2)]
      rcases swg_s (T := T) (r := r) h0 m (i + 1) (by omega) with ⟨h1, h2⟩ | ⟨q, h1, h2, h3, h4⟩
      · refine Or.inl ⟨h1, fun q a b => ?_⟩
        by_cases e : q = i
        · subst e; omega
        · exact h2 q (by omega) (by omega)
      · refine Or.inr ⟨q, h1, by omega, h3, fun p a b => ?_⟩
        by_cases e : p = i
        · subst e; omega
        · exact h4 p (by omega) b
section WAXED
variable {X : zXs} {sh : zH} {J0 K0 : zI2} {Z0 : zR2} {S : zT} {hh : List zT} {TS : List Int × (Nat → Int × (Int × (Nat → Int)))}
/-- what a turn may be for him: told as bits -/
theorem may_b {r t : Nat} (hg : gd S) (hr : (r : Int) < S 0 6) (ht : t < 10) : ∃ c : Nat, smy S r t 10 0 0 = (c : Int) ∧ c < 2 ^ 8 ∧ ∀ j : Nat, (c.testBit j = true ↔ (j ≤ 7 ∧ ∃ q : Nat, q < 10 ∧ sfe (zup S 1 t (q : Int)) r = (j : Int))) := by
  have n5 := hg.n5
  obtain ⟨c, c1, c2, c3⟩ := smy_b (T := S) (r := r) (t := t) (fun q hq => (sfe_r _ r (zSr_up1 hg.sr t (by omega)) (by omega)).1) 10 0 0 (by omega) (by decide)
  refine ⟨c, c1, c2, fun j => ?_⟩
  rw [c3 j, Nat.zero_testBit]
  constructor
  · rintro (h | ⟨hj, q, _, q2, q3⟩)
    · cases h
    · exact ⟨hj, q, by omega, q3⟩
  · rintro ⟨hj, q, q2, q3⟩
    exact Or.inr ⟨hj, q, by omega, by omega, q3⟩
theorem tl_waxed277 {r : Nat} {a8 : Int} {z9 z10 : zV} {I L : zI2} {R : zR2} (hs : sh[157]? = some (20, 43)) (hw : J0 157 0 = S 0 6) (hg : gd S) (hr : (r : Int) < S 0 6) (h : pH sh J0 K0 Z0 I L R (pA S hh TS)) : zE X mL_waxed 0 0 277 [zR 0, zS, zR 157, zL (phash (pA S hh TS)), zX, zI (r : Int), zI (sfe S r), zI 1, zI a8, z9, z10] [] sh I L R (zOp sh J0 K0 Z0 (zI 1) (pA S hh TS)) := by
  have s0 := h.sh0
  have n5 := hg.n5
  have hre := sfe_r S r hg.sr (by omega)
  have g4 := hg.sr.2.2.2.2.1 r (by omega)
  have g41 := (hg.2.2.2 r hr).1
  obtain ⟨p, hp⟩ : ∃ p : Nat, S 4 r = (p : Int) := ⟨(S 4 r).toNat, by omega⟩
  have ep : sfe (zup S 4 r (p : Int)) r = sfe S r := by rw [← hp, zup_self]
  have hq := swg_s (T := S) (r := r) (fun q hq => (sfe_r _ r (zSr_up4 hg.sr r (by omega)) (by omega)).1) 20 1 (by omega)
  have hq2 : (-4 ≤ swg S r 20 1 ∧ swg S r 20 1 < 21) ∧ (sfe S r ≤ 7 → 0 < swg S r 20 1 ∧ swg S r 20 1 ≤ S 4 r) ∧ (swg S r 20 1 = S 4 r → sfe S r ≤ 7) := by
    rcases hq with ⟨q1, q2⟩ | ⟨q, q1, q2, q3, q4⟩
    · refine ⟨by omega, fun z => ?_, fun z => by omega⟩
      have := q2 p (by omega) (by omega)
      omega
    · refine ⟨by omega, fun z => ?_, fun z => ?_⟩
      · by_cases hpq : p < q
        · have := q4 p (by omega) hpq
          omega
        · omega
      · have e : q = p := by omega
        rw [e, ep] at q3
        exact q3
  clear hq
  obtain ⟨w1, w2, w3⟩ := hq2
  by_cases h8 : sfe S r ≤ 7
  · have w2 := w2 h8
    clear w3
    refine z_aload0 278 dL_waxed_277 rfl ?_
    refine z_iload5 280 dL_waxed_278 rfl ?_
    refine z_pV1 283 dL_waxed_280 lk_L_waxed_149 (pc_weight h n5.2 hr) rfl (Nat.le_of_ble_eq_true rfl) (Nat.le_of_ble_eq_true rfl) (by assumption) rfl rfl (fun r0 sh0 I0 L0 R0 hpq => ?_)
    obtain ⟨rfl, rfl, h⟩ := pO hpq
    show zE X mL_waxed 0 0 283 _ [zI (swg S r 20 1)] sh _ _ _ _
    refine z_istore9 285 dL_waxed_283 (Nat.le_of_ble_eq_true rfl) rfl rfl ?_
    refine z_iload7 287 dL_waxed_285 rfl ?_
    refine z_if_eq 361 290 dL_waxed_287 (by decide) rfl (by omega) (fun hz => absurd hz ((by omega))) (fun h287 => ?_)
    refine z_iload9 292 dL_waxed_290 rfl ?_
    refine z_bipush 294 dL_waxed_292 (by decide) rfl ?_
    refine z_icmp_lt 361 297 dL_waxed_294 (by decide) rfl (by omega) (by omega) (fun hz => absurd hz (by omega)) (fun h294 => ?_)
    refine z_iload9 299 dL_waxed_297 rfl ?_
    refine z_bipush 301 dL_waxed_299 (by decide) rfl ?_
    refine z_icmp_ge 361 304 dL_waxed_301 (by decide) rfl (by omega) (by omega) (fun hz => absurd hz (by omega)) (fun h301 => ?_)
    refine z_iload6 306 dL_waxed_304 rfl ?_
    refine z_bipush 308 dL_waxed_306 (by decide) rfl ?_
    refine z_icmp_gt 328 311 dL_waxed_308 (by decide) rfl (by omega) (by omega) (fun hz => absurd hz (by omega)) (fun h308 => ?_)
    refine z_iload9 313 dL_waxed_311 rfl ?_
    refine z_if_le 361 316 dL_waxed_313 (by decide) rfl (by omega) (fun hz => absurd hz (by omega)) (fun h313 => ?_)
    refine z_iload9 318 dL_waxed_316 rfl ?_
    refine z_aload0 319 dL_waxed_318 rfl ?_
    refine z_iload5 321 dL_waxed_319 rfl ?_
    refine z_iconst 322 dL_waxed_321 rfl ?_
    refine z_pV2 325 dL_waxed_322 lk_L_waxed_69 (pc_of1 h n5.2 hr) rfl (Nat.le_of_ble_eq_true rfl) (Nat.le_of_ble_eq_true rfl) (by assumption) rfl rfl (fun r0 sh0 I0 L0 R0 hpq => ?_)
    obtain ⟨rfl, rfl, h⟩ := pO hpq
    show zE X mL_waxed 0 0 325 _ [zI (S 4 r), zI (swg S r 20 1)] sh _ _ _ _
    refine z_icmp_gt 361 328 dL_waxed_325 (by decide) rfl (by omega) (by omega) (fun hz => absurd hz (by omega)) (fun h325 => ?_)
    refine z_iload9 330 dL_waxed_328 rfl ?_
    refine z_aload0 331 dL_waxed_330 rfl ?_
    refine z_iload5 333 dL_waxed_331 rfl ?_
    refine z_iconst 334 dL_waxed_333 rfl ?_
    refine z_pV2 337 dL_waxed_334 lk_L_waxed_69 (pc_of1 h n5.2 hr) rfl (Nat.le_of_ble_eq_true rfl) (Nat.le_of_ble_eq_true rfl) (by assumption) rfl rfl (fun r0 sh0 I0 L0 R0 hpq => ?_)
    obtain ⟨rfl, rfl, h⟩ := pO hpq
    show zE X mL_waxed 0 0 337 _ [zI (S 4 r), zI (swg S r 20 1)] sh _ _ _ _
    refine z_icmp_ne 347 340 dL_waxed_337 (by decide) rfl (by omega) (by omega) (fun h337 => ?_) (fun h337 => ?_)
    · refine z_aload0 348 dL_waxed_347 rfl ?_
      refine z_aload2 349 dL_waxed_348 rfl ?_
      refine z_pS2 352 dL_waxed_349 lk_L_waxed_87 (ct_L_hash hs hw hg h) rfl (Nat.le_of_ble_eq_true rfl) (Nat.le_of_ble_eq_true rfl) rfl (fun r0 sh0 I0 L0 R0 hpq => ?_)
      obtain ⟨rfl, rfl, h⟩ := pO hpq
      refine z_lload3 353 dL_waxed_352 rfl ?_
      refine z_lcmpS 354 dL_waxed_353 rfl ?_
      refine z_if_ne 361 357 dL_waxed_354 (by decide) rfl (by omega) (fun hz => absurd hz (by omega)) (fun h354 => ?_)
      refine z_iconst 358 dL_waxed_357 rfl ?_
      refine z_goto 362 dL_waxed_358 (by decide) ?_
      exact z_zreturn dL_waxed_362 rfl (by omega) (zOp_h h)
    · refine z_iload6 342 dL_waxed_340 rfl ?_
      refine z_bipush 344 dL_waxed_342 (by decide) rfl ?_
      refine z_icmp_ge 361 347 dL_waxed_344 (by decide) rfl (by omega) (by omega) (fun hz => absurd hz (by omega)) (fun h344 => ?_)
      refine z_aload0 348 dL_waxed_347 rfl ?_
      refine z_aload2 349 dL_waxed_348 rfl ?_
      refine z_pS2 352 dL_waxed_349 lk_L_waxed_87 (ct_L_hash hs hw hg h) rfl (Nat.le_of_ble_eq_true rfl) (Nat.le_of_ble_eq_true rfl) rfl (fun r0 sh0 I0 L0 R0 hpq => ?_)
      obtain ⟨rfl, rfl, h⟩ := pO hpq
      refine z_lload3 353 dL_waxed_352 rfl ?_
      refine z_lcmpS 354 dL_waxed_353 rfl ?_
      refine z_if_ne 361 357 dL_waxed_354 (by decide) rfl (by omega) (fun hz => absurd hz (by omega)) (fun h354 => ?_)
      refine z_iconst 358 dL_waxed_357 rfl ?_
      refine z_goto 362 dL_waxed_358 (by decide) ?_
      exact z_zreturn dL_waxed_362 rfl (by omega) (zOp_h h)
  · have w3 : ¬ swg S r 20 1 = S 4 r := fun z => h8 (w3 z)
    clear w2
    refine z_aload0 278 dL_waxed_277 rfl ?_
    refine z_iload5 280 dL_waxed_278 rfl ?_
    refine z_pV1 283 dL_waxed_280 lk_L_waxed_149 (pc_weight h n5.2 hr) rfl (Nat.le_of_ble_eq_true rfl) (Nat.le_of_ble_eq_true rfl) (by assumption) rfl rfl (fun r0 sh0 I0 L0 R0 hpq => ?_)
    obtain ⟨rfl, rfl, h⟩ := pO hpq
    show zE X mL_waxed 0 0 283 _ [zI (swg S r 20 1)] sh _ _ _ _
    refine z_istore9 285 dL_waxed_283 (Nat.le_of_ble_eq_true rfl) rfl rfl ?_
    refine z_iload7 287 dL_waxed_285 rfl ?_
    refine z_if_eq 361 290 dL_waxed_287 (by decide) rfl (by omega) (fun hz => absurd hz ((by omega))) (fun h287 => ?_)
    refine z_iload9 292 dL_waxed_290 rfl ?_
    refine z_bipush 294 dL_waxed_292 (by decide) rfl ?_
    refine z_icmp_lt 361 297 dL_waxed_294 (by decide) rfl (by omega) (by omega) (fun hz => absurd hz (by omega)) (fun h294 => ?_)
    refine z_iload9 299 dL_waxed_297 rfl ?_
    refine z_bipush 301 dL_waxed_299 (by decide) rfl ?_
    refine z_icmp_ge 361 304 dL_waxed_301 (by decide) rfl (by omega) (by omega) (fun hz => absurd hz (by omega)) (fun h301 => ?_)
    refine z_iload6 306 dL_waxed_304 rfl ?_
    refine z_bipush 308 dL_waxed_306 (by decide) rfl ?_
    refine z_icmp_gt 328 311 dL_waxed_308 (by decide) rfl (by omega) (by omega) (fun h308 => ?_) (fun hz => absurd hz (by omega))
    refine z_iload9 330 dL_waxed_328 rfl ?_
    refine z_aload0 331 dL_waxed_330 rfl ?_
    refine z_iload5 333 dL_waxed_331 rfl ?_
    refine z_iconst 334 dL_waxed_333 rfl ?_
    refine z_pV2 337 dL_waxed_334 lk_L_waxed_69 (pc_of1 h n5.2 hr) rfl (Nat.le_of_ble_eq_true rfl) (Nat.le_of_ble_eq_true rfl) (by assumption) rfl rfl (fun r0 sh0 I0 L0 R0 hpq => ?_)
    obtain ⟨rfl, rfl, h⟩ := pO hpq
    show zE X mL_waxed 0 0 337 _ [zI (S 4 r), zI (swg S r 20 1)] sh _ _ _ _
    refine z_icmp_ne 347 340 dL_waxed_337 (by decide) rfl (by omega) (by omega) (fun h337 => ?_) (fun hz => absurd hz (w3))
    refine z_aload0 348 dL_waxed_347 rfl ?_
    refine z_aload2 349 dL_waxed_348 rfl ?_
    refine z_pS2 352 dL_waxed_349 lk_L_waxed_87 (ct_L_hash hs hw hg h) rfl (Nat.le_of_ble_eq_true rfl) (Nat.le_of_ble_eq_true rfl) rfl (fun r0 sh0 I0 L0 R0 hpq => ?_)
    obtain ⟨rfl, rfl, h⟩ := pO hpq
    refine z_lload3 353 dL_waxed_352 rfl ?_
    refine z_lcmpS 354 dL_waxed_353 rfl ?_
    refine z_if_ne 361 357 dL_waxed_354 (by decide) rfl (by omega) (fun hz => absurd hz (by omega)) (fun h354 => ?_)
    refine z_iconst 358 dL_waxed_357 rfl ?_
    refine z_goto 362 dL_waxed_358 (by decide) ?_
    exact z_zreturn dL_waxed_362 rfl (by omega) (zOp_h h)
theorem lp_waxed105 {r a : Nat} (hs : sh[157]? = some (20, 43)) (hw : J0 157 0 = S 0 6) (hg : gd S) (hr : (r : Int) < S 0 6) (ha2 : a < 2 ^ 8) (ha : ∀ j : Nat, (a.testBit j = true ↔ (j ≤ 7 ∧ ∃ u q : Nat, u < 10 ∧ q < 10 ∧ sfe (zup S 1 u (q : Int)) r = (j : Int)))) : ∀ (m x : Nat) (z10 : zV) (I L : zI2) (R : zR2), x + m = 8 → pH sh J0 K0 Z0 I L R (pA S hh TS) → zE X mL_waxed 0 0 105 [zR 0, zS, zR 157, zL (phash (pA S hh TS)), zX, zI (r : Int), zI (sfe S r), zI 1, zI (a : Int), zI (x : Int), z10] [] sh I L R (zOp sh J0 K0 Z0 (zI 1) (pA S hh TS))
  | 0, x, z10, I, L, R, hm, h => by
    refine z_iload9 107 dL_waxed_105 rfl ?_
    refine z_bipush 109 dL_waxed_107 (by decide) rfl ?_
    refine z_icmp_ge 277 112 dL_waxed_109 (by decide) rfl (by omega) (by omega) (fun h109 => ?_) (fun hz => absurd hz (by omega))
    exact tl_waxed277 hs hw hg hr h
  | m + 1, x, z10, I, L, R, hm, h => by
    have s0 := h.sh0
    have n5 := hg.n5
    have hre := sfe_r S r hg.sr (by omega)
    have g0 := hg.sr.2.1 0 (by omega)
    have eb : zand (zshr (a : Int) (x : Int)) 1 = bti a x := zb_bit (by omega) (by omega)
    have kr := fun z10 I L R => lp_waxed105 hs hw hg hr ha2 ha m (x + 1) z10 I L R (by omega)
    by_cases he : sfe S r = (x : Int)
    · have b1 : bti a x = 1 := bti_1.mpr ((ha x).mpr ⟨by omega, 0, (S 1 0).toNat, by omega, by omega, by
        rw [Int.toNat_of_nonneg g0.1, zup_self]; exact he⟩)
      clear ha
      refine z_iload9 107 dL_waxed_105 rfl ?_
      refine z_bipush 109 dL_waxed_107 (by decide) rfl ?_
      refine z_icmp_ge 277 112 dL_waxed_109 (by decide) rfl (by omega) (by omega) (fun hz => absurd hz (by omega)) (fun h109 => ?_)
      refine z_iload7 114 dL_waxed_112 rfl ?_
      refine z_if_eq 277 117 dL_waxed_114 (by decide) rfl (by omega) (fun hz => absurd hz ((by omega))) (fun h114 => ?_)
      refine z_aload0 118 dL_waxed_117 rfl ?_
      refine z_iload5 120 dL_waxed_118 rfl ?_
      refine z_iload9 122 dL_waxed_120 rfl ?_
      refine z_pV2 125 dL_waxed_122 lk_L_waxed_146 (pc_waxes h n5.2 hr (by omega)) rfl (Nat.le_of_ble_eq_true rfl) (Nat.le_of_ble_eq_true rfl) (by assumption) rfl rfl (fun r0 sh0 I0 L0 R0 hpq => ?_)
      obtain ⟨rfl, rfl, h⟩ := pO hpq
      rw [if_pos (show sfe (pA S hh TS).1 r = (x : Int) from he)]
      refine z_istore10 127 dL_waxed_125 (Nat.le_of_ble_eq_true rfl) rfl rfl ?_
      refine z_iload10 129 dL_waxed_127 rfl ?_
      refine z_bipush 131 dL_waxed_129 (by decide) rfl ?_
      refine z_icmp_ne 138 134 dL_waxed_131 (by decide) rfl (by omega) (by omega) (fun h131 => ?_) (fun hz => absurd hz ((by omega)))
      refine z_iconst 139 dL_waxed_138 rfl ?_
      refine z_iload8 141 dL_waxed_139 rfl ?_
      refine z_iload9 143 dL_waxed_141 rfl ?_
      refine z_ishr 144 dL_waxed_143 rfl ?_
      refine z_iconst 145 dL_waxed_144 rfl ?_
      refine z_iand 146 dL_waxed_145 rfl ?_
      rw [eb, b1]
      refine z_if_ne 153 149 dL_waxed_146 (by decide) rfl (by omega) (fun h146 => ?_) (fun hz => absurd hz ((by omega)))
      refine z_iconst 154 dL_waxed_153 rfl ?_
      refine z_icmp_ne 188 157 dL_waxed_154 (by decide) rfl (by omega) (by omega) (fun hz => absurd hz ((by omega))) (fun h154 => ?_)
      refine z_iload10 159 dL_waxed_157 rfl ?_
      refine z_bipush 161 dL_waxed_159 (by decide) rfl ?_
      refine z_icmp_ne 168 164 dL_waxed_161 (by decide) rfl (by omega) (by omega) (fun hz => absurd hz ((by omega))) (fun h161 => ?_)
      refine z_iconst 165 dL_waxed_164 rfl ?_
      refine z_goto 169 dL_waxed_165 (by decide) ?_
      refine z_iload6 171 dL_waxed_169 rfl ?_
      refine z_iload9 173 dL_waxed_171 rfl ?_
      refine z_icmp_ne 180 176 dL_waxed_173 (by decide) rfl (by omega) (by omega) (fun hz => absurd hz ((by omega))) (fun h173 => ?_)
      refine z_iconst 177 dL_waxed_176 rfl ?_
      refine z_goto 181 dL_waxed_177 (by decide) ?_
      refine z_icmp_ne 188 184 dL_waxed_181 (by decide) rfl (by omega) (by omega) (fun hz => absurd hz ((by omega))) (fun h181 => ?_)
      refine z_iconst 185 dL_waxed_184 rfl ?_
      refine z_goto 189 dL_waxed_185 (by decide) ?_
      refine z_istore7 191 dL_waxed_189 (Nat.le_of_ble_eq_true rfl) rfl rfl ?_
      refine z_iload7 193 dL_waxed_191 rfl ?_
      refine z_if_eq 271 196 dL_waxed_193 (by decide) rfl (by omega) (fun hz => absurd hz ((by omega))) (fun h193 => ?_)
      refine z_iload10 198 dL_waxed_196 rfl ?_
      refine z_if_lt 271 201 dL_waxed_198 (by decide) rfl (by omega) (fun hz => absurd hz ((by omega))) (fun h198 => ?_)
      refine z_iload10 203 dL_waxed_201 rfl ?_
      refine z_bipush 205 dL_waxed_203 (by decide) rfl ?_
      refine z_icmp_ge 271 208 dL_waxed_205 (by decide) rfl (by omega) (by omega) (fun h205 => ?_) (fun hz => absurd hz ((by omega)))
      refine z_iinc9 274 dL_waxed_271 (Nat.le_of_ble_eq_true rfl) rfl rfl ?_
      refine z_goto 105 dL_waxed_274 (by decide) ?_
      exact kr _ _ _ _ h
    · rcases swx_s S r (x : Int) 10 0 with ⟨q1, q2⟩ | ⟨u, q, q1, q2, q3, q4⟩
      · have b1 : bti a x = 0 := bti_0.mpr (by
          rw [Bool.eq_false_iff]
          intro z
          obtain ⟨_, u, q, a1, a2, a3⟩ := (ha x).mp z
          exact q2 u q (by omega) (by omega) a2 a3)
        clear ha q2
        refine z_iload9 107 dL_waxed_105 rfl ?_
        refine z_bipush 109 dL_waxed_107 (by decide) rfl ?_
        refine z_icmp_ge 277 112 dL_waxed_109 (by decide) rfl (by omega) (by omega) (fun hz => absurd hz (by omega)) (fun h109 => ?_)
        refine z_iload7 114 dL_waxed_112 rfl ?_
        refine z_if_eq 277 117 dL_waxed_114 (by decide) rfl (by omega) (fun hz => absurd hz ((by omega))) (fun h114 => ?_)
        refine z_aload0 118 dL_waxed_117 rfl ?_
        refine z_iload5 120 dL_waxed_118 rfl ?_
        refine z_iload9 122 dL_waxed_120 rfl ?_
        refine z_pV2 125 dL_waxed_122 lk_L_waxed_146 (pc_waxes h n5.2 hr (by omega)) rfl (Nat.le_of_ble_eq_true rfl) (Nat.le_of_ble_eq_true rfl) (by assumption) rfl rfl (fun r0 sh0 I0 L0 R0 hpq => ?_)
        obtain ⟨rfl, rfl, h⟩ := pO hpq
        rw [if_neg (show ¬ sfe (pA S hh TS).1 r = (x : Int) from he), show swx (pA S hh TS).1 r (x : Int) 10 0 = -4 from q1]
        refine z_istore10 127 dL_waxed_125 (Nat.le_of_ble_eq_true rfl) rfl rfl ?_
        refine z_iload10 129 dL_waxed_127 rfl ?_
        refine z_bipush 131 dL_waxed_129 (by decide) rfl ?_
        refine z_icmp_ne 138 134 dL_waxed_131 (by decide) rfl (by omega) (by omega) (fun hz => absurd hz ((by omega))) (fun h131 => ?_)
        refine z_iconst 135 dL_waxed_134 rfl ?_
        refine z_goto 139 dL_waxed_135 (by decide) ?_
        refine z_iload8 141 dL_waxed_139 rfl ?_
        refine z_iload9 143 dL_waxed_141 rfl ?_
        refine z_ishr 144 dL_waxed_143 rfl ?_
        refine z_iconst 145 dL_waxed_144 rfl ?_
        refine z_iand 146 dL_waxed_145 rfl ?_
        rw [eb, b1]
        refine z_if_ne 153 149 dL_waxed_146 (by decide) rfl (by omega) (fun hz => absurd hz ((by omega))) (fun h146 => ?_)
        refine z_iconst 150 dL_waxed_149 rfl ?_
        refine z_goto 154 dL_waxed_150 (by decide) ?_
        refine z_icmp_ne 188 157 dL_waxed_154 (by decide) rfl (by omega) (by omega) (fun hz => absurd hz ((by omega))) (fun h154 => ?_)
        refine z_iload10 159 dL_waxed_157 rfl ?_
        refine z_bipush 161 dL_waxed_159 (by decide) rfl ?_
        refine z_icmp_ne 168 164 dL_waxed_161 (by decide) rfl (by omega) (by omega) (fun h161 => ?_) (fun hz => absurd hz ((by omega)))
        refine z_iconst 169 dL_waxed_168 rfl ?_
        refine z_iload6 171 dL_waxed_169 rfl ?_
        refine z_iload9 173 dL_waxed_171 rfl ?_
        refine z_icmp_ne 180 176 dL_waxed_173 (by decide) rfl (by omega) (by omega) (fun h173 => ?_) (fun hz => absurd hz (he))
        refine z_iconst 181 dL_waxed_180 rfl ?_
        refine z_icmp_ne 188 184 dL_waxed_181 (by decide) rfl (by omega) (by omega) (fun hz => absurd hz ((by omega))) (fun h181 => ?_)
        refine z_iconst 185 dL_waxed_184 rfl ?_
        refine z_goto 189 dL_waxed_185 (by decide) ?_
        refine z_istore7 191 dL_waxed_189 (Nat.le_of_ble_eq_true rfl) rfl rfl ?_
        refine z_iload7 193 dL_waxed_191 rfl ?_
        refine z_if_eq 271 196 dL_waxed_193 (by decide) rfl (by omega) (fun hz => absurd hz ((by omega))) (fun h193 => ?_)
        refine z_iload10 198 dL_waxed_196 rfl ?_
        refine z_if_lt 271 201 dL_waxed_198 (by decide) rfl (by omega) (fun h198 => ?_) (fun hz => absurd hz ((by omega)))
        refine z_iinc9 274 dL_waxed_271 (Nat.le_of_ble_eq_true rfl) rfl rfl ?_
        refine z_goto 105 dL_waxed_274 (by decide) ?_
        exact kr _ _ _ _ h
      · have b1 : bti a x = 1 := bti_1.mpr ((ha x).mpr ⟨by omega, u, q, by omega, q3, q4⟩)
        clear ha
        obtain ⟨d, d1, d2, d3⟩ := may_b (S := S) (t := u) hg hr (by omega)
        have ed : zand (zshr (d : Int) (x : Int)) 1 = bti d x := zb_bit (by omega) (by omega)
        have c1 : bti d x = 1 := bti_1.mpr ((d3 x).mpr ⟨by omega, q, q3, q4⟩)
        clear d3
        have gu := hg.sr.2.1 u (by omega)
        have eu : (10 * (u : Int) + (q : Int)) / 10 = (u : Int) := by omega
        have eq : (10 * (u : Int) + (q : Int)) % 10 = (q : Int) := by omega
        have hne : ¬ S 1 u = (q : Int) := fun z => he (by rw [← q4, ← z, zup_self])
        have ew : oWax (pA S hh TS) 1 (u : Int) (q : Int) = (S 1 u, (zup S 1 u (q : Int), (oPush (pA S hh TS)).2)) := by
          unfold oWax
          rw [if_pos (by omega), Int.toNat_natCast, if_neg hne]
        obtain ⟨B2, hB2⟩ : ∃ B2, (oPush (pA S hh TS)).2 = (B2, (some (S, hh), TS)) := ⟨_, rfl⟩
        rw [hB2] at ew
        have e6 : zup S 1 u (q : Int) 0 6 = S 0 6 := zup_ne _ _ (by omega)
        refine z_iload9 107 dL_waxed_105 rfl ?_
        refine z_bipush 109 dL_waxed_107 (by decide) rfl ?_
        refine z_icmp_ge 277 112 dL_waxed_109 (by decide) rfl (by omega) (by omega) (fun hz => absurd hz (by omega)) (fun h109 => ?_)
        refine z_iload7 114 dL_waxed_112 rfl ?_
        refine z_if_eq 277 117 dL_waxed_114 (by decide) rfl (by omega) (fun hz => absurd hz ((by omega))) (fun h114 => ?_)
        refine z_aload0 118 dL_waxed_117 rfl ?_
        refine z_iload5 120 dL_waxed_118 rfl ?_
        refine z_iload9 122 dL_waxed_120 rfl ?_
        refine z_pV2 125 dL_waxed_122 lk_L_waxed_146 (pc_waxes h n5.2 hr (by omega)) rfl (Nat.le_of_ble_eq_true rfl) (Nat.le_of_ble_eq_true rfl) (by assumption) rfl rfl (fun r0 sh0 I0 L0 R0 hpq => ?_)
        obtain ⟨rfl, rfl, h⟩ := pO hpq
        rw [if_neg (show ¬ sfe (pA S hh TS).1 r = (x : Int) from he), show swx (pA S hh TS).1 r (x : Int) 10 0 = 10 * (u : Int) + (q : Int) from q1]
        refine z_istore10 127 dL_waxed_125 (Nat.le_of_ble_eq_true rfl) rfl rfl ?_
        refine z_iload10 129 dL_waxed_127 rfl ?_
        refine z_bipush 131 dL_waxed_129 (by decide) rfl ?_
        refine z_icmp_ne 138 134 dL_waxed_131 (by decide) rfl (by omega) (by omega) (fun h131 => ?_) (fun hz => absurd hz ((by omega)))
        refine z_iconst 139 dL_waxed_138 rfl ?_
        refine z_iload8 141 dL_waxed_139 rfl ?_
        refine z_iload9 143 dL_waxed_141 rfl ?_
        refine z_ishr 144 dL_waxed_143 rfl ?_
        refine z_iconst 145 dL_waxed_144 rfl ?_
        refine z_iand 146 dL_waxed_145 rfl ?_
        rw [eb, b1]
        refine z_if_ne 153 149 dL_waxed_146 (by decide) rfl (by omega) (fun h146 => ?_) (fun hz => absurd hz ((by omega)))
        refine z_iconst 154 dL_waxed_153 rfl ?_
        refine z_icmp_ne 188 157 dL_waxed_154 (by decide) rfl (by omega) (by omega) (fun hz => absurd hz ((by omega))) (fun h154 => ?_)
        refine z_iload10 159 dL_waxed_157 rfl ?_
        refine z_bipush 161 dL_waxed_159 (by decide) rfl ?_
        refine z_icmp_ne 168 164 dL_waxed_161 (by decide) rfl (by omega) (by omega) (fun h161 => ?_) (fun hz => absurd hz ((by omega)))
        refine z_iconst 169 dL_waxed_168 rfl ?_
        refine z_iload6 171 dL_waxed_169 rfl ?_
        refine z_iload9 173 dL_waxed_171 rfl ?_
        refine z_icmp_ne 180 176 dL_waxed_173 (by decide) rfl (by omega) (by omega) (fun h173 => ?_) (fun hz => absurd hz (he))
        refine z_iconst 181 dL_waxed_180 rfl ?_
        refine z_icmp_ne 188 184 dL_waxed_181 (by decide) rfl (by omega) (by omega) (fun hz => absurd hz ((by omega))) (fun h181 => ?_)
        refine z_iconst 185 dL_waxed_184 rfl ?_
        refine z_goto 189 dL_waxed_185 (by decide) ?_
        refine z_istore7 191 dL_waxed_189 (Nat.le_of_ble_eq_true rfl) rfl rfl ?_
        refine z_iload7 193 dL_waxed_191 rfl ?_
        refine z_if_eq 271 196 dL_waxed_193 (by decide) rfl (by omega) (fun hz => absurd hz ((by omega))) (fun h193 => ?_)
        refine z_iload10 198 dL_waxed_196 rfl ?_
        refine z_if_lt 271 201 dL_waxed_198 (by decide) rfl (by omega) (fun hz => absurd hz ((by omega))) (fun h198 => ?_)
        refine z_iload10 203 dL_waxed_201 rfl ?_
        refine z_bipush 205 dL_waxed_203 (by decide) rfl ?_
        refine z_icmp_ge 271 208 dL_waxed_205 (by decide) rfl (by omega) (by omega) (fun hz => absurd hz ((by omega))) (fun h205 => ?_)
        refine z_aload0 209 dL_waxed_208 rfl ?_
        refine z_iload5 211 dL_waxed_209 rfl ?_
        refine z_iload10 213 dL_waxed_211 rfl ?_
        refine z_bipush 215 dL_waxed_213 (by decide) rfl ?_
        refine z_idiv 216 dL_waxed_215 (by omega) (by omega) rfl ?_
        rw [eu]
        refine z_pV2 219 dL_waxed_216 lk_L_waxed_143 (pc_may h n5.2 hr (by omega)) rfl (Nat.le_of_ble_eq_true rfl) (Nat.le_of_ble_eq_true rfl) (by assumption) rfl rfl (fun r0 sh0 I0 L0 R0 hpq => ?_)
        obtain ⟨rfl, rfl, h⟩ := pO hpq
        rw [show smy (pA S hh TS).1 r u 10 0 0 = (d : Int) from d1]
        refine z_iload9 221 dL_waxed_219 rfl ?_
        refine z_ishr 222 dL_waxed_221 rfl ?_
        refine z_iconst 223 dL_waxed_222 rfl ?_
        refine z_iand 224 dL_waxed_223 rfl ?_
        rw [ed, c1]
        refine z_iconst 225 dL_waxed_224 rfl ?_
        refine z_icmp_ne 268 228 dL_waxed_225 (by decide) rfl (by omega) (by omega) (fun hz => absurd hz ((by omega))) (fun h225 => ?_)
        refine z_aload0 229 dL_waxed_228 rfl ?_
        refine z_iload10 231 dL_waxed_229 rfl ?_
        refine z_bipush 233 dL_waxed_231 (by decide) rfl ?_
        refine z_idiv 234 dL_waxed_233 (by omega) (by omega) rfl ?_
        rw [eu]
        refine z_iload10 236 dL_waxed_234 rfl ?_
        refine z_bipush 238 dL_waxed_236 (by decide) rfl ?_
        refine z_irem 239 dL_waxed_238 (by omega) (by omega) rfl ?_
        rw [eq]
        refine z_pV2 242 dL_waxed_239 lk_L_waxed_52 (pc_wax h (by omega) (by omega) ew) rfl (Nat.le_of_ble_eq_true rfl) (Nat.le_of_ble_eq_true rfl) (by assumption) rfl rfl (fun r0 sh0 I0 L0 R0 hpq => ?_)
        obtain ⟨rfl, rfl, h⟩ := pO hpq
        refine z_if_lt 268 245 dL_waxed_242 (by decide) rfl (by omega) (fun hz => absurd hz ((by omega))) (fun h242 => ?_)
        refine z_aload0 246 dL_waxed_245 rfl ?_
        refine z_iload5 248 dL_waxed_246 rfl ?_
        refine z_pV1 251 dL_waxed_248 lk_L_waxed_130 (pc_ends h (by show zup S 1 u (q : Int) 0 6 ≤ 5; omega) (by show (r : Int) < zup S 1 u (q : Int) 0 6; omega)) rfl (Nat.le_of_ble_eq_true rfl) (Nat.le_of_ble_eq_true rfl) (by assumption) rfl rfl (fun r0 sh0 I0 L0 R0 hpq => ?_)
        obtain ⟨rfl, rfl, h⟩ := pO hpq
        rw [show sfe (zup S 1 u (q : Int), (B2, (some (S, hh), TS))).1 r = (x : Int) from q4]
        refine z_iload9 253 dL_waxed_251 rfl ?_
        refine z_icmp_ne 268 256 dL_waxed_253 (by decide) rfl (by omega) (by omega) (fun hz => absurd hz ((by omega))) (fun h253 => ?_)
        refine z_aload0 257 dL_waxed_256 rfl ?_
        refine z_pV0 260 dL_waxed_257 lk_L_waxed_120 (pc_restore h (q := (S, hh)) rfl) rfl (Nat.le_of_ble_eq_true rfl) (Nat.le_of_ble_eq_true rfl) (by assumption) rfl rfl (fun r0 sh0 I0 L0 R0 hpq => ?_)
        obtain ⟨rfl, rfl, h⟩ := pO hpq
        refine z_iconst 261 dL_waxed_260 rfl ?_
        refine z_icmp_ne 268 264 dL_waxed_261 (by decide) rfl (by omega) (by omega) (fun hz => absurd hz ((by omega))) (fun h261 => ?_)
        refine z_iconst 265 dL_waxed_264 rfl ?_
        refine z_goto 269 dL_waxed_265 (by decide) ?_
        refine z_istore7 271 dL_waxed_269 (Nat.le_of_ble_eq_true rfl) rfl rfl ?_
        refine z_iinc9 274 dL_waxed_271 (Nat.le_of_ble_eq_true rfl) rfl rfl ?_
        refine z_goto 105 dL_waxed_274 (by decide) ?_
        exact kr _ _ _ _ h
theorem lp_waxed29 {r : Nat} (hs : sh[157]? = some (20, 43)) (hw : J0 157 0 = S 0 6) (hg : gd S) (hr : (r : Int) < S 0 6) : ∀ (m t a : Nat) (z10 : zV) (I L : zI2) (R : zR2), t + m = 10 → a < 2 ^ 8 → (∀ j : Nat, (a.testBit j = true ↔ (j ≤ 7 ∧ ∃ u q : Nat, u < t ∧ q < 10 ∧ sfe (zup S 1 u (q : Int)) r = (j : Int)))) → pH sh J0 K0 Z0 I L R (pA S hh TS) → zE X mL_waxed 0 0 29 [zR 0, zS, zR 157, zL (phash (pA S hh TS)), zX, zI (r : Int), zI (sfe S r), zI 1, zI (a : Int), zI (t : Int), z10] [] sh I L R (zOp sh J0 K0 Z0 (zI 1) (pA S hh TS))
  | 0, t, a, z10, I, L, R, hm, ha2, ha, h => by
    have ht : t = 10 := by omega
    subst ht
    refine z_iload9 31 dL_waxed_29 rfl ?_
    refine z_bipush 33 dL_waxed_31 (by decide) rfl ?_
    refine z_icmp_ge 102 36 dL_waxed_33 (by decide) rfl (by omega) (by omega) (fun h33 => ?_) (fun hz => absurd hz (by omega))
    refine z_iconst 103 dL_waxed_102 rfl ?_
    refine z_istore9 105 dL_waxed_103 (Nat.le_of_ble_eq_true rfl) rfl rfl ?_
    exact lp_waxed105 hs hw hg hr ha2 ha 8 0 _ _ _ _ rfl h
  | m + 1, t, a, z10, I, L, R, hm, ha2, ha, h => by
    have s0 := h.sh0
    have n5 := hg.n5
    have hre := sfe_r S r hg.sr (by omega)
    have g1 := hg.sr.2.1 t (by omega)
    obtain ⟨d, d1, d2, d3⟩ := may_b (S := S) (t := t) hg hr (by omega)
    have eo : zor (a : Int) (d : Int) = ((a ||| d : Nat) : Int) := zb_or (by omega) (by omega)
    have kr := fun z10 I L R => lp_waxed29 hs hw hg hr m (t + 1) (a ||| d) z10 I L R (by omega) (Nat.or_lt_two_pow ha2 d2) (fun j => by
      rw [Nat.testBit_or, Bool.or_eq_true, ha j, d3 j]
      constructor
      · rintro (⟨a1, u, q, a2, a3, a4⟩ | ⟨a1, q, a3, a4⟩)
        · exact ⟨a1, u, q, by omega, a3, a4⟩
        · exact ⟨a1, t, q, by omega, a3, a4⟩
      · rintro ⟨a1, u, q, a2, a3, a4⟩
        by_cases e : u = t
        · subst e; exact Or.inr ⟨a1, q, a3, a4⟩
        · exact Or.inl ⟨a1, u, q, by omega, a3, a4⟩)
    have d256 : d < 256 := d2
    by_cases h8 : sfe S r ≤ 7
    · obtain ⟨n, hn⟩ : ∃ n : Nat, sfe S r = (n : Int) := ⟨(sfe S r).toNat, by omega⟩
      have ed : zand (zshr (d : Int) (sfe S r)) 1 = bti d n := by rw [hn]; exact zb_bit (by omega) (by omega)
      have c1 : bti d n = 1 := bti_1.mpr ((d3 n).mpr ⟨by omega, (S 1 t).toNat, by omega, by rw [Int.toNat_of_nonneg g1.1, zup_self]; exact hn⟩)
      clear ha d3
      refine z_iload9 31 dL_waxed_29 rfl ?_
      refine z_bipush 33 dL_waxed_31 (by decide) rfl ?_
      refine z_icmp_ge 102 36 dL_waxed_33 (by decide) rfl (by omega) (by omega) (fun hz => absurd hz (by omega)) (fun h33 => ?_)
      refine z_iload7 38 dL_waxed_36 rfl ?_
      refine z_if_eq 102 41 dL_waxed_38 (by decide) rfl (by omega) (fun hz => absurd hz ((by omega))) (fun h38 => ?_)
      refine z_aload0 42 dL_waxed_41 rfl ?_
      refine z_iload5 44 dL_waxed_42 rfl ?_
      refine z_iload9 46 dL_waxed_44 rfl ?_
      refine z_pV2 49 dL_waxed_46 lk_L_waxed_143 (pc_may h n5.2 hr (by omega)) rfl (Nat.le_of_ble_eq_true rfl) (Nat.le_of_ble_eq_true rfl) (by assumption) rfl rfl (fun r0 sh0 I0 L0 R0 hpq => ?_)
      obtain ⟨rfl, rfl, h⟩ := pO hpq
      rw [show smy (pA S hh TS).1 r t 10 0 0 = (d : Int) from d1]
      refine z_istore10 51 dL_waxed_49 (Nat.le_of_ble_eq_true rfl) rfl rfl ?_
      refine z_iload8 53 dL_waxed_51 rfl ?_
      refine z_iload10 55 dL_waxed_53 rfl ?_
      refine z_ior 56 dL_waxed_55 rfl ?_
      rw [eo]
      refine z_istore8 58 dL_waxed_56 (Nat.le_of_ble_eq_true rfl) rfl rfl ?_
      refine z_iload10 60 dL_waxed_58 rfl ?_
      refine z_if_lt 93 63 dL_waxed_60 (by decide) rfl (by omega) (fun hz => absurd hz (by omega)) (fun h60 => ?_)
      refine z_iload10 65 dL_waxed_63 rfl ?_
      refine z_sipush 68 dL_waxed_65 (by decide) rfl ?_
      refine z_icmp_ge 93 71 dL_waxed_68 (by decide) rfl (by omega) (by omega) (fun hz => absurd hz (by omega)) (fun h68 => ?_)
      refine z_iload6 73 dL_waxed_71 rfl ?_
      refine z_bipush 75 dL_waxed_73 (by decide) rfl ?_
      refine z_icmp_gt 89 78 dL_waxed_75 (by decide) rfl (by omega) (by omega) (fun hz => absurd hz (by omega)) (fun h75 => ?_)
      refine z_iload10 80 dL_waxed_78 rfl ?_
      refine z_iload6 82 dL_waxed_80 rfl ?_
      refine z_ishr 83 dL_waxed_82 rfl ?_
      refine z_iconst 84 dL_waxed_83 rfl ?_
      refine z_iand 85 dL_waxed_84 rfl ?_
      rw [ed, c1]
      refine z_iconst 86 dL_waxed_85 rfl ?_
      refine z_icmp_ne 93 89 dL_waxed_86 (by decide) rfl (by omega) (by omega) (fun hz => absurd hz ((by omega))) (fun h86 => ?_)
      refine z_iconst 90 dL_waxed_89 rfl ?_
      refine z_goto 94 dL_waxed_90 (by decide) ?_
      refine z_istore7 96 dL_waxed_94 (Nat.le_of_ble_eq_true rfl) rfl rfl ?_
      refine z_iinc9 99 dL_waxed_96 (Nat.le_of_ble_eq_true rfl) rfl rfl ?_
      refine z_goto 29 dL_waxed_99 (by decide) ?_
      exact kr _ _ _ _ h
    · clear ha d3
      refine z_iload9 31 dL_waxed_29 rfl ?_
      refine z_bipush 33 dL_waxed_31 (by decide) rfl ?_
      refine z_icmp_ge 102 36 dL_waxed_33 (by decide) rfl (by omega) (by omega) (fun hz => absurd hz (by omega)) (fun h33 => ?_)
      refine z_iload7 38 dL_waxed_36 rfl ?_
      refine z_if_eq 102 41 dL_waxed_38 (by decide) rfl (by omega) (fun hz => absurd hz ((by omega))) (fun h38 => ?_)
      refine z_aload0 42 dL_waxed_41 rfl ?_
      refine z_iload5 44 dL_waxed_42 rfl ?_
      refine z_iload9 46 dL_waxed_44 rfl ?_
      refine z_pV2 49 dL_waxed_46 lk_L_waxed_143 (pc_may h n5.2 hr (by omega)) rfl (Nat.le_of_ble_eq_true rfl) (Nat.le_of_ble_eq_true rfl) (by assumption) rfl rfl (fun r0 sh0 I0 L0 R0 hpq => ?_)
      obtain ⟨rfl, rfl, h⟩ := pO hpq
      rw [show smy (pA S hh TS).1 r t 10 0 0 = (d : Int) from d1]
      refine z_istore10 51 dL_waxed_49 (Nat.le_of_ble_eq_true rfl) rfl rfl ?_
      refine z_iload8 53 dL_waxed_51 rfl ?_
      refine z_iload10 55 dL_waxed_53 rfl ?_
      refine z_ior 56 dL_waxed_55 rfl ?_
      rw [eo]
      refine z_istore8 58 dL_waxed_56 (Nat.le_of_ble_eq_true rfl) rfl rfl ?_
      refine z_iload10 60 dL_waxed_58 rfl ?_
      refine z_if_lt 93 63 dL_waxed_60 (by decide) rfl (by omega) (fun hz => absurd hz (by omega)) (fun h60 => ?_)
      refine z_iload10 65 dL_waxed_63 rfl ?_
      refine z_sipush 68 dL_waxed_65 (by decide) rfl ?_
      refine z_icmp_ge 93 71 dL_waxed_68 (by decide) rfl (by omega) (by omega) (fun hz => absurd hz (by omega)) (fun h68 => ?_)
      refine z_iload6 73 dL_waxed_71 rfl ?_
      refine z_bipush 75 dL_waxed_73 (by decide) rfl ?_
      refine z_icmp_gt 89 78 dL_waxed_75 (by decide) rfl (by omega) (by omega) (fun h75 => ?_) (fun hz => absurd hz (by omega))
      refine z_iconst 90 dL_waxed_89 rfl ?_
      refine z_goto 94 dL_waxed_90 (by decide) ?_
      refine z_istore7 96 dL_waxed_94 (Nat.le_of_ble_eq_true rfl) rfl rfl ?_
      refine z_iinc9 99 dL_waxed_96 (Nat.le_of_ble_eq_true rfl) rfl rfl ?_
      refine z_goto 29 dL_waxed_99 (by decide) ?_
      exact kr _ _ _ _ h
theorem ct_L_waxed {I L : zI2} {R : zR2} (hX : X.1 ≤ 260) (hj : ∀ j, -2147483648 ≤ X.2 j ∧ X.2 j ≤ 2147483647) (hs : sh[157]? = some (20, 43)) (hw : J0 157 0 = S 0 6) (hg : gd S) (h : pH sh J0 K0 Z0 I L R (pA S hh TS)) : zE X mL_waxed 0 0 0 [zR 0, zS, zR 157, zL (phash (pA S hh TS)), zX, zX, zX, zX, zX, zX, zX] [] sh I L R (zOp sh J0 K0 Z0 (zI 1) (pA S hh TS)) := by
  have s0 := h.sh0
  have n5 := hg.n5
  have hc := pcl_r X 13
  have hm0 := Int.emod_nonneg (pcl X 13) (show S 0 6 ≠ 0 by omega)
  have hm1 := Int.emod_lt_of_pos (pcl X 13) (show 0 < S 0 6 by omega)
  obtain ⟨r, hrn⟩ : ∃ r : Nat, pcl X 13 % S 0 6 = (r : Int) := ⟨(pcl X 13 % S 0 6).toNat, by omega⟩
  have hr : (r : Int) < S 0 6 := by omega
  refine z_aloadS1 1 dL_waxed_0 rfl ?_
  refine z_bipush 3 dL_waxed_1 (by decide) rfl ?_
  refine z_xS2 6 dL_waxed_3 lk_L_waxed_15 (ct_L_cell (i := 13) hX hj (by omega)) rfl (Nat.le_of_ble_eq_true rfl) (Nat.le_of_ble_eq_true rfl) rfl ?_
  refine z_aload2 7 dL_waxed_6 rfl ?_
  refine z_iconst 8 dL_waxed_7 rfl ?_
  refine z_ialdx 9 (0) dL_waxed_8 (by assumption) (by omega) (by omega) ((congrFun (h.2 157 (by decide)).1 0).trans hw) rfl ?_
  refine z_irem 10 dL_waxed_9 (by omega) (by omega) rfl ?_
  rw [hrn]
  refine z_istore5 12 dL_waxed_10 (Nat.le_of_ble_eq_true rfl) rfl rfl ?_
  refine z_aload0 13 dL_waxed_12 rfl ?_
  refine z_iload5 15 dL_waxed_13 rfl ?_
  refine z_pV1 18 dL_waxed_15 lk_L_waxed_130 (pc_ends h n5.2 hr) rfl (Nat.le_of_ble_eq_true rfl) (Nat.le_of_ble_eq_true rfl) (by assumption) rfl rfl (fun r0 sh0 I0 L0 R0 hpq => ?_)
  obtain ⟨rfl, rfl, h⟩ := pO hpq
  show zE X mL_waxed 0 0 18 _ [zI (sfe S r)] sh _ _ _ _
  refine z_istore6 20 dL_waxed_18 (Nat.le_of_ble_eq_true rfl) rfl rfl ?_
  refine z_iconst 21 dL_waxed_20 rfl ?_
  refine z_istore7 23 dL_waxed_21 (Nat.le_of_ble_eq_true rfl) rfl rfl ?_
  refine z_iconst 24 dL_waxed_23 rfl ?_
  refine z_istore8 26 dL_waxed_24 (Nat.le_of_ble_eq_true rfl) rfl rfl ?_
  refine z_iconst 27 dL_waxed_26 rfl ?_
  refine z_istore9 29 dL_waxed_27 (Nat.le_of_ble_eq_true rfl) rfl rfl ?_
  exact lp_waxed29 hs hw hg hr 10 0 0 _ _ _ _ rfl (by decide) (fun j => by rw [Nat.zero_testBit]; constructor; (intro z; cases z); (rintro ⟨_, u, q, b, _⟩; omega)) h
end WAXED
