/-! ===== the law's own body ===== -/
theorem z_qS3 {X : zXs} {M M' : zM} {pc K Wd : Nat} {ls : List zV} {sh : zH} {I L : zI2} {R : zR2} {Q Q' : zQ} (nx k w k' w' : Nat) {idx : Nat} {a1 a2 a3 : zV} {rest ls' : List zV} (hd : decode (zmc M) pc = .ok (.invokestatic idx, 3)) (hL : zSL M idx M' 3) (hk : k + k' = K) (hw : w + w' = Wd) (hcal : zE X M' k' w' 0 ls' [] sh I L R Q') (hent : zent (zml M') [a1, a2, a3] = ls') (hwd : zwords [a1, a2, a3] ≤ zml M') (hrest : zwords rest ≤ 8) (hn : pc + 3 = nx) (kk : ∀ (r0 : List zV) (sh0 : zH) (I0 L0 : zI2) (R0 : zR2), Q' r0 sh0 I0 L0 R0 → zE X M k w nx ls (r0 ++ rest) sh0 I0 L0 R0 Q) : zE X M K Wd pc ls (a3 :: a2 :: a1 :: rest) sh I L R Q := by
  subst hk; subst hw
  exact z_invS (k := k) (w := w) nx (as := [a1, a2, a3]) (rest := rest) hd hL hcal hent hwd rfl rfl hrest hn kk
/-- the law, by whatever name: no step of it asks for its name -/
def mLn (nm : String) : zM := (RL, ⟨RL, nm, "([I)Z"⟩, cL_law, 12, some .boolean, 8, 199)
theorem zVL_n {nm : String} {idx n : Nat} {M' : zM} (h : zVL mL_law idx M' n) : zVL (mLn nm) idx M' n := h
theorem zIL_n {nm : String} {idx n : Nat} {M' : zM} (h : zIL mL_law idx M' n) : zIL (mLn nm) idx M' n := h
theorem zSL_n {nm : String} {idx n : Nat} {M' : zM} (h : zSL mL_law idx M' n) : zSL (mLn nm) idx M' n := h
/-! drifts, one behind another, and undone -/
def sdq_ (s : zT) : Nat → zT
  | 0 => s
  | i + 1 => sdo (sdq_ s i)
theorem sdo_o (S : zT) {a : Nat} (h0 : a ≠ 0) (h1 : a ≠ 1) (h6 : a ≠ 6) : sdo S a = S a := by
  have hA : sdoA S a = S a := zup_row _ _ h0
  unfold sdo sdoC
  rw [zup_row _ _ h1]
  unfold sdoB
  split
  · split
    · rw [send_2 _ _ h0 h1 h6, hA]
    · rw [zup_row _ _ h6, hA]
  · exact hA
theorem sdq_o (s : zT) {a : Nat} (h0 : a ≠ 0) (h1 : a ≠ 1) (h6 : a ≠ 6) : ∀ i, sdq_ s i a = s a
  | 0 => rfl
  | i + 1 => by
    unfold sdq_
    rw [sdo_o _ h0 h1 h6, sdq_o s h0 h1 h6 i]
theorem sdq_06 (s : zT) : ∀ i, sdq_ s i 0 6 = s 0 6
  | 0 => rfl
  | i + 1 => by
    unfold sdq_
    rw [sdo_06, sdq_06 s i]
theorem sdq_gd {s : zT} (hg : gd s) (h7 : s 0 7 ≤ 200) : ∀ i, i ≤ 100 → gd (sdq_ s i) ∧ sdq_ s i 0 7 ≤ 200 + i
  | 0, _ => ⟨hg, by show s 0 7 ≤ _; omega⟩
  | i + 1, hi => by
    obtain ⟨h1, h2⟩ := sdq_gd hg h7 i (by omega)
    have := psdo_07 (sdq_ s i)
    exact ⟨gd_sdo h1 (by omega), by show sdo (sdq_ s i) 0 7 ≤ _; omega⟩
/-- what may be undone, i drifts on: the last eight of all -/
def hst_ (hh : List zT) (s : zT) (i : Nat) : List zT := (hh ++ (List.range i).map (sdq_ s)).drop (hh.length + i - 8)
theorem hst_0 {hh : List zT} (s : zT) (h : hh.length ≤ 8) : hst_ hh s 0 = hh := by
  unfold hst_
  rw [show hh.length + 0 - 8 = 0 by omega]
  show List.drop 0 (hh ++ []) = hh
  rw [List.append_nil]
  rfl
theorem hst_s (hh : List zT) (s : zT) (i : Nat) : (if (hst_ hh s i).length = 8 then (hst_ hh s i).drop 1 else hst_ hh s i) ++ [sdq_ s i] = hst_ hh s (i + 1) := by
  have hl : (hh ++ (List.range i).map (sdq_ s)).length = hh.length + i := by rw [List.length_append, List.length_map, List.length_range]
  have hlen : (hst_ hh s i).length = hh.length + i - (hh.length + i - 8) := by unfold hst_; rw [List.length_drop, hl]
  have e1 : hst_ hh s (i + 1) = ((hh ++ (List.range i).map (sdq_ s)) ++ [sdq_ s i]).drop (hh.length + (i + 1) - 8) := by
    unfold hst_
    rw [List.range_succ, List.map_append, ← List.append_assoc]
    rfl
  rw [e1]
  by_cases h8 : 8 ≤ hh.length + i
  · rw [if_pos (by omega), List.drop_append_of_le_length (by omega)]
    unfold hst_
    rw [List.drop_drop]
    congr 2
    omega
  · rw [if_neg (by omega)]
    unfold hst_
    rw [show hh.length + i - 8 = 0 by omega, show hh.length + (i + 1) - 8 = 0 by omega]
    rfl
theorem hst_8 (hh : List zT) (s : zT) : hst_ hh s 8 = (List.range 8).map (sdq_ s) := by
  unfold hst_
  rw [show hh.length + 8 - 8 = hh.length by omega, List.drop_left]
theorem odri_s (hh : List zT) (s : zT) (K : Option (zT × List zT) × (List Int × (Nat → Int × (Int × (Nat → Int))))) : ∀ (m i : Nat), odri m (sdq_ s i, (hst_ hh s i, K)) = (sdq_ s (i + m), (hst_ hh s (i + m), K))
  | 0, i => rfl
  | m + 1, i => by
    have e : (sdo (sdq_ s i, (hst_ hh s i, K)).1, (oPush (sdq_ s i, (hst_ hh s i, K))).2) = (sdq_ s (i + 1), (hst_ hh s (i + 1), K)) := by
      show (sdo (sdq_ s i), ((if (hst_ hh s i).length = 8 then (hst_ hh s i).drop 1 else hst_ hh s i) ++ [sdq_ s i], K)) = _
      rw [hst_s]
      rfl
    unfold odri
    rw [e, odri_s hh s K m (i + 1), show i + 1 + m = i + (m + 1) by omega]
theorem oDrift_8 {hh : List zT} {s : zT} {K : Option (zT × List zT) × (List Int × (Nat → Int × (Int × (Nat → Int))))} (hh8 : hh.length ≤ 8) (h7 : s 0 7 ≤ 200) : oDrift (s, (hh, K)) 8 = (sthr (sdq_ s 8), (sdq_ s 8, ((List.range 8).map (sdq_ s), K))) := by
  have e := odri_s hh s K 8 0
  rw [hst_0 s hh8, show 0 + 8 = 8 by omega, hst_8] at e
  unfold oDrift
  rw [if_pos (by omega), if_neg (by show ¬ 9999 < s 0 7 + 8; omega), show (8 : Int).toNat = 8 by decide]
  show (sthr (odri 8 (sdq_ s 0, (hh, K))).1, odri 8 (sdq_ s 0, (hh, K))) = _
  rw [e]
theorem oUndo_s (s T : zT) (K : Option (zT × List zT) × (List Int × (Nat → Int × (Int × (Nat → Int))))) (j : Nat) : oUndo (T, ((List.range (j + 1)).map (sdq_ s), K)) = ((j : Int), (sgb (sdq_ s j) T, ((List.range j).map (sdq_ s), K))) := by
  have e : (List.range (j + 1)).map (sdq_ s) = (List.range j).map (sdq_ s) ++ [sdq_ s j] := by rw [List.range_succ, List.map_append]; rfl
  unfold oUndo
  show (match ((List.range (j + 1)).map (sdq_ s)).getLast? with
    | none => _
    | some q => ((((List.range (j + 1)).map (sdq_ s)).length : Int) - 1, (sgb q T, (((List.range (j + 1)).map (sdq_ s)).dropLast, K)))) = _
  rw [e, List.getLast?_concat, List.dropLast_concat, List.length_append, List.length_map, List.length_range]
  show (((j + 1 : Nat) : Int) - 1, (sgb (sdq_ s j) T, ((List.range j).map (sdq_ s), K))) = _
  congr 1
  omega
theorem psgb_q {P S : zT} (h6 : S 0 6 = P 0 6) (h5 : P 0 6 ≤ 5) (h3 : S 3 = P 3) (h4 : S 4 = P 4) (h5' : S 5 = P 5) : zQe (sgb P S) P := by
  refine ⟨⟨by rw [sgb_06]; exact h6, sgb_07 P S, sgb_08 P S⟩, fun t ht => ⟨sgb_1 P S ht, sgb_2 P S ht⟩, fun r hr => ?_⟩
  rw [sgb_06, h6] at hr
  rw [sgb_k P S (Or.inl rfl), sgb_k P S (Or.inr (Or.inl rfl)), sgb_k P S (Or.inr (Or.inr rfl)), h3, h4, h5']
  exact ⟨rfl, rfl, rfl, sgb_6 P S (by omega)⟩
theorem phash_B (T : zT) (B B' : List zT × (Option (zT × List zT) × (List Int × (Nat → Int × (Int × (Nat → Int)))))) : phash (T, B) = phash (T, B') := by
  have := phash_d T (T 0 8) B B'
  rw [zup_self] at this
  exact this
theorem pH_hh {sh : zH} {J K I L : zI2} {Z R : zR2} {A : zA} (h : pH sh J K Z I L R A) : A.2.1.length ≤ 8 := by
  obtain ⟨⟨P, hc⟩, _⟩ := h
  exact hc.2.2.2.1.2.1
section LAW
variable {X : zXs} {nm : String} {sh : zH} {S : zT} {hh : List zT}
abbrev lEnd : zQ := fun r' _ _ _ _ => r' = [zI 1]
theorem lp_law302 {TS : List Int × (Nat → Int × (Int × (Nat → Int)))} {s : zT} {x y : Int} {u v : Int} (hs : sh[157]? = some (20, 43)) (hgs : gd s) (h6 : s 0 6 = S 0 6) (h7 : s 0 7 ≤ 200)
    (kk : ∀ (J K : zI2) (Z : zR2) (I L : zI2) (R : zR2), J 157 0 = S 0 6 → pH sh J K Z I L R (s, ([], (some (S, hh), TS))) → zE X (mLn nm) 0 0 337 [zS, zR 0, zR 157, zI 1, zL x, zX, zI u, zI (hh.length : Int), zI v, zL y, zX, zI 8] [] sh I L R lEnd) : ∀ (m k : Nat) (J K : zI2) (Z : zR2) (I L : zI2) (R : zR2), k + m = 8 → J 157 0 = S 0 6 → pH sh J K Z I L R (sdq_ s m, ((List.range m).map (sdq_ s), (some (S, hh), TS))) → zE X (mLn nm) 0 0 302 [zS, zR 0, zR 157, zI 1, zL x, zX, zI u, zI (hh.length : Int), zI v, zL y, zX, zI (k : Int)] [] sh I L R lEnd
  | 0, k, J, K, Z, I, L, R, hm, hw, h => by
    have hk : k = 8 := by omega
    subst hk
    refine z_iload11 304 dL_law_302 rfl ?_
    refine z_bipush 306 dL_law_304 (by decide) rfl ?_
    refine z_icmp_ge 337 309 dL_law_306 (by decide) rfl (by omega) (by omega) (fun h306 => ?_) (fun hz => absurd hz (by omega))
    exact kk _ _ _ _ _ _ hw h
  | m + 1, k, J, K, Z, I, L, R, hm, hw, h => by
    have s0 := h.sh0
    have hgm := (sdq_gd hgs h7 m (by omega)).1
    have n5 := hgm.n5
    have e := oUndo_s s (sdq_ s (m + 1)) (some (S, hh), TS) m
    have hA : ∀ q ∈ (sdq_ s (m + 1), ((List.range (m + 1)).map (sdq_ s), (some (S, hh), TS))).2.1, q 0 6 = (sdq_ s (m + 1), ((List.range (m + 1)).map (sdq_ s), (some (S, hh), TS))).1 0 6 := fun q hq => by
      obtain ⟨i, _, hi⟩ := List.mem_map.mp hq
      show q 0 6 = sdq_ s (m + 1) 0 6
      rw [← hi, sdq_06, sdq_06]
    have eq := psgb_q (P := sdq_ s m) (S := sdq_ s (m + 1)) (by rw [sdq_06, sdq_06]) n5.2 (by rw [sdq_o s (by decide) (by decide) (by decide), sdq_o s (by decide) (by decide) (by decide)]) (by rw [sdq_o s (by decide) (by decide) (by decide), sdq_o s (by decide) (by decide) (by decide)]) (by rw [sdq_o s (by decide) (by decide) (by decide), sdq_o s (by decide) (by decide) (by decide)])
    have kr := fun J K Z I L R => lp_law302 hs hgs h6 h7 kk m (k + 1) J K Z I L R (by omega)
    refine z_iload11 304 dL_law_302 rfl ?_
    refine z_bipush 306 dL_law_304 (by decide) rfl ?_
    refine z_icmp_ge 337 309 dL_law_306 (by decide) rfl (by omega) (by omega) (fun hz => absurd hz (by omega)) (fun h306 => ?_)
    refine z_iload3 310 dL_law_309 rfl ?_
    refine z_if_eq 337 313 dL_law_310 (by decide) rfl (by omega) (fun hz => absurd hz ((by omega))) (fun h310 => ?_)
    refine z_aload1 314 dL_law_313 rfl ?_
    refine z_pV0 317 dL_law_314 (zVL_n lk_L_law_117) (pc_undo h hA e) rfl (Nat.le_of_ble_eq_true rfl) (Nat.le_of_ble_eq_true rfl) (by assumption) rfl rfl (fun r0 sh0 I0 L0 R0 hpq => ?_)
    obtain ⟨rfl, rfl, h⟩ := pO hpq
    refine z_bipush 319 dL_law_317 (by decide) rfl ?_
    refine z_iload11 321 dL_law_319 rfl ?_
    refine z_isub 322 dL_law_321 rfl ?_
    refine z_icmp_ne 329 325 dL_law_322 (by decide) rfl (by omega) (by omega) (fun hz => absurd hz ((by omega))) (fun h322 => ?_)
    refine z_iconst 326 dL_law_325 rfl ?_
    refine z_goto 330 dL_law_326 (by decide) ?_
    refine z_istore3 331 dL_law_330 (Nat.le_of_ble_eq_true rfl) rfl rfl ?_
    refine z_iinc11 334 dL_law_331 (Nat.le_of_ble_eq_true rfl) rfl rfl ?_
    refine z_goto 302 dL_law_334 (by decide) ?_
    exact kr _ _ _ _ _ _ hw (pH.q eq h)
theorem tl_law337 {TS : List Int × (Nat → Int × (Int × (Nat → Int)))} {s : zT} {d : Int} (hs : sh[157]? = some (20, 43)) (hg : gd S) (h7 : S 0 7 ≤ 100) (hes : s = zup S 0 8 d) (hgs : gd s) {J K : zI2} {Z : zR2} {I L : zI2} {R : zR2} (hw : J 157 0 = S 0 6) (h : pH sh J K Z I L R (s, ([], (some (S, hh), TS)))) (hh8 : hh.length ≤ 8) {D : List zT × (Option (zT × List zT) × (List Int × (Nat → Int × (Int × (Nat → Int)))))} : zE X (mLn nm) 0 0 337 [zS, zR 0, zR 157, zI 1, zL (phash (pA S hh TS)), zX, zI d, zI (hh.length : Int), zI (sthr (sdq_ s 8)), zL (phash (sdq_ s 8, D)), zX, zI 8] [] sh I L R lEnd := by
  have s0 := h.sh0
  have e6 : s 0 6 = S 0 6 := by rw [hes]; exact zup_ne _ _ (by omega)
  have e7 : s 0 7 = S 0 7 := by rw [hes]; exact zup_ne _ _ (by omega)
  have p1 : phash (s, (([] : List zT), (some (S, hh), TS))) = phash (pA S hh TS) := by rw [hes]; exact phash_d S d _ _
  have eu : oUndo (s, (([] : List zT), (some (S, hh), TS))) = (-4, (s, (([] : List zT), (some (S, hh), TS)))) := rfl
  have ed := oDrift_8 (hh := []) (s := s) (K := (some (S, hh), TS)) (by show 0 ≤ 8; omega) (by omega)
  have hg8 := (sdq_gd hgs (by omega) 8 (by omega)).1
  have e86 : sdq_ s 8 0 6 = S 0 6 := (sdq_06 s 8).trans e6
  have p2 : phash (sdq_ s 8, ((List.range 8).map (sdq_ s), (some (S, hh), TS))) = phash (sdq_ s 8, D) := phash_B _ _ _
  have hst := zst_r (P := fun r => 0 ≤ sdq_ s 8 6 r ∧ sdq_ s 8 6 r ≤ 7) (sdq_ s 8 0 6).toNat 0 0 (by omega)
  have hst : -2147483648 ≤ sthr (sdq_ s 8) ∧ sthr (sdq_ s 8) ≤ 2147483647 := hst
  refine z_iload3 338 dL_law_337 rfl ?_
  refine z_if_eq 387 341 dL_law_338 (by decide) rfl (by omega) (fun hz => absurd hz ((by omega))) (fun h338 => ?_)
  refine z_aload1 342 dL_law_341 rfl ?_
  refine z_aload2 343 dL_law_342 rfl ?_
  refine z_pS2 346 dL_law_343 (zSL_n lk_L_law_87) (ct_L_hash hs (hw.trans e6.symm) hgs h) rfl (Nat.le_of_ble_eq_true rfl) (Nat.le_of_ble_eq_true rfl) rfl (fun r0 sh0 I0 L0 R0 hpq => ?_)
  obtain ⟨rfl, rfl, h⟩ := pO hpq
  refine z_lload4 348 dL_law_346 rfl ?_
  rw [p1]
  refine z_lcmpS 349 dL_law_348 rfl ?_
  refine z_if_ne 387 352 dL_law_349 (by decide) rfl (by omega) (fun hz => absurd hz (by omega)) (fun h349 => ?_)
  refine z_aload1 353 dL_law_352 rfl ?_
  refine z_pV0 356 dL_law_353 (zVL_n lk_L_law_117) (pc_undo h (fun q hq => by cases hq) eu) rfl (Nat.le_of_ble_eq_true rfl) (Nat.le_of_ble_eq_true rfl) (by assumption) rfl rfl (fun r0 sh0 I0 L0 R0 hpq => ?_)
  obtain ⟨rfl, rfl, h⟩ := pO hpq
  refine z_bipush 358 dL_law_356 (by decide) rfl ?_
  refine z_icmp_ne 387 361 dL_law_358 (by decide) rfl (by omega) (by omega) (fun hz => absurd hz ((by omega))) (fun h358 => ?_)
  refine z_aload1 362 dL_law_361 rfl ?_
  refine z_bipush 364 dL_law_362 (by decide) rfl ?_
  refine z_pV1 367 dL_law_364 (zVL_n lk_L_law_114) (pc_drift h (by omega) ed) rfl (Nat.le_of_ble_eq_true rfl) (Nat.le_of_ble_eq_true rfl) (by assumption) rfl rfl (fun r0 sh0 I0 L0 R0 hpq => ?_)
  obtain ⟨rfl, rfl, h⟩ := pO hpq
  refine z_iload8 369 dL_law_367 rfl ?_
  refine z_icmp_ne 387 372 dL_law_369 (by decide) rfl (by omega) (by omega) (fun hz => absurd hz ((by omega))) (fun h369 => ?_)
  refine z_aload1 373 dL_law_372 rfl ?_
  refine z_aload2 374 dL_law_373 rfl ?_
  refine z_pS2 377 dL_law_374 (zSL_n lk_L_law_87) (ct_L_hash hs (hw.trans e86.symm) hg8 h) rfl (Nat.le_of_ble_eq_true rfl) (Nat.le_of_ble_eq_true rfl) rfl (fun r0 sh0 I0 L0 R0 hpq => ?_)
  obtain ⟨rfl, rfl, h⟩ := pO hpq
  refine z_lload9 379 dL_law_377 rfl ?_
  rw [p2]
  refine z_lcmpS 380 dL_law_379 rfl ?_
  refine z_if_ne 387 383 dL_law_380 (by decide) rfl (by omega) (fun hz => absurd hz (by omega)) (fun h380 => ?_)
  refine z_iconst 384 dL_law_383 rfl ?_
  refine z_goto 388 dL_law_384 (by decide) ?_
  refine z_istore3 389 dL_law_388 (Nat.le_of_ble_eq_true rfl) rfl rfl ?_
  refine z_iload3 390 dL_law_389 rfl ?_
  refine z_if_eq 427 393 dL_law_390 (by decide) rfl (by omega) (fun hz => absurd hz ((by omega))) (fun h390 => ?_)
  refine z_aload1 394 dL_law_393 rfl ?_
  refine z_pV0 397 dL_law_394 (zVL_n lk_L_law_120) (pc_restore h (q := (S, hh)) rfl) rfl (Nat.le_of_ble_eq_true rfl) (Nat.le_of_ble_eq_true rfl) (by assumption) rfl rfl (fun r0 sh0 I0 L0 R0 hpq => ?_)
  obtain ⟨rfl, rfl, h⟩ := pO hpq
  refine z_iconst 398 dL_law_397 rfl ?_
  refine z_icmp_ne 427 401 dL_law_398 (by decide) rfl (by omega) (by omega) (fun hz => absurd hz ((by omega))) (fun h398 => ?_)
  refine z_aload1 402 dL_law_401 rfl ?_
  refine z_bipush 404 dL_law_402 (by decide) rfl ?_
  refine z_pV1 407 dL_law_404 (zVL_n lk_L_law_59) (pc_count7 h) rfl (Nat.le_of_ble_eq_true rfl) (Nat.le_of_ble_eq_true rfl) (by assumption) rfl rfl (fun r0 sh0 I0 L0 R0 hpq => ?_)
  obtain ⟨rfl, rfl, h⟩ := pO hpq
  show zE X (mLn nm) 0 0 407 _ [zI (hh.length : Int)] sh _ _ _ _
  refine z_iload7 409 dL_law_407 rfl ?_
  refine z_icmp_ne 427 412 dL_law_409 (by decide) rfl (by omega) (by omega) (fun hz => absurd hz ((by omega))) (fun h409 => ?_)
  refine z_aload1 413 dL_law_412 rfl ?_
  refine z_aload2 414 dL_law_413 rfl ?_
  refine z_pS2 417 dL_law_414 (zSL_n lk_L_law_87) (ct_L_hash hs hw hg h) rfl (Nat.le_of_ble_eq_true rfl) (Nat.le_of_ble_eq_true rfl) rfl (fun r0 sh0 I0 L0 R0 hpq => ?_)
  obtain ⟨rfl, rfl, h⟩ := pO hpq
  refine z_lload4 419 dL_law_417 rfl ?_
  refine z_lcmpS 420 dL_law_419 rfl ?_
  refine z_if_ne 427 423 dL_law_420 (by decide) rfl (by omega) (fun hz => absurd hz (by omega)) (fun h420 => ?_)
  refine z_iconst 424 dL_law_423 rfl ?_
  refine z_goto 428 dL_law_424 (by decide) ?_
  exact z_zreturn dL_law_428 rfl (by omega) (rfl)
theorem tl_law197 {TS TS0 : List Int × (Nat → Int × (Int × (Nat → Int)))} {z6 z7 z8 z9 z10 z11 : zV} (hX : X.1 ≤ 260) (hj : ∀ j, -2147483648 ≤ X.2 j ∧ X.2 j ≤ 2147483647) (hs : sh[157]? = some (20, 43)) (hg : gd S) (h7 : S 0 7 ≤ 100) {J K : zI2} {Z : zR2} {I L : zI2} {R : zR2} (hw : J 157 0 = S 0 6) (h : pH sh J K Z I L R (pA S hh TS)) (hp : phash (pA S hh TS0) = phash (pA S hh TS)) : zE X (mLn nm) 0 0 197 [zS, zR 0, zR 157, zI 1, zL (phash (pA S hh TS0)), zX, z6, z7, z8, z9, z10, z11] [] sh I L R lEnd := by
  have s0 := h.sh0
  have hh8 : hh.length ≤ 8 := pH_hh h
  have hd := pcl_r X 18
  have hg8 := hg.1.2.2
  have hgs := gd_d hg hd
  have e6 : zup S 0 8 (pcl X 18) 0 6 = S 0 6 := zup_ne _ _ (by omega)
  have e7 : zup S 0 8 (pcl X 18) 0 7 = S 0 7 := zup_ne _ _ (by omega)
  have ed := oDrift_8 (hh := hh) (s := zup S 0 8 (pcl X 18)) (K := (some (S, hh), TS)) hh8 (by omega)
  have hg88 := (sdq_gd hgs (by omega) 8 (by omega)).1
  have e86 : sdq_ (zup S 0 8 (pcl X 18)) 8 0 6 = S 0 6 := (sdq_06 _ 8).trans e6
  have hst : -2147483648 ≤ sthr (sdq_ (zup S 0 8 (pcl X 18)) 8) ∧ sthr (sdq_ (zup S 0 8 (pcl X 18)) 8) ≤ 2147483647 := zst_r _ _ _ (by omega)
  rw [hp]
  have k2 := fun J K Z I L R hw h => tl_law337 (X := X) (nm := nm) (sh := sh) (S := S) (hh := hh) (TS := TS) (D := ((List.range 8).map (sdq_ (zup S 0 8 (pcl X 18))), (some (S, hh), TS))) hs hg h7 rfl hgs (J := J) (K := K) (Z := Z) (I := I) (L := L) (R := R) hw h hh8
  have k1 := lp_law302 (X := X) (nm := nm) (sh := sh) (S := S) (hh := hh) (TS := TS) hs hgs e6 (by omega) k2 8 0
  generalize hsd : zup S 0 8 (pcl X 18) = s at *
  refine z_aloadS0 198 dL_law_197 rfl ?_
  refine z_bipush 200 dL_law_198 (by decide) rfl ?_
  refine z_xS2 203 dL_law_200 (zSL_n lk_L_law_15) (ct_L_cell (i := 18) hX hj (by omega)) rfl (Nat.le_of_ble_eq_true rfl) (Nat.le_of_ble_eq_true rfl) rfl ?_
  refine z_istore6 205 dL_law_203 (Nat.le_of_ble_eq_true rfl) rfl rfl ?_
  refine z_iload3 206 dL_law_205 rfl ?_
  refine z_if_eq 218 209 dL_law_206 (by decide) rfl (by omega) (fun hz => absurd hz ((by omega))) (fun h206 => ?_)
  refine z_aload1 210 dL_law_209 rfl ?_
  refine z_bipush 212 dL_law_210 (by decide) rfl ?_
  refine z_pV1 215 dL_law_212 (zVL_n lk_L_law_59) (pc_count7 h) rfl (Nat.le_of_ble_eq_true rfl) (Nat.le_of_ble_eq_true rfl) (by assumption) rfl rfl (fun r0 sh0 I0 L0 R0 hpq => ?_)
  obtain ⟨rfl, rfl, h⟩ := pO hpq
  show zE X (mLn nm) 0 0 215 _ [zI (hh.length : Int)] sh _ _ _ _
  refine z_goto 219 dL_law_215 (by decide) ?_
  refine z_istore7 221 dL_law_219 (Nat.le_of_ble_eq_true rfl) rfl rfl ?_
  refine z_iload3 222 dL_law_221 rfl ?_
  refine z_if_eq 238 225 dL_law_222 (by decide) rfl (by omega) (fun hz => absurd hz ((by omega))) (fun h222 => ?_)
  refine z_aload1 226 dL_law_225 rfl ?_
  refine z_iload6 228 dL_law_226 rfl ?_
  refine z_pV1 231 dL_law_228 (zVL_n lk_L_law_111) (pc_seed h (by omega)) rfl (Nat.le_of_ble_eq_true rfl) (Nat.le_of_ble_eq_true rfl) (by assumption) rfl rfl (fun r0 sh0 I0 L0 R0 hpq => ?_)
  obtain ⟨rfl, rfl, h⟩ := pO hpq
  show zE X (mLn nm) 0 0 231 _ [zI (S 0 8)] sh _ _ _ _
  have h : pH sh J K Z I0 L0 R0 (s, (hh, (some (S, hh), TS))) := by rw [← hsd]; exact h
  refine z_if_lt 238 234 dL_law_231 (by decide) rfl (by omega) (fun hz => absurd hz (by omega)) (fun h231 => ?_)
  refine z_iconst 235 dL_law_234 rfl ?_
  refine z_goto 239 dL_law_235 (by decide) ?_
  refine z_istore3 240 dL_law_239 (Nat.le_of_ble_eq_true rfl) rfl rfl ?_
  refine z_iload3 241 dL_law_240 rfl ?_
  refine z_if_eq 253 244 dL_law_241 (by decide) rfl (by omega) (fun hz => absurd hz ((by omega))) (fun h241 => ?_)
  refine z_aload1 245 dL_law_244 rfl ?_
  refine z_bipush 247 dL_law_245 (by decide) rfl ?_
  refine z_pV1 250 dL_law_247 (zVL_n lk_L_law_114) (pc_drift h (by omega) ed) rfl (Nat.le_of_ble_eq_true rfl) (Nat.le_of_ble_eq_true rfl) (by assumption) rfl rfl (fun r0 sh0 I0 L0 R0 hpq => ?_)
  obtain ⟨rfl, rfl, h⟩ := pO hpq
  refine z_goto 254 dL_law_250 (by decide) ?_
  refine z_istore8 256 dL_law_254 (Nat.le_of_ble_eq_true rfl) rfl rfl ?_
  refine z_iload3 257 dL_law_256 rfl ?_
  refine z_if_eq 268 260 dL_law_257 (by decide) rfl (by omega) (fun hz => absurd hz ((by omega))) (fun h257 => ?_)
  refine z_aload1 261 dL_law_260 rfl ?_
  refine z_aload2 262 dL_law_261 rfl ?_
  refine z_pS2 265 dL_law_262 (zSL_n lk_L_law_87) (ct_L_hash hs (hw.trans e86.symm) hg88 h) rfl (Nat.le_of_ble_eq_true rfl) (Nat.le_of_ble_eq_true rfl) rfl (fun r0 sh0 I0 L0 R0 hpq => ?_)
  obtain ⟨rfl, rfl, h⟩ := pO hpq
  refine z_goto 269 dL_law_265 (by decide) ?_
  refine z_lstore9 271 dL_law_269 (Nat.le_of_ble_eq_true rfl) rfl rfl ?_
  refine z_iload3 272 dL_law_271 rfl ?_
  refine z_if_eq 297 275 dL_law_272 (by decide) rfl (by omega) (fun hz => absurd hz ((by omega))) (fun h272 => ?_)
  refine z_iload8 277 dL_law_275 rfl ?_
  refine z_aload1 278 dL_law_277 rfl ?_
  refine z_iconst 279 dL_law_278 rfl ?_
  refine z_pV1 282 dL_law_279 (zVL_n lk_L_law_59) (pc_count3 h) rfl (Nat.le_of_ble_eq_true rfl) (Nat.le_of_ble_eq_true rfl) (by assumption) rfl rfl (fun r0 sh0 I0 L0 R0 hpq => ?_)
  obtain ⟨rfl, rfl, h⟩ := pO hpq
  show zE X (mLn nm) 0 0 282 _ [zI (sthr (sdq_ s 8)), zI (sthr (sdq_ s 8))] sh _ _ _ _
  refine z_icmp_ne 297 285 dL_law_282 (by decide) rfl (by omega) (by omega) (fun hz => absurd hz ((by omega))) (fun h282 => ?_)
  refine z_aload1 286 dL_law_285 rfl ?_
  refine z_aload2 287 dL_law_286 rfl ?_
  refine z_pS2 290 dL_law_287 (zSL_n lk_L_law_77) (ct_L_stands hs (hw.trans e86.symm) hg88 h) rfl (Nat.le_of_ble_eq_true rfl) (Nat.le_of_ble_eq_true rfl) rfl (fun r0 sh0 I0 L0 R0 hpq => ?_)
  obtain ⟨rfl, rfl, h⟩ := pO hpq
  refine z_if_eq 297 293 dL_law_290 (by decide) rfl (by omega) (fun hz => absurd hz ((by omega))) (fun h290 => ?_)
  refine z_iconst 294 dL_law_293 rfl ?_
  refine z_goto 298 dL_law_294 (by decide) ?_
  refine z_istore3 299 dL_law_298 (Nat.le_of_ble_eq_true rfl) rfl rfl ?_
  refine z_iconst 300 dL_law_299 rfl ?_
  refine z_istore11 302 dL_law_300 (Nat.le_of_ble_eq_true rfl) rfl rfl ?_
  exact k1 _ _ _ _ _ _ rfl hw h
end LAW
