/-! ===== the law from its first step ===== -/
section START
variable {sh sh' : zH} {R R' : zR2} {I I' L L' : zI2} {A : zA}
theorem zSl_up {b : Nat} (hs : ∀ (a : Nat) (v : Nat × Nat), sh[a]? = some v → sh'[a]? = some v) (e : R' b = R b) (h : zSl sh R b) : zSl sh' R' b := by
  obtain ⟨⟨s0, s1, s2, s3, s4, s5, s6⟩, hr⟩ := h
  refine ⟨⟨hs _ _ s0, hs _ _ s1, hs _ _ s2, hs _ _ s3, hs _ _ s4, hs _ _ s5, hs _ _ s6⟩, ?_⟩
  rw [e]
  exact hr
theorem zHi_up {b : Nat} {P : Nat → Nat} (hs : ∀ (a : Nat) (v : Nat × Nat), sh[a]? = some v → sh'[a]? = some v) (e : ∀ a, a < 157 → R' a = R a) (hb : b < 100) (hP : ∀ j, j < 8 → P j < 157) (h : zHi sh R b P) : zHi sh' R' b P := by
  obtain ⟨⟨h1, h2, h3⟩, h4, h5⟩ := h
  refine ⟨⟨hs _ _ h1, hs _ _ h2, ?_⟩, fun j hj => ?_, fun j hj => zSl_up hs (e _ (hP j hj)) (h5 j hj)⟩
  · rw [e b (by omega)]
    exact h3
  · rw [e (b + 1) (by omega)]
    exact h4 j hj
theorem zCs_up (hs : ∀ (a : Nat) (v : Nat × Nat), sh[a]? = some v → sh'[a]? = some v) (e : ∀ a, a < 157 → R' a = R a) (h : zCs sh R zP0) : zCs sh' R' zP0 := by
  obtain ⟨⟨c0, cR⟩, ⟨n1, n8, n73⟩, ⟨hh, hp⟩, kh, ⟨t1, t2, t3⟩, ⟨q0, qk⟩, sp, ⟨o1, o2, o3⟩, ⟨p1, p2, p3⟩, ⟨a1, a2, a3, a4, a5⟩⟩ := h
  have e0 := e 0 (by omega)
  have e138 := e 138 (by omega)
  have e142 := e 142 (by omega)
  have e144 := e 144 (by omega)
  have e146 := e 146 (by omega)
  refine ⟨⟨hs _ _ c0, by rw [e0]; exact cR⟩, ⟨zSl_up hs (e _ (by omega)) n1, zSl_up hs (e _ (by omega)) n8, zSl_up hs (e _ (by omega)) n73⟩, ⟨zHi_up hs e (by omega) (fun j hj => ?_) hh, hp⟩, zHi_up hs e (by omega) (fun j hj => ?_) kh, ⟨hs _ _ t1, hs _ _ t2, by rw [e138]; exact t3⟩, ⟨hs _ _ q0, fun k hk => ?_⟩, hs _ _ sp, ⟨hs _ _ o1, hs _ _ o2, by rw [e142]; exact o3⟩, ⟨hs _ _ p1, hs _ _ p2, by rw [e144]; exact p3⟩, ⟨hs _ _ a1, hs _ _ a2, hs _ _ a3, by rw [e146]; exact a4, by rw [e146]; exact a5⟩⟩
  · show 17 + 7 * j < 157
    omega
  · show 82 + 7 * j < 157
    omega
  · obtain ⟨k1, k2, k3, k4⟩ := qk k hk
    refine ⟨?_, hs _ _ k2, hs _ _ k3, ?_⟩
    · rw [e 140 (by omega)]
      exact k1
    · rw [e (149 + 2 * k) (by omega)]
      exact k4
theorem zW_0 : zW zA0 := ⟨⟨fun p q hp _ _ _ _ => absurd hp (by
  show ¬ ((p : Int) < 0)
  omega), fun s hs => by cases hs⟩, fun q hq => by cases hq⟩
theorem z_pI0 {X : zXs} {M M' : zM} {pc k' w' K Wd : Nat} {ls : List zV} {Q Q' : zQ} (nx k w : Nat) {idx o : Nat} {rest ls' : List zV} (hd : decode (zmc M) pc = .ok (.invokespecial idx, 3)) (hL : zIL M idx M' 0) (hk : k + k' = K) (hw : w + w' = Wd) (hcal : zE X M' k' w' 0 ls' [] sh I L R Q') (hent : zent (zml M') [zR o] = ls') (hwd : zwords [zR o] ≤ zml M') (hrest : zwords rest ≤ 8) (hn : pc + 3 = nx) (kk : ∀ (r : List zV) (sh' : zH) (I' L' : zI2) (R' : zR2), Q' r sh' I' L' R' → zE X M k w nx ls (r ++ rest) sh' I' L' R' Q) : zE X M K Wd pc ls (zR o :: rest) sh I L R Q := by
  subst hk; subst hw
  exact z_invI (k := k) (w := w) nx (as := []) (rest := rest) hd hL hcal hent hwd rfl rfl hrest hn kk
theorem law_start {X : zXs} {nm : String} (hX : X.1 ≤ 4096) (hj : ∀ j, -2147483648 ≤ X.2 j ∧ X.2 j ≤ 2147483647) : zE X (mLn nm) 173 2332 0 [zS, zX, zX, zX] [] [] (fun _ _ => 0) (fun _ _ => 0) (fun _ _ => none) (fun r' _ _ _ _ => r' = [zI 1]) := by
  refine z_newX 3 0 (T := TX6) (ci := 6) dL_law_0 rfl cl_RL_7 ib_RX6 it_RX6 (by decide) rfl rfl rfl rfl ?_
  refine z_dup 4 dL_law_3 rfl rfl ?_
  refine z_pI0 7 16 1096 (k' := 156) (w' := 1224) dL_law_4 (zIL_n lk_L_law_9) rfl rfl ct_X6_init rfl (Nat.le_of_ble_eq_true rfl) (Nat.le_of_ble_eq_true rfl) rfl (fun r0 sh0 I0 L0 R0 hq => ?_)
  obtain ⟨rfl, hR0, hI0⟩ := hq
  have ho : (sh0 ++ [(7, 21)])[157]? = some (7, 21) := zg_r hR0.1
  have hl : (sh0 ++ [(7, 21)]).length = 158 := by rw [List.length_append, hR0.1]; rfl
  refine z_astore1 8 dL_law_7 (Nat.le_of_ble_eq_true rfl) rfl rfl ?_
  refine z_newX 11 157 (T := TX7) (ci := 7) dL_law_8 rfl cl_RL_10 ib_RX7 it_RX7 (by decide) hR0.1 rfl rfl rfl ?_
  refine z_dup 12 dL_law_11 rfl rfl ?_
  refine z_xI0 15 15 1075 dL_law_12 (zIL_n lk_L_law_12) rfl rfl (ct_X7_init (Q := zEq [] (x7s (sh0 ++ [(7, 21)])) (x7I (x7z I0)) (x7l L0) (x7r R0)) ho hl ⟨rfl, rfl, rfl, rfl, rfl⟩) rfl (Nat.le_of_ble_eq_true rfl) (Nat.le_of_ble_eq_true rfl) rfl ?_
  refine z_astore2 16 dL_law_15 (Nat.le_of_ble_eq_true rfl) rfl rfl ?_
  refine z_iconst 17 dL_law_16 rfl ?_
  refine z_istore3 18 dL_law_17 (Nat.le_of_ble_eq_true rfl) rfl rfl ?_
  have hc := zIni_CA hR0 hI0
  have hc1 : zCA (x7s (sh0 ++ [(7, 21)])) (x7r R0) zP0 I0 L0 zA0 := ⟨zCs_up (fun a v h => x7_s (zg_l h)) (fun a h => x7_R h) hc.1, hc.2⟩
  exact law_loop hX hj (X.1 + 1) 0 (by omega) (by omega) ⟨⟨zP0, zCA_lo hc1 (fun a h => ⟨x7_I h, x7_L h⟩)⟩, x7_CA ho hl, zW_0⟩
end START
