/-! ===== what is done to a slide leaves it as a slide of the law's ===== -/
theorem sdn_6 {w : Nat → Int} : ∀ (m t : Nat) (S : zT) (q : Nat), sdn w m t S 6 q = S 6 q ∨ sdn w m t S 6 q = 30
  | 0, t, S, q => Or.inl rfl
  | m + 1, t, S, q => by
    have hl : lft S t 6 q = S 6 q ∨ lft S t 6 q = 30 := by
      unfold lft
      split
      · exact Or.inl rfl
      · rw [zup6_at]
        split
        · exact Or.inr rfl
        · exact Or.inl rfl
    unfold sdn
    split
    · exact hl
    · have := sdn_6 (w := w) m (t + 1) (zup (lft S t) 1 t (if 0 < lft S t 1 t - 1 then lft S t 1 t - 1 else 0)) q
      rw [zup_row _ _ (show (6 : Nat) ≠ 1 by decide)] at this
      rcases this with h | h
      · rw [h]; exact hl
      · exact Or.inr h
theorem send_6 (S : zT) (r q : Nat) : send S r 6 q = if q = r then sfe S r else sdn (sfw S r) 10 0 S 6 q := by
  unfold send
  rw [zup_row _ _ (show (6 : Nat) ≠ 0 by decide), zup6_at]
theorem psend_07 (S : zT) (r : Nat) : send S r 0 7 = S 0 7 + 1 := by
  unfold send
  rw [zup_at, zup_row _ _ (show (0 : Nat) ≠ 6 by decide), sdn_0]
theorem send_2 (S : zT) (r : Nat) {a : Nat} (h : a ≠ 0) (h1 : a ≠ 1) (h6 : a ≠ 6) : send S r a = S a := by
  unfold send
  rw [zup_row _ _ h, zup_row _ _ h6, sdn_o h1 h6]
theorem gd_send {S : zT} {r : Nat} (hg : gd S) (hr : (r : Int) < S 0 6) (h30 : S 6 r = 30) (h7 : S 0 7 < 9999) : gd (send S r) := by
  have n5 := hg.n5
  have he := sfe_r S r hg.sr (by omega)
  have e8 := send_06 S r 8 (by decide)
  have e6 := send_06 S r 6 (by decide)
  refine ⟨⟨send_sr hg.sr (by omega), by rw [psend_07]; have := hg.1.2.1; omega, by rw [e8]; exact hg.1.2.2⟩, by rw [e6]; exact hg.2.1, zuq_send hg.sr hg.2.2.1 hr h30, fun q hq => ?_⟩
  rw [e6] at hq
  have hq2 := hg.2.2.2 q hq
  refine ⟨by rw [send_k _ _ (Or.inr rfl)]; exact hq2.1, ?_⟩
  rw [send_6]
  split
  · omega
  · rcases sdn_6 (w := sfw S r) 10 0 S q with h | h
    · rw [h]; exact hq2.2
    · rw [h]; exact Or.inl rfl
theorem gd_up {S : zT} (hg : gd S) (r : Nat) : gd (zup S 6 r 30) := by
  refine ⟨⟨zSr_up6 hg.sr r (by omega), by rw [zup_row _ _ (by decide)]; exact hg.1.2.1, by rw [zup_row _ _ (by decide)]; exact hg.1.2.2⟩, by rw [zup_row _ _ (by decide)]; exact hg.2.1, zuq_30 hg.2.2.1 r (by omega), fun q hq => ?_⟩
  rw [zup_row _ _ (by decide)] at hq
  have hq2 := hg.2.2.2 q hq
  refine ⟨by rw [zup_row _ _ (by decide)]; exact hq2.1, ?_⟩
  rw [zup6_at]
  split
  · exact Or.inl rfl
  · exact hq2.2
theorem gd_row {S : zT} (hg : gd S) {i t : Nat} (hi : i = 1 ∨ i = 2) {v : Int} (hv : 0 ≤ v ∧ v ≤ 9) : gd (zup S i t v) := by
  have e0 : zup S i t v 0 = S 0 := zup_row _ _ (by omega)
  have e4 : zup S i t v 4 = S 4 := zup_row _ _ (by omega)
  have e6 : zup S i t v 6 = S 6 := zup_row _ _ (by omega)
  refine ⟨⟨?_, by rw [e0]; exact hg.1.2.1, by rw [e0]; exact hg.1.2.2⟩, by rw [e0]; exact hg.2.1, zuq_up hg.2.2.1 (by omega) (by omega) _ _, fun q hq => ?_⟩
  · rcases hi with h | h <;> subst h
    · exact zSr_up1 hg.sr t hv
    · exact zSr_up2 hg.sr t hv
  · rw [e0] at hq
    rw [e4, e6]
    exact hg.2.2.2 q hq
theorem gd_d {S : zT} (hg : gd S) {d : Int} (hd : 0 ≤ d ∧ d ≤ 2147483647) : gd (zup S 0 8 d) := by
  have e6 : zup S 0 8 d 0 6 = S 0 6 := zup_ne _ _ (by omega)
  have e7 : zup S 0 8 d 0 7 = S 0 7 := zup_ne _ _ (by omega)
  refine ⟨⟨zSr_up0 hg.sr (Or.inl (by decide)), by rw [e7]; exact hg.1.2.1, by rw [zup_at]; exact hd⟩, by rw [e6]; exact hg.2.1, zuq_up1 hg.2.2.1 (by decide) (by omega) _, fun q hq => ?_⟩
  rw [e6] at hq
  rw [zup_row _ _ (by decide), zup_row _ _ (by decide)]
  exact hg.2.2.2 q hq
theorem gd_sdoA {S : zT} (hg : gd S) : gd (sdoA S) := by
  have h := sdoA_8 S
  unfold sdoA at h ⊢
  rw [zup_at] at h
  exact gd_d hg h
theorem gd_sdoB {S : zT} (hg : gd S) (h7 : S 0 7 < 9999) : gd (sdoB S) := by
  unfold sdoB
  split
  · rename_i h0
    obtain ⟨q, hq, hq5⟩ := sdq S hg.sr hg.1.2.2 h0
    have hx2 := Int.emod_lt_of_pos (S 0 8 / 65536) h0
    rw [hq] at hx2
    rw [hq, Int.toNat_natCast]
    split
    · rename_i h30
      exact gd_send hg hx2 h30 h7
    · exact gd_up hg q
  · exact hg
theorem gd_sdo {S : zT} (hg : gd S) (h7 : S 0 7 < 9999) : gd (sdo S) := by
  have hA := gd_sdoA hg
  have hB := gd_sdoB hA (by
    have e7 : sdoA S 0 7 = S 0 7 := zup_ne _ _ (by omega)
    rw [e7]; exact h7)
  unfold sdo
  generalize sdoB (sdoA S) = T at hB ⊢
  unfold sdoC
  have ht : 0 ≤ T 1 (T 0 8 / 128 % 10).toNat := (hB.sr.2.1 _ (by omega)).1
  exact gd_row hB (Or.inl rfl) (by split <;> omega)
theorem psdo_07 (S : zT) : S 0 7 ≤ sdo S 0 7 ∧ sdo S 0 7 ≤ S 0 7 + 1 := by
  have e7 : sdoA S 0 7 = S 0 7 := zup_ne _ _ (by omega)
  unfold sdo sdoC
  rw [zup_row _ _ (show (0 : Nat) ≠ 1 by decide), ← e7]
  unfold sdoB
  split
  · split
    · rw [psend_07]; omega
    · rw [zup_row _ _ (show (0 : Nat) ≠ 6 by decide)]; omega
  · omega
/-! hashes of slides that agree as far as anybody is told -/
theorem ph1_c {A A' : zA} (h : ∀ k : Nat, k < 7 → oCount A (k : Int) = oCount A' (k : Int)) : ∀ (m k : Nat) (x : Int), k + m ≤ 7 → ph1 A m k x = ph1 A' m k x
  | 0, _, _, _ => rfl
  | m + 1, k, x, hk => by
    unfold ph1
    rw [h k (by omega), ph1_c h m (k + 1) _ (by omega)]
theorem ph2_c {S S' : zT} (h : ∀ t, t < 10 → S 1 t = S' 1 t ∧ S 2 t = S' 2 t) : ∀ (m t : Nat) (x : Int), t + m ≤ 10 → ph2 S m t x = ph2 S' m t x
  | 0, _, _, _ => rfl
  | m + 1, t, x, ht => by
    unfold ph2
    rw [(h t (by omega)).1, (h t (by omega)).2, ph2_c h m (t + 1) _ (by omega)]
theorem ph3_c {S S' : zT} {n : Nat} (h : ∀ r : Nat, r < n → S 5 r = S' 5 r ∧ S 6 r = S' 6 r) : ∀ (m r : Nat) (x : Int), r + m ≤ n → ph3 S m r x = ph3 S' m r x
  | 0, _, _, _ => rfl
  | m + 1, r, x, hr => by
    unfold ph3
    rw [(h r (by omega)).1, (h r (by omega)).2, ph3_c h m (r + 1) _ (by omega)]
theorem prsm_c {W W' : Nat → Int} : ∀ (m s : Nat) (x : Int), (∀ j, s ≤ j → j < s + m → W j = W' j) → rsm W m s x = rsm W' m s x
  | 0, _, _, _ => rfl
  | m + 1, s, x, h => by
    unfold rsm
    rw [h s (by omega) (by omega), prsm_c m (s + 1) _ (fun j a b => h j (by omega) (by omega))]
theorem phash_c {A A' : zA} (h : zQe A.1 A'.1) : phash A = phash A' := by
  unfold phash
  rw [ph1_c (A' := A') (fun k hk => ?_) 7 0 3 (by omega), ph2_c (S' := A'.1) h.2.1 10 0 _ (by omega), ph3_c (S' := A'.1) (n := (A.1 0 6).toNat) (fun r hr => ⟨(h.2.2 r (by omega)).2.2.1, (h.2.2 r (by omega)).2.2.2⟩) _ 0 _ (by omega), h.1.1]
  have e1 := prsm_c (W := A.1 1) (W' := A'.1 1) 10 0 0 (fun j _ hj => (h.2.1 j (by omega)).1)
  have e2 := prsm_c (W := A.1 2) (W' := A'.1 2) 10 0 0 (fun j _ hj => (h.2.1 j (by omega)).2)
  have hk7 : (k : Int) ≠ 7 := by omega
  unfold oCount
  rw [h.1.1, h.1.2.1, stop_c h, sthr_c h, stak_c h, e1, e2, if_neg hk7, if_neg hk7]
/-- .. and the draw isn't told -/
theorem phash_d (S : zT) (d : Int) (B B' : List zT × (Option (zT × List zT) × (List Int × (Nat → Int × (Int × (Nat → Int)))))) : phash (zup S 0 8 d, B) = phash (S, B') := by
  have e6 : zup S 0 8 d 0 6 = S 0 6 := zup_ne _ _ (by omega)
  have e7 : zup S 0 8 d 0 7 = S 0 7 := zup_ne _ _ (by omega)
  have er : ∀ a, a ≠ 0 → zup S 0 8 d a = S a := fun a h => zup_row _ _ h
  have es : ∀ t, sst (zup S 0 8 d) t = sst S t := fun t => by
    unfold sst
    rw [er 6 (by decide), e6]
  unfold phash
  rw [ph1_c (A' := (S, B')) (fun k hk => ?_) 7 0 3 (by omega)]
  · show ph3 (zup S 0 8 d) (zup S 0 8 d 0 6).toNat 0 (ph2 (zup S 0 8 d) 10 0 _) = _
    rw [ph2_c (S' := S) (fun t _ => ⟨by rw [er 1 (by decide)], by rw [er 2 (by decide)]⟩) 10 0 _ (by omega), ph3_c (S' := S) (n := (S 0 6).toNat) (fun r _ => ⟨by rw [er 5 (by decide)], by rw [er 6 (by decide)]⟩) _ 0 _ (by rw [e6]; omega), e6]
  · have hk7 : (k : Int) ≠ 7 := by omega
    unfold oCount stop_ sthr stak
    simp only [e6, e7, er 6 (by decide), er 1 (by decide), er 2 (by decide), es, if_neg hk7]
/-! more cells, the class's as they were -/
section UP
variable {sh sh' : zH} {R R' : zR2} {I I' L L' : zI2} {A : zA} {P : Nat → Nat}
theorem pSl_up {b : Nat} (hs : ∀ (a : Nat) (v : Nat × Nat), sh[a]? = some v → sh'[a]? = some v) (e : R' b = R b) (h : zSl sh R b) : zSl sh' R' b := by
  obtain ⟨⟨s0, s1, s2, s3, s4, s5, s6⟩, hr⟩ := h
  refine ⟨⟨hs _ _ s0, hs _ _ s1, hs _ _ s2, hs _ _ s3, hs _ _ s4, hs _ _ s5, hs _ _ s6⟩, ?_⟩
  rw [e]
  exact hr
theorem pHi_up {b : Nat} {P : Nat → Nat} (hs : ∀ (a : Nat) (v : Nat × Nat), sh[a]? = some v → sh'[a]? = some v) (e : ∀ a, a < 157 → R' a = R a) (hb : b < 100) (hP : ∀ j, j < 8 → P j < 157) (h : zHi sh R b P) : zHi sh' R' b P := by
  obtain ⟨⟨h1, h2, h3⟩, h4, h5⟩ := h
  refine ⟨⟨hs _ _ h1, hs _ _ h2, ?_⟩, fun j hj => ?_, fun j hj => pSl_up hs (e _ (hP j hj)) (h5 j hj)⟩
  · rw [e b (by omega)]
    exact h3
  · rw [e (b + 1) (by omega)]
    exact h4 j hj
theorem pCs_up (hs : ∀ (a : Nat) (v : Nat × Nat), sh[a]? = some v → sh'[a]? = some v) (e : ∀ a, a < 157 → R' a = R a) (h : zCs sh R P) : zCs sh' R' P := by
  obtain ⟨⟨c0, cR⟩, ⟨n1, n8, n73⟩, ⟨hh, hp⟩, kh, ⟨t1, t2, t3⟩, ⟨q0, qk⟩, sp, ⟨o1, o2, o3⟩, ⟨p1, p2, p3⟩, ⟨a1, a2, a3, a4, a5⟩⟩ := h
  have e0 := e 0 (by omega)
  have e138 := e 138 (by omega)
  have e142 := e 142 (by omega)
  have e144 := e 144 (by omega)
  have e146 := e 146 (by omega)
  refine ⟨⟨hs _ _ c0, by rw [e0]; exact cR⟩, ⟨pSl_up hs (e _ (by omega)) n1, pSl_up hs (e _ (by omega)) n8, pSl_up hs (e _ (by omega)) n73⟩, ⟨pHi_up hs e (by omega) (fun j hj => ?_) hh, hp⟩, pHi_up hs e (by omega) (fun j hj => ?_) kh, ⟨hs _ _ t1, hs _ _ t2, by rw [e138]; exact t3⟩, ⟨hs _ _ q0, fun k hk => ?_⟩, hs _ _ sp, ⟨hs _ _ o1, hs _ _ o2, by rw [e142]; exact o3⟩, ⟨hs _ _ p1, hs _ _ p2, by rw [e144]; exact p3⟩, ⟨hs _ _ a1, hs _ _ a2, hs _ _ a3, by rw [e146]; exact a4, by rw [e146]; exact a5⟩⟩
  · have := zPm_r hp hj
    omega
  · show 82 + 7 * j < 157
    omega
  · obtain ⟨k1, k2, k3, k4⟩ := qk k hk
    refine ⟨?_, hs _ _ k2, hs _ _ k3, ?_⟩
    · rw [e 140 (by omega)]
      exact k1
    · rw [e (149 + 2 * k) (by omega)]
      exact k4
theorem pCA_lo (h : zCA sh R P I L A) (hI : ∀ a, a < 157 → I' a = I a ∧ L' a = L a) : zCA sh R P I' L' A := by
  obtain ⟨h1, h2, h3, h4, h5, h6, h7, h8⟩ := h
  exact ⟨h1, cNow_of (fun a _ _ => (hI a (by omega)).1) h2, cTri_of (fun a _ _ => (hI a (by omega)).1) h3, cHis_of h1.2.2.1.2 (fun a _ => (hI a (by omega)).1) h4, cKep_of (fun a _ => (hI a (by omega)).1) h5, cTap_of (fun a _ => (hI a (by omega)).1) h6, cShe_of (fun a _ _ => hI a (by omega)) h7, cOrd_of (fun a _ => (hI a (by omega)).1) h8⟩
theorem pCA_up (h : zCA sh R P I L A) (x : zH) (hI : ∀ a, a < 157 → I' a = I a ∧ L' a = L a) (hR : ∀ a, a < 157 → R' a = R a) : zCA (sh ++ x) R' P I' L' A := by
  obtain ⟨h1, h2⟩ := pCA_lo h hI
  exact ⟨pCs_up (fun a v q => zg_l q) hR h1, h2⟩
end UP
