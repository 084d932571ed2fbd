/-! ===== a ride foretold, turn by turn; the fastest; who would be what ===== -/
def spv (F : Nat → Int) (t : Nat) : Int := if t = 0 then 2 else F (t - 1)
theorem swho_z (S : zT) (o : Int) : ∀ (m i : Nat) (x : Int), swho S o m i x = zst (fun i => sfe S i = o) m i x
  | 0, _, _ => rfl
  | m + 1, i, x => by
    unfold swho zst
    exact swho_z S o m (i + 1) _
theorem sft_s (S : zT) (r : Nat) : ∀ (m t : Nat) (v : Int) (w : Nat → Int), t + m = 10 → ∃ s, (t ≤ s ∧ s ≤ 10) ∧ (∀ j, t ≤ j → j < s → (sft S r m t v w).2 j = sbh S j r (if j = t then v else (sft S r m t v w).2 (j - 1)) (S 1 j) ∧ 0 < (sft S r m t v w).2 j) ∧ (∀ j, (j < t ∨ s ≤ j) → (sft S r m t v w).2 j = w j) ∧ ((s = 10 ∧ (sft S r m t v w).1 = ((if s = t then v else (sft S r m t v w).2 (s - 1)) + S 5 r) % 8) ∨ (s < 10 ∧ (sft S r m t v w).1 = 10 + (s : Int) ∧ sbh S s r (if s = t then v else (sft S r m t v w).2 (s - 1)) (S 1 s) ≤ 0))
  | 0, t, v, w, h => by
    have ht : t = 10 := by omega
    refine ⟨10, ⟨by omega, by omega⟩, fun j a b => by omega, fun j _ => rfl, Or.inl ⟨rfl, ?_⟩⟩
    rw [if_pos (by omega)]
    rfl
  | m + 1, t, v, w, h => by
    unfold sft
    by_cases hx : 0 < sbh S t r v (S 1 t)
    · rw [if_pos hx]
      obtain ⟨s, ⟨s1, s2⟩, h1, h2, h3⟩ := sft_s S r m (t + 1) (sbh S t r v (S 1 t)) (fun j => if j = t then sbh S t r v (S 1 t) else w j) (by omega)
      have et := h2 t (Or.inl (by omega))
      rw [if_pos rfl] at et
      have key : ∀ j, t < j → (if j = t + 1 then sbh S t r v (S 1 t) else (sft S r m (t + 1) (sbh S t r v (S 1 t)) (fun j => if j = t then sbh S t r v (S 1 t) else w j)).2 (j - 1)) = (if j = t then v else (sft S r m (t + 1) (sbh S t r v (S 1 t)) (fun j => if j = t then sbh S t r v (S 1 t) else w j)).2 (j - 1)) := by
        intro j hj
        rw [if_neg (show ¬ j = t by omega)]
        by_cases hj1 : j = t + 1
        · rw [if_pos hj1, hj1, Nat.add_sub_cancel, et]
        · rw [if_neg hj1]
      refine ⟨s, ⟨by omega, s2⟩, fun j a b => ?_, fun j hj => ?_, ?_⟩
      · by_cases hjt : j = t
        · subst hjt
          rw [if_pos rfl, et]
          exact ⟨rfl, hx⟩
        · have := h1 j (by omega) b
          rw [key j (by omega)] at this
          exact this
      · rw [h2 j (by omega), if_neg (by omega)]
      · rw [key s (by omega)] at h3
        exact h3
    · rw [if_neg hx]
      refine ⟨t, ⟨by omega, by omega⟩, fun j a b => by omega, fun j _ => rfl, Or.inr ⟨by omega, rfl, ?_⟩⟩
      rw [if_pos rfl]
      omega
/-- he comes behind s turns; and then he is stuck, or at the end -/
theorem sfe_s (S : zT) (r : Nat) : ∃ s, s ≤ 10 ∧ (∀ j, j < s → sfw S r j = sbh S j r (spv (sfw S r) j) (S 1 j) ∧ 0 < sfw S r j) ∧ (∀ j, s ≤ j → sfw S r j = -4) ∧ ((s = 10 ∧ sfe S r = (spv (sfw S r) 10 + S 5 r) % 8) ∨ (s < 10 ∧ sfe S r = 10 + (s : Int) ∧ sbh S s r (spv (sfw S r) s) (S 1 s) ≤ 0)) := by
  obtain ⟨s, ⟨_, s2⟩, h1, h2, h3⟩ := sft_s S r 10 0 2 (fun _ => -4) rfl
  refine ⟨s, s2, fun j hj => h1 j (Nat.zero_le _) hj, fun j hj => h2 j (Or.inr hj), ?_⟩
  rcases h3 with ⟨e, h3⟩ | h3
  · subst e
    exact Or.inl ⟨rfl, h3⟩
  · exact Or.inr h3
theorem gmx_s (F : Nat → Int) : ∀ (m i c : Nat), c < i → (∀ j, j < i → F j ≤ F c) → (∀ j, j < c → F j < F c) → gmx F m i c < i + m ∧ (∀ j, j < i + m → F j ≤ F (gmx F m i c)) ∧ ∀ j, j < gmx F m i c → F j < F (gmx F m i c)
  | 0, i, c, hc, h1, h2 => ⟨hc, h1, h2⟩
  | m + 1, i, c, hc, h1, h2 => by
    unfold gmx
    have e : i + (m + 1) = i + 1 + m := by omega
    rw [e]
    by_cases h : F c < F i
    · rw [if_pos h]
      refine gmx_s F m (i + 1) i (by omega) (fun j hj => ?_) (fun j hj => ?_)
      · by_cases hji : j = i
        · subst hji; omega
        · have := h1 j (by omega); omega
      · have := h1 j (by omega); omega
    · rw [if_neg h]
      refine gmx_s F m (i + 1) c (by omega) (fun j hj => ?_) h2
      by_cases hji : j = i
      · subst hji; omega
      · exact h1 j (by omega)
theorem sdn_le {w : Nat → Int} : ∀ (m t : Nat) (S : zT), t + m ≤ 10 → zSr S → ∀ u, u < 10 → sdn w m t S 1 u ≤ S 1 u
  | 0, t, S, _, _, u, _ => Int.le_refl _
  | m + 1, t, S, ht, hS, u, hu => by
    have e1 : lft S t 1 = S 1 := lft_o S t (by decide)
    unfold sdn
    split
    · rw [e1]; exact Int.le_refl _
    · have h1 := lft_sr hS t
      have h2 := h1.2.1 t (by omega)
      have h3 := sdn_le (w := w) m (t + 1) (zup (lft S t) 1 t (if 0 < lft S t 1 t - 1 then lft S t 1 t - 1 else 0)) (by omega) (zSr_up1 h1 t (by split <;> omega)) u hu
      refine Int.le_trans h3 ?_
      unfold zup
      by_cases hut : u = t
      · rw [if_pos ⟨rfl, hut⟩, ← e1, hut]
        split <;> omega
      · rw [if_neg (fun z => hut z.2), e1]
        exact Int.le_refl _
theorem rsm_le {W W' : Nat → Int} : ∀ (m s : Nat) (x y : Int), x ≤ y → (∀ j, s ≤ j → j < s + m → W j ≤ W' j) → rsm W m s x ≤ rsm W' m s y
  | 0, _, _, _, h, _ => h
  | m + 1, s, x, y, h, hw => by
    unfold rsm
    have := hw s (by omega) (by omega)
    exact rsm_le m (s + 1) _ _ (by omega) (fun j a b => hw j (by omega) (by omega))
theorem send_1 (S : zT) (r : Nat) : send S r 1 = sdn (sfw S r) 10 0 S 1 := by
  unfold send
  rw [zup_row _ _ (by decide), zup_row _ _ (by decide)]
theorem send_rough {S : zT} (h : zSr S) (r : Nat) : rsm (send S r 1) 10 0 0 ≤ rsm (S 1) 10 0 0 := by
  rw [send_1]
  exact rsm_le 10 0 0 0 (Int.le_refl _) (fun j _ hj => sdn_le 10 0 S (by omega) h j (by omega))
abbrev pA (S : zT) (hh : List zT) (TS : List Int × (Nat → Int × (Int × (Nat → Int)))) : zA := (S, (hh, (some (S, hh), TS)))
