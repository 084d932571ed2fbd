/-! ===== what both sides are: the slide, what may be undone (oldest first), the image, the tape, the sheets ===== -/
abbrev zA : Type := zT × (List zT × (Option (zT × List zT) × (List Int × (Nat → Int × (Int × (Nat → Int))))))
def zPm (P : Nat → Nat) : Prop := (∀ i, i < 8 → ∃ j, j < 8 ∧ P i = 17 + 7 * j) ∧ ∀ i j, i < 8 → j < 8 → P i = P j → i = j
theorem zPm_r {P : Nat → Nat} (h : zPm P) {i : Nat} (hi : i < 8) : 17 ≤ P i ∧ P i + 7 ≤ 73 := by
  obtain ⟨j, h1, h2⟩ := h.1 i hi
  omega
theorem zPm_d {P : Nat → Nat} (h : zPm P) {i j : Nat} (hi : i < 8) (hj : j < 8) (hij : i ≠ j) : P i + 7 ≤ P j ∨ P j + 7 ≤ P i := by
  obtain ⟨a, a1, a2⟩ := h.1 i hi
  obtain ⟨c, c1, c2⟩ := h.1 j hj
  have h3 : P i ≠ P j := fun e => hij (h.2 i j hi hj e)
  omega
theorem zPm_rot {P : Nat → Nat} (h : zPm P) : zPm (zrotP P) := by
  have key : ∀ i, i < 8 → ∃ q, q < 8 ∧ zrotP P i = P q ∧ (q = if i < 7 then i + 1 else 0) := by
    intro i hi
    unfold zrotP
    by_cases h7 : i < 7
    · exact ⟨i + 1, by omega, by rw [if_pos h7], by rw [if_pos h7]⟩
    · exact ⟨0, by omega, by rw [if_neg h7, if_pos (by omega)], by rw [if_neg h7]⟩
  refine ⟨fun i hi => ?_, fun i j hi hj e => ?_⟩
  · obtain ⟨q, q1, q2, -⟩ := key i hi
    rw [q2]
    exact h.1 q q1
  · obtain ⟨q, q1, q2, q3⟩ := key i hi
    obtain ⟨r, r1, r2, r3⟩ := key j hj
    rw [q2, r2] at e
    have := h.2 q r q1 r1 e
    by_cases h7 : i < 7
    · rw [if_pos h7] at q3
      by_cases h8 : j < 7
      · rw [if_pos h8] at r3; omega
      · rw [if_neg h8] at r3; omega
    · rw [if_neg h7] at q3
      by_cases h8 : j < 7
      · rw [if_pos h8] at r3; omega
      · omega
def zKP : Nat → Nat := fun i => 82 + 7 * i
/-- the object of the class at place 0: its shape -/
def zCs (sh : zH) (R : zR2) (P : Nat → Nat) : Prop :=
  (sh[0]? = some (6, 12) ∧ R 0 0 = some 1 ∧ R 0 1 = some 8 ∧ R 0 2 = some 15 ∧ R 0 3 = some 73 ∧ R 0 4 = some 80 ∧ R 0 6 = some 138 ∧ R 0 7 = some 140 ∧ R 0 8 = some 141 ∧ R 0 9 = some 142 ∧ R 0 10 = some 144 ∧ R 0 11 = some 146) ∧
  (zSl sh R 1 ∧ zSl sh R 8 ∧ zSl sh R 73) ∧ (zHi sh R 15 P ∧ zPm P) ∧ zHi sh R 80 zKP ∧ zTp sh R 138 ∧ (sh[140]? = some (23, 4) ∧ ∀ k, k < 4 → R 140 k = some (149 + 2 * k) ∧ zSh sh R (149 + 2 * k)) ∧ sh[141]? = some (20, 10) ∧ zOr sh R 142 ∧ zOr sh R 144 ∧ zRa sh R 146
def cNow (I : zI2) (S : zT) : Prop := zSg (zvw I 1) ∧ zQe (zvw I 1) S
def cTri (I : zI2) : Prop := zSr (zvw I 8)
def cHis (I : zI2) (P : Nat → Nat) (h : List zT) : Prop := I 15 1 = (h.length : Int) ∧ h.length ≤ 8 ∧ (∀ i, i < 8 → zSg (zvw I (P i))) ∧ ∀ i s, h[i]? = some s → zQe (zvw I (P i)) s
def cKep (I : zI2) (k : Option (zT × List zT)) : Prop := (match k with
  | none => I 0 5 = 0
  | some q => I 0 5 = 1 ∧ zQe (zvw I 73) q.1 ∧ I 80 1 = (q.2.length : Int) ∧ ∀ i s, q.2[i]? = some s → zQe (zvw I (zKP i)) s) ∧ zSg (zvw I 73) ∧ (∀ i, i < 8 → zSg (zvw I (zKP i))) ∧ (0 ≤ I 80 1 ∧ I 80 1 ≤ 8)
def cTap (I : zI2) (t : List Int) : Prop := I 138 1 = (t.length : Int) ∧ t.length ≤ 70 ∧ (∀ j, j < 70 → 0 ≤ I 139 j ∧ I 139 j ≤ 126) ∧ ∀ j x, t[j]? = some x → I 139 j = x
def cShe (I L : zI2) (s : Nat → Int × (Int × (Nat → Int))) : Prop := ∀ k, k < 4 → zShr I L (149 + 2 * k) ∧ I (149 + 2 * k) 1 = (s k).1 ∧ I (149 + 2 * k) 2 = (s k).2.1 ∧ ∀ j, j < 24 → L (149 + 2 * k + 1) j = (s k).2.2 j
def cOrd (I : zI2) : Prop := (∀ q, q < 5 → 0 ≤ I 143 q ∧ I 143 q ≤ 4) ∧ ∀ q, q < 5 → 0 ≤ I 145 q ∧ I 145 q ≤ 4
def zCA (sh : zH) (R : zR2) (P : Nat → Nat) (I L : zI2) (A : zA) : Prop := zCs sh R P ∧ cNow I A.1 ∧ cTri I ∧ cHis I P A.2.1 ∧ cKep I A.2.2.1 ∧ cTap I A.2.2.2.1 ∧ cShe I L A.2.2.2.2 ∧ cOrd I
theorem zvw_of {I J : zI2} {b : Nat} (h : ∀ a, b ≤ a → a < b + 7 → J a = I a) : zvw J b = zvw I b := zvw_o fun i hi => h (b + i) (by omega) (by omega)
theorem cNow_of {I J : zI2} {S : zT} (h : ∀ a, 1 ≤ a → a < 8 → J a = I a) (c : cNow I S) : cNow J S := by
  unfold cNow
  rw [zvw_of (I := I) (J := J) (b := 1) (fun a h1 h2 => h a h1 h2)]
  exact c
theorem cTri_of {I J : zI2} (h : ∀ a, 8 ≤ a → a < 15 → J a = I a) (c : cTri I) : cTri J := by
  unfold cTri
  rw [zvw_of (I := I) (J := J) (b := 8) (fun a h1 h2 => h a h1 h2)]
  exact c
theorem cHis_of {I J : zI2} {P : Nat → Nat} {l : List zT} (hP : zPm P) (h : ∀ a, (a = 15 ∨ (17 ≤ a ∧ a < 73)) → J a = I a) (c : cHis I P l) : cHis J P l := by
  have e : ∀ i, i < 8 → zvw J (P i) = zvw I (P i) := fun i hi => zvw_of (fun a h1 h2 => h a (Or.inr (by have := zPm_r hP hi; omega)))
  refine ⟨by rw [h 15 (Or.inl rfl)]; exact c.1, c.2.1, fun i hi => by rw [e i hi]; exact c.2.2.1 i hi, fun i s hs => ?_⟩
  have hi : i < l.length := (List.getElem?_eq_some_iff.mp hs).1
  rw [e i (by have := c.2.1; omega)]
  exact c.2.2.2 i s hs
theorem cKep_of {I J : zI2} {k : Option (zT × List zT)} (h : ∀ a, (a = 0 ∨ (73 ≤ a ∧ a < 138)) → J a = I a) (c : cKep I k) : cKep J k := by
  have e : ∀ i, i < 8 → zvw J (zKP i) = zvw I (zKP i) := fun i hi => zvw_of (fun a h1 h2 => h a (Or.inr (by unfold zKP at h1 h2; omega)))
  have e7 : zvw J 73 = zvw I 73 := zvw_of (fun a h1 h2 => h a (Or.inr (by omega)))
  refine ⟨?_, by rw [e7]; exact c.2.1, fun i hi => by rw [e i hi]; exact c.2.2.1 i hi, by rw [h 80 (Or.inr (by omega))]; exact c.2.2.2⟩
  have c1 := c.1
  cases k with
  | none => rw [show J 0 5 = I 0 5 by rw [h 0 (Or.inl rfl)]]; exact c1
  | some q =>
    refine ⟨by rw [h 0 (Or.inl rfl)]; exact c1.1, by rw [e7]; exact c1.2.1, by rw [h 80 (Or.inr (by omega))]; exact c1.2.2.1, fun i s hs => ?_⟩
    have hi : i < q.2.length := (List.getElem?_eq_some_iff.mp hs).1
    have h8 := c.2.2.2
    have h9 := c1.2.2.1
    rw [e i (by omega)]
    exact c1.2.2.2 i s hs
theorem cTap_of {I J : zI2} {t : List Int} (h : ∀ a, (a = 138 ∨ a = 139) → J a = I a) (c : cTap I t) : cTap J t := by
  unfold cTap
  rw [h 138 (Or.inl rfl), h 139 (Or.inr rfl)]
  exact c
theorem cShe_of {I J L K : zI2} {s : Nat → Int × (Int × (Nat → Int))} (h : ∀ a, 149 ≤ a → a < 157 → J a = I a ∧ K a = L a) (c : cShe I L s) : cShe J K s := by
  intro k hk
  have c1 := c k hk
  have e1 := (h (149 + 2 * k) (by omega) (by omega)).1
  have e2 := (h (149 + 2 * k + 1) (by omega) (by omega)).2
  unfold zShr at c1 ⊢
  rw [e1, e2]
  exact c1
theorem cOrd_of {I J : zI2} (h : ∀ a, (a = 143 ∨ a = 145) → J a = I a) (c : cOrd I) : cOrd J := by
  unfold cOrd
  rw [h 143 (Or.inl rfl), h 145 (Or.inr rfl)]
  exact c
/-- an end of a call on the object: its answer v, both it and the rest of the heap as they should be -/
def zOp (sh : zH) (I L : zI2) (R : zR2) (v : zV) (A : zA) : zQ := fun r' sh' I' L' R' => r' = [v] ∧ sh' = sh ∧ (∃ P', zCA sh R' P' I' L' A) ∧ ∀ a, 157 ≤ a → I' a = I a ∧ L' a = L a ∧ R' a = R a
/-- nothing has changed but places in D, none of which anybody looks at, and the trial, which is within its ranges -/
theorem zCA_scr {sh : zH} {R : zR2} {P : Nat → Nat} {I J L K : zI2} {A : zA} (h : zCA sh R P I L A) (hJ : ∀ a, ¬ ((8 ≤ a ∧ a < 15) ∨ a = 141 ∨ (142 ≤ a ∧ a < 146)) → J a = I a) (hK : ∀ a, ¬ (a = 147 ∨ a = 148) → K a = L a) (ht : cTri J) (ho : cOrd J) : zCA sh R P J K A := by
  obtain ⟨hC, h1, h2, h3, h4, h5, h6, h7⟩ := h
  exact ⟨hC, cNow_of (fun a _ _ => hJ a (by omega)) h1, ht, cHis_of hC.2.2.1.2 (fun a _ => hJ a (by omega)) h3, cKep_of (fun a _ => hJ a (by omega)) h4, cTap_of (fun a _ => hJ a (by omega)) h5, cShe_of (fun a _ _ => ⟨hJ a (by omega), hK a (by omega)⟩) h6, ho⟩
theorem zOp_same {sh : zH} {I L : zI2} {R : zR2} {P : Nat → Nat} {A : zA} (h : zCA sh R P I L A) {x y : Int} (e : x = y) : zOp sh I L R (zI y) A [zI x] sh I L R := by
  subst e
  exact ⟨rfl, rfl, ⟨P, h⟩, fun a _ => ⟨rfl, rfl, rfl⟩⟩
theorem sad_c {S S' : zT} (h : zQe S S') {n : Nat} (hn : S 0 6 = (n : Int)) (k v l : Int) : zQe (sad S n k v l) (sad S' n k v l) := by
  have e6 : ∀ S : zT, sad S n k v l 0 6 = (n : Int) + 1 := fun S => zup_at _ _ _ _
  have e0 : ∀ (S : zT) (j : Nat), j ≠ 6 → sad S n k v l 0 j = S 0 j := fun S j hj => by
    unfold sad
    rw [zup_ne _ _ (by omega), zup_row _ _ (by decide), zup_row _ _ (by decide), zup_row _ _ (by decide), zup_row _ _ (by decide)]
  have e1 : ∀ (S : zT) (i : Nat), i = 1 ∨ i = 2 → sad S n k v l i = S i := fun S i hi => by
    unfold sad
    rw [zup_row _ _ (by omega), zup_row _ _ (by omega), zup_row _ _ (by omega), zup_row _ _ (by omega), zup_row _ _ (by omega)]
  refine ⟨⟨by rw [e6, e6], by rw [e0 _ _ (by decide), e0 _ _ (by decide)]; exact h.1.2.1, by rw [e0 _ _ (by decide), e0 _ _ (by decide)]; exact h.1.2.2⟩, fun t ht => by rw [e1 _ 1 (by decide), e1 _ 2 (by decide), e1 _ 1 (by decide), e1 _ 2 (by decide)]; exact h.2.1 t ht, fun r hr => ?_⟩
  rw [e6] at hr
  unfold sad
  by_cases hrn : r = n
  · subst hrn
    refine ⟨?_, ?_, ?_, ?_⟩
    · rw [zup_row _ _ (by decide), zup_row _ _ (by decide), zup_row _ _ (by decide), zup_row _ _ (by decide), zup_at, zup_row _ _ (by decide), zup_row _ _ (by decide), zup_row _ _ (by decide), zup_row _ _ (by decide), zup_at]
    · rw [zup_row _ _ (by decide), zup_row _ _ (by decide), zup_row _ _ (by decide), zup_at, zup_row _ _ (by decide), zup_row _ _ (by decide), zup_row _ _ (by decide), zup_at]
    · rw [zup_row _ _ (by decide), zup_row _ _ (by decide), zup_at, zup_row _ _ (by decide), zup_row _ _ (by decide), zup_at]
    · rw [zup_row _ _ (by decide), zup_at, zup_row _ _ (by decide), zup_at]
  · have h1 := h.2.2 r (by omega)
    have hx : ∀ (S : zT) (i : Nat), 3 ≤ i ∧ i ≤ 6 → zup (zup (zup (zup (zup S 3 n k) 4 n v) 5 n l) 6 n 30) 0 6 ((n : Int) + 1) i r = S i r := fun S i hi => by
      rw [zup_ne _ _ (by omega), zup_ne _ _ (by omega), zup_ne _ _ (by omega), zup_ne _ _ (by omega), zup_ne _ _ (by omega)]
    rw [hx S 3 (by omega), hx S 4 (by omega), hx S 5 (by omega), hx S 6 (by omega), hx S' 3 (by omega), hx S' 4 (by omega), hx S' 5 (by omega), hx S' 6 (by omega)]
    exact h1
theorem sad_sg {S : zT} (h : zSg S) {n : Nat} (hn : n < 5) {k v l : Int} (hk : 0 ≤ k ∧ k ≤ 4) (hv : 1 ≤ v ∧ v ≤ 20) (hl : 0 ≤ l ∧ l ≤ 7) : zSg (sad S n k v l) := by
  refine ⟨zSr_up0 (zSr_up6 (zSr_up5 (zSr_up4 (zSr_up3 h.1 n hk) n (by omega)) n hl) n (by omega)) (Or.inr (by omega)), ?_, ?_⟩
  · show 0 ≤ zup (zup (zup (zup (zup S 3 n k) 4 n v) 5 n l) 6 n 30) 0 6 ((n : Int) + 1) 0 7 ∧ _
    unfold sad
    rw [zup_ne _ _ (by omega), zup_row _ _ (by decide), zup_row _ _ (by decide), zup_row _ _ (by decide), zup_row _ _ (by decide)]
    exact h.2.1
  · unfold sad
    rw [zup_ne _ _ (by omega), zup_row _ _ (by decide), zup_row _ _ (by decide), zup_row _ _ (by decide), zup_row _ _ (by decide)]
    exact h.2.2
