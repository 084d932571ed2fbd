/-! ===== values of the picture: ints and longs as whole numbers, references as places in our own heap ===== -/
abbrev zV : Type := Int ⊕ (Int ⊕ (Option Nat ⊕ Bool))
def zI (x : Int) : zV := .inl x
def zL (x : Int) : zV := .inr (.inl x)
def zR (k : Nat) : zV := .inr (.inr (.inl (some k)))
def zS : zV := .inr (.inr (.inr true))
def zX : zV := .inr (.inr (.inr false))
/-- what is fixed of a run: our heap's base, the script's cell, length and ints, classes and slots, the arrays' classes -/
abbrev zG : Type := Nat × Nat × Nat × (Nat → Int32) × va_G × (Nat → ClassId)
def zc (G : zG) (v : zV) : Value := match v with
  | .inl x => .int (Int32.ofInt x)
  | .inr (.inl x) => .long (Int64.ofInt x)
  | .inr (.inr (.inl r)) => va_rf (r.map (G.1 + ·))
  | .inr (.inr (.inr true)) => .ref G.2.1
  | .inr (.inr (.inr false)) => .null
theorem zc_I (G : zG) (x : Int) : zc G (zI x) = .int (Int32.ofInt x) := rfl
theorem zc_L (G : zG) (x : Int) : zc G (zL x) = .long (Int64.ofInt x) := rfl
theorem zc_R (G : zG) (k : Nat) : zc G (zR k) = .ref (G.1 + k) := rfl
theorem zc_S (G : zG) : zc G zS = .ref G.2.1 := rfl
def zj (v : zV) : Bool := match v with
  | .inr (.inr (.inr false)) => true
  | _ => false
def zl (v : zV) : Bool := match v with
  | .inr (.inl _) => true
  | _ => false
theorem zc_cat (G : zG) (v : zV) (h : zl v = false) : (zc G v).category = 1 := by
  rcases v with x | x | r | b
  · rfl
  · cases h
  · cases r <;> rfl
  · cases b <;> rfl
theorem zc_cat2 (G : zG) (v : zV) (h : zl v = true) : (zc G v).category = 2 := by
  rcases v with x | x | r | b
  · cases h
  · rfl
  · cases h
  · cases h
theorem zc_catl (G : zG) (v : zV) : (zc G v).category = 2 ↔ zl v = true := by
  constructor
  · intro h
    cases hz : zl v with
    | true => rfl
    | false => rw [zc_cat G v hz] at h; cases h
  · exact zc_cat2 G v
/-! ===== local variables ===== -/
def zlp (G : zG) : Nat → List zV → List (Nat × Value)
  | _, [] => []
  | i, v :: vs => (if zj v = true then [] else [(i, zc G v)]) ++ zlp G (i + 1) vs
theorem zlp_mem {G : zG} : ∀ {ls : List zV} {i j : Nat} {v : zV}, ls[j]? = some v → zj v = false → (i + j, zc G v) ∈ zlp G i ls
  | [], _, _, _, h, _ => by simp at h
  | w :: ls, i, 0, v, h, hj => by
    have e : w = v := by simpa using h
    subst e
    simp [zlp, hj]
  | w :: ls, i, j + 1, v, h, hj => by
    have h1 : ls[j]? = some v := by simpa using h
    have h2 := zlp_mem (G := G) (i := i + 1) h1 hj
    rw [show i + 1 + j = i + (j + 1) by omega] at h2
    exact List.mem_append_right _ h2
theorem zlp_of {G : zG} : ∀ {ls : List zV} {i : Nat} {q : Nat × Value}, q ∈ zlp G i ls → ∃ j v, ls[j]? = some v ∧ zj v = false ∧ q = (i + j, zc G v)
  | [], _, _, h => by simp [zlp] at h
  | w :: ls, i, q, h => by
    rcases List.mem_append.mp h with h | h
    · cases hw : zj w with
      | true => simp [hw] at h
      | false =>
        simp [hw] at h
        exact ⟨0, w, rfl, hw, by rw [h]; rfl⟩
    · obtain ⟨j, v, h1, h2, h3⟩ := zlp_of h
      exact ⟨j + 1, v, by simpa using h1, h2, by rw [h3]; congr 1; omega⟩
theorem lv_mono {arr : Array Slot} {n : Nat} {l l' : List (Nat × Value)} (h : lv_has arr n l) (hs : ∀ q ∈ l', q ∈ l) : lv_has arr n l' := ⟨h.1, h.2.1, fun q hq => h.2.2 q (hs q hq)⟩
theorem zlp_at {G : zG} {arr : Array Slot} {n : Nat} {ls : List zV} (h : lv_has arr n (zlp G 0 ls)) {i : Nat} {v : zV} (hi : ls[i]? = some v) (hj : zj v = false) : arr[i]? = some (.val (zc G v)) := by
  have h1 := h.2.2 _ (zlp_mem (G := G) (i := 0) hi hj)
  simpa using h1
/-- the list of locals behind a store of one slot at i -/
def zst1 (ls : List zV) (i : Nat) (v : zV) (ls' : List zV) : Prop := ∀ (j : Nat) (w : zV), ls'[j]? = some w → zj w = false → (j = i ∧ w = v) ∨ (j ≠ i ∧ ls[j]? = some w ∧ ¬ (j + 1 = i ∧ zl w = true))
def zst2 (ls : List zV) (i : Nat) (v : zV) (ls' : List zV) : Prop := ∀ (j : Nat) (w : zV), ls'[j]? = some w → zj w = false → (j = i ∧ w = v) ∨ (j ≠ i ∧ j ≠ i + 1 ∧ ls[j]? = some w ∧ ¬ (j + 1 = i ∧ zl w = true))
theorem zst1_sub {G : zG} {ls ls' : List zV} {i : Nat} {v : zV} (h : zst1 ls i v ls') : ∀ q ∈ zlp G 0 ls', q ∈ (i, zc G v) :: (zlp G 0 ls).filter (fun q => !(q.1 == i) && !(q.1 + 1 == i && q.2.category == 2)) := by
  intro q hq
  obtain ⟨j, w, h1, h2, rfl⟩ := zlp_of hq
  rcases h j w h1 h2 with ⟨rfl, rfl⟩ | ⟨n1, n2, n3⟩
  · simp
  · refine List.mem_cons_of_mem _ (List.mem_filter.mpr ⟨zlp_mem n2 h2, ?_⟩)
    simp only [Nat.zero_add, Bool.and_eq_true, Bool.not_eq_true', beq_eq_false_iff_ne, ne_eq, Bool.and_eq_false_iff]
    refine ⟨n1, ?_⟩
    by_cases hc : j + 1 = i
    · refine Or.inr fun hcat => n3 ⟨hc, (zc_catl G w).mp hcat⟩
    · exact Or.inl hc
theorem zst2_sub {G : zG} {ls ls' : List zV} {i : Nat} {v : zV} (h : zst2 ls i v ls') : ∀ q ∈ zlp G 0 ls', q ∈ (i, zc G v) :: (zlp G 0 ls).filter (fun q => !(q.1 == i) && (!(q.1 == i + 1) && !(q.1 + 1 == i && q.2.category == 2))) := by
  intro q hq
  obtain ⟨j, w, h1, h2, rfl⟩ := zlp_of hq
  rcases h j w h1 h2 with ⟨rfl, rfl⟩ | ⟨n1, n1', n2, n3⟩
  · simp
  · refine List.mem_cons_of_mem _ (List.mem_filter.mpr ⟨zlp_mem n2 h2, ?_⟩)
    simp only [Nat.zero_add, Bool.and_eq_true, Bool.not_eq_true', beq_eq_false_iff_ne, ne_eq, Bool.and_eq_false_iff]
    refine ⟨n1, n1', ?_⟩
    by_cases hc : j + 1 = i
    · refine Or.inr fun hcat => n3 ⟨hc, (zc_catl G w).mp hcat⟩
    · exact Or.inl hc
theorem zst1_pat (pre : List zV) {b c v : zV} {tl : List zV} (hb : zl b = false) : zst1 (pre ++ b :: c :: tl) (pre.length + 1) v (pre ++ b :: v :: tl) := by
  intro j w hj hw
  by_cases h1 : j < pre.length
  · rw [List.getElem?_append_left h1] at hj
    refine Or.inr ⟨by omega, by rw [List.getElem?_append_left h1]; exact hj, by omega⟩
  · rw [List.getElem?_append_right (by omega)] at hj
    by_cases h2 : j = pre.length
    · subst h2
      simp at hj
      subst hj
      exact Or.inr ⟨by omega, by simp, fun h => by rw [hb] at h; cases h.2⟩
    · by_cases h3 : j = pre.length + 1
      · subst h3
        simp at hj
        exact Or.inl ⟨rfl, hj.symm⟩
      · obtain ⟨k, rfl⟩ : ∃ k, j = pre.length + 2 + k := ⟨j - (pre.length + 2), by omega⟩
        refine Or.inr ⟨by omega, ?_, by omega⟩
        rw [List.getElem?_append_right (by omega)]
        rw [show pre.length + 2 + k - pre.length = k + 2 by omega] at hj ⊢
        simpa using hj
theorem zst1_pat0 {c v : zV} {tl : List zV} : zst1 (c :: tl) 0 v (v :: tl) := by
  intro j w hj hw
  cases j with
  | zero => exact Or.inl ⟨rfl, by simpa using hj.symm⟩
  | succ k => exact Or.inr ⟨by omega, by simpa using hj, by omega⟩
theorem zst2_pat (pre : List zV) {b c d v : zV} {tl : List zV} (hb : zl b = false) : zst2 (pre ++ b :: c :: d :: tl) (pre.length + 1) v (pre ++ b :: v :: zX :: tl) := by
  intro j w hj hw
  by_cases h1 : j < pre.length
  · rw [List.getElem?_append_left h1] at hj
    refine Or.inr ⟨by omega, by omega, by rw [List.getElem?_append_left h1]; exact hj, by omega⟩
  · rw [List.getElem?_append_right (by omega)] at hj
    by_cases h2 : j = pre.length
    · subst h2
      simp at hj
      subst hj
      exact Or.inr ⟨by omega, by omega, by simp, fun h => by rw [hb] at h; cases h.2⟩
    · by_cases h3 : j = pre.length + 1
      · subst h3
        simp at hj
        exact Or.inl ⟨rfl, hj.symm⟩
      · by_cases h4 : j = pre.length + 2
        · subst h4
          rw [show pre.length + 2 - pre.length = 2 by omega] at hj
          simp at hj
          subst hj
          cases hw
        · obtain ⟨k, rfl⟩ : ∃ k, j = pre.length + 3 + k := ⟨j - (pre.length + 3), by omega⟩
          refine Or.inr ⟨by omega, by omega, ?_, by omega⟩
          rw [List.getElem?_append_right (by omega)]
          rw [show pre.length + 3 + k - pre.length = k + 3 by omega] at hj ⊢
          simpa using hj
/-- the same where a long's second half lies ahead: b is no long -/
theorem zst1_get {ls ls' : List zV} {i : Nat} {v : zV} (h : zst1 ls i v ls') : zst1 ls i v ls' := h
/-! entry -/
def zexp : List zV → List zV
  | [] => []
  | v :: vs => if zl v = true then v :: zX :: zexp vs else v :: zexp vs
def zent (n : Nat) (vs : List zV) : List zV := zexp vs ++ List.replicate (n - (zexp vs).length) zX
theorem zexp_in (G : zG) : ∀ (vs : List zV) (i : Nat) (j : Nat) (w : zV), (zexp vs)[j]? = some w → zj w = false → (i + j, zc G w) ∈ lv_args i (vs.map (zc G))
  | [], i, j, w, h, hw => by simp [zexp] at h
  | v :: vs, i, j, w, h, hw => by
    cases hz : zl v with
    | false =>
      have hc : ¬ (zc G v).category = 2 := by rw [zc_cat G v hz]; decide
      rw [zexp, hz, if_neg (by decide)] at h
      show _ ∈ (i, zc G v) :: lv_args (if (zc G v).category = 2 then i + 2 else i + 1) (vs.map (zc G))
      rw [if_neg hc]
      cases j with
      | zero =>
        have e : v = w := by simpa using h
        subst e
        exact List.mem_cons_self
      | succ j =>
        have := zexp_in G vs (i + 1) j w (by simpa using h) hw
        rw [show i + 1 + j = i + (j + 1) by omega] at this
        exact List.mem_cons_of_mem _ this
    | true =>
      have hc : (zc G v).category = 2 := zc_cat2 G v hz
      rw [zexp, hz, if_pos rfl] at h
      show _ ∈ (i, zc G v) :: lv_args (if (zc G v).category = 2 then i + 2 else i + 1) (vs.map (zc G))
      rw [if_pos hc]
      match j, h with
      | 0, h =>
        have e : v = w := by simpa using h
        subst e
        exact List.mem_cons_self
      | 1, h =>
        have e : zX = w := by simpa using h
        subst e
        cases hw
      | j + 2, h =>
        have := zexp_in G vs (i + 2) j w (by simpa using h) hw
        rw [show i + 2 + j = i + (j + 2) by omega] at this
        exact List.mem_cons_of_mem _ this
theorem zent_in (G : zG) (vs : List zV) (n : Nat) : ∀ q ∈ zlp G 0 (zent n vs), q ∈ lv_args 0 (vs.map (zc G)) := by
  intro q hq
  obtain ⟨j, w, h1, h2, rfl⟩ := zlp_of hq
  unfold zent at h1
  by_cases hj : j < (zexp vs).length
  · rw [List.getElem?_append_left hj] at h1
    exact zexp_in G vs 0 j w h1 h2
  · rw [List.getElem?_append_right (by omega)] at h1
    have := List.eq_of_mem_replicate (List.mem_of_getElem? h1)
    subst this
    cases h2
def zwords (vs : List zV) : Nat := (vs.map fun v => if zl v = true then 2 else 1).sum
theorem zwords_sl (G : zG) : ∀ vs : List zV, (lg_sl (vs.map (zc G))).length = zwords vs
  | [] => rfl
  | v :: vs => by
    have ih := zwords_sl G vs
    cases hz : zl v with
    | false =>
      have hc : ¬ (zc G v).category = 2 := by rw [zc_cat G v hz]; decide
      have e : lg_sl ((v :: vs).map (zc G)) = [.val (zc G v)] ++ lg_sl (vs.map (zc G)) := by simp [lg_sl, hc]
      rw [e, List.length_append, ih]
      simp [zwords, hz]
    | true =>
      have hc : (zc G v).category = 2 := zc_cat2 G v hz
      have e : lg_sl ((v :: vs).map (zc G)) = [.val (zc G v), .second] ++ lg_sl (vs.map (zc G)) := by simp [lg_sl, hc]
      rw [e, List.length_append, ih]
      simp [zwords, hz]
theorem zwords_cat (G : zG) : ∀ vs : List zV, ((vs.map (zc G)).map fun v => v.category).sum = zwords vs
  | [] => rfl
  | v :: vs => by
    have ih := zwords_cat G vs
    have ih2 : (List.map (fun v => v.category) (List.map (zc G) vs)).sum = (List.map (fun v => if zl v = true then 2 else 1) vs).sum := ih
    simp only [zwords, List.map_cons, List.sum_cons, ih2]
    congr 1
    cases hz : zl v with
    | false => simpa [hz] using zc_cat G v hz
    | true => simpa [hz] using zc_cat2 G v hz
