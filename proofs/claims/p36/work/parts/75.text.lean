/-! ===== the law's text, and what the class reads of it ===== -/
def ntx (v : Int) : List Int := if v < 10 then [48 + v % 10] else [48 + v / 10, 48 + v % 10]
def ttx (V : zT) : Nat → Nat → List Int
  | 0, _ => []
  | m + 1, t => (48 + V 1 t) :: ((if V 2 t = 0 then [] else [94, 48 + V 2 t]) ++ ttx V m (t + 1))
def rtx (V : zT) (r : Nat) : List Int := (if r = 0 then 59 else 44) :: psrt (V 3 r) :: (ntx (V 4 r) ++ (if V 5 r = 0 then [] else [60, 48 + V 5 r]))
def rts (V : zT) : Nat → Nat → List Int
  | 0, _ => []
  | m + 1, r => rtx V r ++ rts V m (r + 1)
theorem drop_s {L : List Int} {k : Nat} {c : Int} {r : List Int} (h : L.drop k = c :: r) : k < L.length ∧ tlst L k = c ∧ L.drop (k + 1) = r := by
  have h1 : k < L.length := by
    rcases Nat.lt_or_ge k L.length with h1 | h1
    · exact h1
    · rw [List.drop_eq_nil_of_le h1] at h; cases h
  rw [List.drop_eq_getElem_cons h1] at h
  injection h with h2 h3
  refine ⟨h1, ?_, h3⟩
  unfold tlst
  rw [List.getD_eq_getElem?_getD, List.getElem?_eq_getElem h1]
  exact h2
theorem drop_0 {L : List Int} {k : Nat} (h : L.drop k = []) (hk : k ≤ L.length) : k = L.length := by
  rcases Nat.lt_or_ge k L.length with h1 | h1
  · rw [List.drop_eq_getElem_cons h1] at h; cases h
  · omega
section PARSE
variable {L : List Int}
/-- a letter that is no blank -/
theorem par_1 {k : Nat} {c : Int} {r : List Int} (h : L.drop k = c :: r) (h32 : c ≠ 32) : tnl (tlst L) L.length k = k ∧ tat (tlst L) L.length k = c ∧ L.drop (k + 1) = r ∧ k + 1 ≤ L.length := by
  obtain ⟨h1, h2, h3⟩ := drop_s h
  refine ⟨?_, ?_, h3, h1⟩
  · unfold tnl
    obtain ⟨m, hm⟩ : ∃ m, L.length - k = m + 1 := ⟨L.length - k - 1, by omega⟩
    rw [hm, tsk, h2, if_neg h32]
  · unfold tat
    rw [if_pos h1, h2]
theorem par_0 {k : Nat} (h : L.drop k = []) (hk : k ≤ L.length) : tnl (tlst L) L.length k = k ∧ tat (tlst L) L.length k = -1 := by
  have e := drop_0 h hk
  subst e
  refine ⟨?_, ?_⟩
  · unfold tnl
    rw [Nat.sub_self]
    rfl
  · unfold tat
    rw [if_neg (by omega)]
/-- where the next letter isn't c (nor a blank): it is looked at where it stands -/
def hdn (r : List Int) (P : Int → Prop) : Prop := ∀ c s, r = c :: s → P c
theorem par_h {k : Nat} {r : List Int} {P : Int → Prop} (h : L.drop k = r) (hk : k ≤ L.length) (hp : hdn r P) (h32 : ∀ c, P c → c ≠ 32) : tnl (tlst L) L.length k = k ∧ (tat (tlst L) L.length k = -1 ∨ P (tat (tlst L) L.length k)) := by
  cases r with
  | nil =>
    obtain ⟨a, b⟩ := par_0 h hk
    exact ⟨a, Or.inl b⟩
  | cons c s =>
    have hc := hp c s rfl
    obtain ⟨a, b, _, _⟩ := par_1 h (h32 c hc)
    exact ⟨a, Or.inr (by rw [b]; exact hc)⟩
theorem par_d {k : Nat} {c lo hi : Int} {r : List Int} (h : L.drop k = c :: r) (hc : lo ≤ c ∧ c ≤ hi) (h32 : 33 ≤ lo) : tdg (tlst L) L.length lo hi k = (c - 48, k + 1) := by
  obtain ⟨a, b, _, _⟩ := par_1 h (by omega)
  unfold tdg
  rw [a, b, if_pos hc]
def sup (V : zT) : Nat → Nat → zT → zT
  | 0, _, S => S
  | m + 1, t, S => sup V m (t + 1) (zup (zup S 1 t (V 1 t)) 2 t (V 2 t))
theorem par_turns {V : zT} (hV : zSr V) {rest : List Int} (hr : hdn rest (fun c => c = 59)) : ∀ (m t k : Nat) (S : zT), t + m = 10 → k ≤ L.length → L.drop k = ttx V m t ++ rest → ∃ k', ttl (tlst L) L.length m t k S = (1, k', sup V m t S) ∧ k' ≤ L.length ∧ L.drop k' = rest
  | 0, t, k, S, _, hk, h => ⟨k, rfl, hk, h⟩
  | m + 1, t, k, S, ht, hk, h => by
    have g1 := hV.2.1 t (by omega)
    have g2 := hV.2.2.1 t (by omega)
    have h' : L.drop k = (48 + V 1 t) :: ((if V 2 t = 0 then [] else [94, 48 + V 2 t]) ++ (ttx V m (t + 1) ++ rest)) := by
      rw [h]
      show (48 + V 1 t) :: (((if V 2 t = 0 then [] else [94, 48 + V 2 t]) ++ ttx V m (t + 1)) ++ rest) = _
      rw [List.append_assoc]
    have e1 : tdg (tlst L) L.length 48 57 k = (V 1 t, k + 1) := by
      rw [par_d h' (by omega) (by omega)]
      congr 1
      omega
    obtain ⟨_, _, h2, hk1⟩ := par_1 h' (by omega)
    have key : ∃ k2, tbm (tlst L) L.length (k + 1) = (V 2 t, k2) ∧ k2 ≤ L.length ∧ L.drop k2 = ttx V m (t + 1) ++ rest := by
      by_cases hb : V 2 t = 0
      · rw [if_pos hb, List.nil_append] at h2
        have hh : hdn (ttx V m (t + 1) ++ rest) (fun c => 48 ≤ c ∧ c ≤ 59) := by
          intro c s e
          cases m with
          | zero =>
            have := hr c s e
            omega
          | succ m =>
            have g3 := hV.2.1 (t + 1) (by omega)
            injection e with e3 _
            omega
        obtain ⟨a, b⟩ := par_h h2 hk1 hh (fun c hc => by omega)
        refine ⟨k + 1, ?_, hk1, h2⟩
        unfold tbm
        rw [a, if_neg (by omega), hb]
      · rw [if_neg hb] at h2
        obtain ⟨a, b, h3, hk2⟩ := par_1 h2 (by omega)
        obtain ⟨_, _, h4, hk3⟩ := par_1 h3 (by omega)
        refine ⟨k + 1 + 1 + 1, ?_, hk3, h4⟩
        unfold tbm
        rw [a, b, if_pos rfl, par_d h3 (by omega) (by omega)]
        congr 1
        omega
    obtain ⟨k2, e2, hk2, h5⟩ := key
    obtain ⟨k', e3, hk', h6⟩ := par_turns hV hr m (t + 1) k2 (zup (zup S 1 t (V 1 t)) 2 t (V 2 t)) (by omega) hk2 h5
    refine ⟨k', ?_, hk', h6⟩
    unfold ttl
    rw [e1]
    show (if V 1 t = -4 then _ else if (tbm (tlst L) L.length (k + 1)).1 = -4 then _ else _) = _
    rw [e2]
    show (if V 1 t = -4 then _ else if V 2 t = -4 then _ else ttl (tlst L) L.length m (t + 1) k2 (zup (zup S 1 t (V 1 t)) 2 t (V 2 t))) = _
    rw [if_neg (by omega), if_neg (by omega), e3]
    rfl
theorem psrt_k {v : Int} (h : 0 ≤ v ∧ v ≤ 4) : tkd (psrt v) = v ∧ 99 ≤ psrt v ∧ psrt v ≤ 115 := by
  rcases (by omega : v = 0 ∨ v = 1 ∨ v = 2 ∨ v = 3 ∨ v = 4) with e | e | e | e | e <;> subst e <;> decide
theorem par_num {v : Int} (hv : 1 ≤ v ∧ v ≤ 20) {rest : List Int} (hr : hdn rest (fun c => c = 44 ∨ c = 60)) {k : Nat} (hk : k ≤ L.length) (h : L.drop k = ntx v ++ rest) : ∃ k', thv (tlst L) L.length k = (v, k') ∧ k' ≤ L.length ∧ L.drop k' = rest := by
  unfold ntx at h
  by_cases h10 : v < 10
  · rw [if_pos h10] at h
    have h' : L.drop k = (48 + v % 10) :: rest := h
    obtain ⟨_, _, h2, hk1⟩ := par_1 h' (by omega)
    obtain ⟨a, b⟩ := par_h h2 hk1 hr (fun c hc => by omega)
    refine ⟨k + 1, ?_, hk1, h2⟩
    have e1 := par_d h' (lo := 48) (hi := 57) (by omega) (by omega)
    unfold thv
    rw [e1]
    show (if 48 + v % 10 - 48 = -4 then _ else if 48 ≤ tat (tlst L) L.length (k + 1) ∧ tat (tlst L) L.length (k + 1) ≤ 57 then _ else if 1 ≤ 48 + v % 10 - 48 ∧ 48 + v % 10 - 48 ≤ 20 then (48 + v % 10 - 48, k + 1) else _) = _
    rw [if_neg (by omega), if_neg (by omega), if_pos (by omega)]
    congr 1
    omega
  · rw [if_neg h10] at h
    have h' : L.drop k = (48 + v / 10) :: (48 + v % 10) :: rest := h
    obtain ⟨_, _, h2, hk1⟩ := par_1 h' (by omega)
    obtain ⟨_, b, h3, hk2⟩ := par_1 h2 (by omega)
    refine ⟨k + 1 + 1, ?_, hk2, h3⟩
    have e1 := par_d h' (lo := 48) (hi := 57) (by omega) (by omega)
    unfold thv
    rw [e1]
    show (if 48 + v / 10 - 48 = -4 then _ else if 48 ≤ tat (tlst L) L.length (k + 1) ∧ tat (tlst L) L.length (k + 1) ≤ 57 then (if 1 ≤ 10 * (48 + v / 10 - 48) + tat (tlst L) L.length (k + 1) - 48 ∧ 10 * (48 + v / 10 - 48) + tat (tlst L) L.length (k + 1) - 48 ≤ 20 then (10 * (48 + v / 10 - 48) + tat (tlst L) L.length (k + 1) - 48, k + 1 + 1) else _) else _) = _
    rw [b, if_neg (by omega), if_pos (by omega), if_pos (by omega)]
    congr 1
    omega
theorem par_rider {V : zT} {r : Nat} (hV : zSr V) (h5 : r < 5) (hv : 1 ≤ V 4 r) {rest : List Int} (hr : hdn rest (fun c => c = 44)) {k : Nat} {S : zT} (hk : k ≤ L.length) (h : L.drop k = psrt (V 3 r) :: (ntx (V 4 r) ++ ((if V 5 r = 0 then [] else [60, 48 + V 5 r]) ++ rest))) : ∃ k', trr (tlst L) L.length r k S = (1, k', sad S r (V 3 r) (V 4 r) (V 5 r)) ∧ k' ≤ L.length ∧ L.drop k' = rest := by
  have g3 := hV.2.2.2.1 r h5
  have g4 := hV.2.2.2.2.1 r h5
  have g5 := hV.2.2.2.2.2.1 r h5
  obtain ⟨p1, p2, p3⟩ := psrt_k g3
  obtain ⟨a1, b1, h2, hk1⟩ := par_1 h (by omega)
  obtain ⟨k2, e2, hk2, h3⟩ := par_num (v := V 4 r) (by omega) (rest := (if V 5 r = 0 then [] else [60, 48 + V 5 r]) ++ rest) (by
    intro c s e
    by_cases h0 : V 5 r = 0
    · rw [if_pos h0] at e
      exact Or.inl (hr c s e)
    · rw [if_neg h0] at e
      injection e with e3 _
      exact Or.inr e3.symm) hk1 h2
  have key : ∃ k3, tle (tlst L) L.length k2 = (V 5 r, k3) ∧ k3 ≤ L.length ∧ L.drop k3 = rest := by
    by_cases h0 : V 5 r = 0
    · rw [if_pos h0, List.nil_append] at h3
      obtain ⟨a, b⟩ := par_h h3 hk2 hr (fun c hc => by omega)
      refine ⟨k2, ?_, hk2, h3⟩
      unfold tle
      rw [a, if_neg (by omega), h0]
    · rw [if_neg h0] at h3
      obtain ⟨a, b, h4, hk3⟩ := par_1 h3 (by omega)
      obtain ⟨_, _, h6, hk4⟩ := par_1 h4 (by omega)
      refine ⟨k2 + 1 + 1, ?_, hk4, h6⟩
      unfold tle
      rw [a, b, if_pos rfl, par_d h4 (by omega) (by omega)]
      congr 1
      omega
  obtain ⟨k3, e3, hk3, h7⟩ := key
  refine ⟨k3, ?_, hk3, h7⟩
  unfold trr
  rw [a1, b1, p1, if_neg (by omega), e2]
  show (if V 4 r = -4 then _ else if (tle (tlst L) L.length k2).1 = -4 then _ else (1, (tle (tlst L) L.length k2).2, sad S r (V 3 r) (V 4 r) (tle (tlst L) L.length k2).1)) = _
  rw [e3]
  show (if V 4 r = -4 then _ else if V 5 r = -4 then _ else ((1 : Int), k3, sad S r (V 3 r) (V 4 r) (V 5 r))) = _
  rw [if_neg (by omega), if_neg (by omega)]
def sur (V : zT) : Nat → Nat → zT → zT
  | 0, _, S => S
  | m + 1, r, S => sur V m (r + 1) (sad S r (V 3 r) (V 4 r) (V 5 r))
theorem rts_h (V : zT) (m : Nat) {r : Nat} (h : 1 ≤ r) : hdn (rts V m r) (fun c => c = 44) := by
  intro c s e
  cases m with
  | zero => cases e
  | succ m =>
    have e' : rtx V r ++ rts V m (r + 1) = c :: s := e
    unfold rtx at e'
    rw [if_neg (by omega)] at e'
    injection e' with e3 _
    exact e3.symm
theorem par_riders {V : zT} (hV : zSr V) : ∀ (m x r k : Nat) (S : zT), 1 ≤ r → r + m + x = 5 → (∀ q, r ≤ q → q < r + m → 1 ≤ V 4 q) → k ≤ L.length → L.drop k = rts V m r → ∃ k', trl (tlst L) L.length (m + x) r k S = (1, k', sur V m r S) ∧ k' = L.length
  | 0, 0, r, k, S, _, _, _, hk, h => ⟨k, rfl, drop_0 h hk⟩
  | 0, x + 1, r, k, S, _, _, _, hk, h => by
    obtain ⟨a, b⟩ := par_0 h hk
    refine ⟨k, ?_, drop_0 h hk⟩
    rw [Nat.zero_add]
    unfold trl
    rw [a, b, if_neg (by omega)]
    rfl
  | m + 1, x, r, k, S, h1, hx, hv, hk, h => by
    have h' : L.drop k = 44 :: psrt (V 3 r) :: (ntx (V 4 r) ++ ((if V 5 r = 0 then [] else [60, 48 + V 5 r]) ++ rts V m (r + 1))) := by
      rw [h]
      show rtx V r ++ rts V m (r + 1) = _
      unfold rtx
      rw [if_neg (by omega)]
      show 44 :: psrt (V 3 r) :: ((ntx (V 4 r) ++ (if V 5 r = 0 then [] else [60, 48 + V 5 r])) ++ rts V m (r + 1)) = _
      rw [List.append_assoc]
    obtain ⟨a, b, h2, hk1⟩ := par_1 h' (by omega)
    obtain ⟨k2, e2, hk2, h3⟩ := par_rider (S := S) hV (by omega) (hv r (by omega) (by omega)) (rts_h V m (by omega)) hk1 h2
    obtain ⟨k', e3, hk'⟩ := par_riders hV m x (r + 1) k2 (sad S r (V 3 r) (V 4 r) (V 5 r)) (by omega) (by omega) (fun q q1 q2 => hv q (by omega) (by omega)) hk2 h3
    refine ⟨k', ?_, hk'⟩
    rw [show m + 1 + x = (m + x) + 1 by omega]
    unfold trl
    rw [a, b, if_pos rfl, e2, if_neg (by show ¬ (1 : Int) = 0; omega)]
    exact e3
/-- the whole text -/
theorem par_all {V : zT} {n : Nat} (hV : zSr V) (hn : n < 5) (hv : ∀ q, q < n + 1 → 1 ≤ V 4 q) (hL : L = ttx V 10 0 ++ rts V (n + 1) 0) : ∃ k', tsl (tlst L) L.length zz = (1, k', sur V (n + 1) 0 (sup V 10 0 (zup (zup zz 0 6 0) 0 7 0))) := by
  have h0 : L.drop 0 = ttx V 10 0 ++ rts V (n + 1) 0 := hL
  obtain ⟨k1, e1, hk1, h1⟩ := par_turns hV (rest := rts V (n + 1) 0) (by
    intro c s e
    have e' : rtx V 0 ++ rts V n 1 = c :: s := e
    unfold rtx at e'
    rw [if_pos rfl] at e'
    injection e' with e3 _
    exact e3.symm) 10 0 0 (zup (zup zz 0 6 0) 0 7 0) rfl (Nat.zero_le _) h0
  have h' : L.drop k1 = 59 :: psrt (V 3 0) :: (ntx (V 4 0) ++ ((if V 5 0 = 0 then [] else [60, 48 + V 5 0]) ++ rts V n 1)) := by
    rw [h1]
    show rtx V 0 ++ rts V n 1 = _
    unfold rtx
    rw [if_pos rfl]
    show 59 :: psrt (V 3 0) :: ((ntx (V 4 0) ++ (if V 5 0 = 0 then [] else [60, 48 + V 5 0])) ++ rts V n 1) = _
    rw [List.append_assoc]
  obtain ⟨a, b, h2, hk2⟩ := par_1 h' (by omega)
  obtain ⟨k3, e3, hk3, h3⟩ := par_rider (S := sup V 10 0 (zup (zup zz 0 6 0) 0 7 0)) hV (by omega) (hv 0 (by omega)) (rts_h V n (by omega)) hk2 h2
  obtain ⟨k4, e4, hk4⟩ := par_riders hV n (4 - n) 1 k3 (sad (sup V 10 0 (zup (zup zz 0 6 0) 0 7 0)) 0 (V 3 0) (V 4 0) (V 5 0)) (by omega) (by omega) (fun q q1 q2 => hv q (by omega)) hk3 h3
  rw [show n + (4 - n) = 4 by omega] at e4
  have e5 : trs (tlst L) L.length (k1 + 1) (sup V 10 0 (zup (zup zz 0 6 0) 0 7 0)) = (1, k4, sur V (n + 1) 0 (sup V 10 0 (zup (zup zz 0 6 0) 0 7 0))) := by
    unfold trs
    rw [e3, if_neg (by show ¬ (1 : Int) = 0; omega)]
    exact e4
  obtain ⟨c1, c2⟩ := par_0 (L := L) (k := k4) (by rw [hk4, List.drop_length]) (by omega)
  refine ⟨k4, ?_⟩
  unfold tsl
  rw [e1, if_neg (by show ¬ (1 : Int) = 0; omega)]
  show tsr (tlst L) L.length k1 (sup V 10 0 (zup (zup zz 0 6 0) 0 7 0)) = _
  rw [tsr_trS]
  have e6 : trS (tlst L) L.length k1 (sup V 10 0 (zup (zup zz 0 6 0) 0 7 0)) = (1, k4, sur V (n + 1) 0 (sup V 10 0 (zup (zup zz 0 6 0) 0 7 0))) := by
    unfold trS
    rw [a, b, if_pos rfl, e5]
  rw [e6]
  show (if (1 : Int) = 0 then _ else ((if tat (tlst L) L.length (tnl (tlst L) L.length k4) = -1 then 1 else 0 : Int), tnl (tlst L) L.length k4, sur V (n + 1) 0 (sup V 10 0 (zup (zup zz 0 6 0) 0 7 0)))) = _
  rw [if_neg (by decide), c1, c2, if_pos rfl]
end PARSE
/-- what is read is what was told -/
theorem sup_s (V : zT) : ∀ (m t : Nat) (S : zT), (∀ a, a ≠ 1 → a ≠ 2 → sup V m t S a = S a) ∧ ∀ u, (t ≤ u ∧ u < t + m → sup V m t S 1 u = V 1 u ∧ sup V m t S 2 u = V 2 u) ∧ (u < t → sup V m t S 1 u = S 1 u ∧ sup V m t S 2 u = S 2 u)
  | 0, t, S => ⟨fun _ _ _ => rfl, fun u => ⟨fun h => by omega, fun _ => ⟨rfl, rfl⟩⟩⟩
  | m + 1, t, S => by
    obtain ⟨h1, h2⟩ := sup_s V m (t + 1) (zup (zup S 1 t (V 1 t)) 2 t (V 2 t))
    refine ⟨fun a a1 a2 => ?_, fun u => ⟨fun hu => ?_, fun hu => ?_⟩⟩
    · show sup V m (t + 1) _ a = _
      rw [h1 a a1 a2, zup_row _ _ a2, zup_row _ _ a1]
    · show sup V m (t + 1) _ 1 u = _ ∧ sup V m (t + 1) _ 2 u = _
      by_cases e : u = t
      · subst e
        rw [((h2 u).2 (by omega)).1, ((h2 u).2 (by omega)).2]
        exact ⟨by rw [zup_row _ _ (by decide), zup_at], zup_at _ _ _ _⟩
      · exact (h2 u).1 (by omega)
    · show sup V m (t + 1) _ 1 u = _ ∧ sup V m (t + 1) _ 2 u = _
      rw [((h2 u).2 (by omega)).1, ((h2 u).2 (by omega)).2]
      exact ⟨by rw [zup_row _ _ (by decide), zup_ne _ _ (by omega)], by rw [zup_ne _ _ (by omega), zup_row _ _ (by decide)]⟩
theorem sad_s (S : zT) (r : Nat) (k h l : Int) : (∀ a, a = 1 ∨ a = 2 → sad S r k h l a = S a) ∧ sad S r k h l 0 6 = (r : Int) + 1 ∧ sad S r k h l 0 7 = S 0 7 ∧ (∀ q, q ≠ r → sad S r k h l 3 q = S 3 q ∧ sad S r k h l 4 q = S 4 q ∧ sad S r k h l 5 q = S 5 q ∧ sad S r k h l 6 q = S 6 q) ∧ sad S r k h l 3 r = k ∧ sad S r k h l 4 r = h ∧ sad S r k h l 5 r = l ∧ sad S r k h l 6 r = 30 := by
  unfold sad zup
  refine ⟨fun a ha => ?_, ?_, ?_, fun q hq => ?_, ?_, ?_, ?_, ?_⟩
  · rcases ha with h | h <;> subst h <;> (funext c; simp)
  all_goals simp
  all_goals simp [hq]
theorem sur_s (V : zT) : ∀ (m r : Nat) (S : zT), S 0 6 = (r : Int) → (∀ a, a = 1 ∨ a = 2 → sur V m r S a = S a) ∧ sur V m r S 0 6 = (r : Int) + m ∧ sur V m r S 0 7 = S 0 7 ∧ ∀ q, (r ≤ q ∧ q < r + m → sur V m r S 3 q = V 3 q ∧ sur V m r S 4 q = V 4 q ∧ sur V m r S 5 q = V 5 q ∧ sur V m r S 6 q = 30) ∧ (q < r → sur V m r S 3 q = S 3 q ∧ sur V m r S 4 q = S 4 q ∧ sur V m r S 5 q = S 5 q ∧ sur V m r S 6 q = S 6 q)
  | 0, r, S, h6 => ⟨fun _ _ => rfl, by show S 0 6 = _; omega, rfl, fun q => ⟨fun h => by omega, fun _ => ⟨rfl, rfl, rfl, rfl⟩⟩⟩
  | m + 1, r, S, h6 => by
    obtain ⟨s1, s2, s3, s4, s5, s6, s7, s8⟩ := sad_s S r (V 3 r) (V 4 r) (V 5 r)
    obtain ⟨h1, h2, h3, h4⟩ := sur_s V m (r + 1) (sad S r (V 3 r) (V 4 r) (V 5 r)) (by rw [s2]; omega)
    refine ⟨fun a ha => (h1 a ha).trans (s1 a ha), ?_, h3.trans s3, fun q => ⟨fun hq => ?_, fun hq => ?_⟩⟩
    · show sur V m (r + 1) _ 0 6 = _
      rw [h2]
      omega
    · by_cases e : q = r
      · subst e
        obtain ⟨a, b, c, d⟩ := (h4 q).2 (by omega)
        exact ⟨a.trans s5, b.trans s6, c.trans s7, d.trans s8⟩
      · exact (h4 q).1 (by omega)
    · obtain ⟨a, b, c, d⟩ := (h4 q).2 (by omega)
      obtain ⟨e1, e2, e3, e4⟩ := s4 q (by omega)
      exact ⟨a.trans e1, b.trans e2, c.trans e3, d.trans e4⟩
theorem ntx_len {v : Int} : (ntx v).length ≤ 2 := by
  unfold ntx
  split
  · show 1 ≤ 2; omega
  · show 2 ≤ 2; omega
theorem ttx_len (V : zT) : ∀ (m t : Nat), (ttx V m t).length ≤ 3 * m
  | 0, _ => Nat.le_refl _
  | m + 1, t => by
    have := ttx_len V m (t + 1)
    unfold ttx
    rw [List.length_cons, List.length_append]
    split
    · show 0 + _ + 1 ≤ _; omega
    · show 2 + _ + 1 ≤ _; omega
