/-! ===== orders: what the best one is ===== -/
theorem lft_keep {S : zT} (hS : S 0 6 ≤ 5) {t : Nat} (ht : t < 10) {q : Nat} (h : S 6 q = 30 ∨ S 6 q < 8) : lft S t 6 q = S 6 q := by
  unfold lft
  split
  · rfl
  · rename_i hn
    rcases sst_r S t hS with h1 | ⟨h1, h2, h3, h4⟩
    · exact absurd h1 hn
    · rw [zup6_at]
      split
      · rename_i e
        rw [e] at h
        omega
      · rfl
theorem sdn_keep {w : Nat → Int} {q : Nat} : ∀ (m t : Nat) (S : zT), t + m ≤ 10 → S 0 6 ≤ 5 → (S 6 q = 30 ∨ S 6 q < 8) → sdn w m t S 6 q = S 6 q
  | 0, t, S, _, _, _ => rfl
  | m + 1, t, S, ht, hS, h => by
    have hl := lft_keep (S := S) hS (t := t) (by omega) h
    unfold sdn
    split
    · exact hl
    · have e6 : zup (lft S t) 1 t (if 0 < lft S t 1 t - 1 then lft S t 1 t - 1 else 0) 6 = lft S t 6 := zup_row _ _ (by decide)
      have e0 : zup (lft S t) 1 t (if 0 < lft S t 1 t - 1 then lft S t 1 t - 1 else 0) 0 = S 0 := (zup_row _ _ (by decide)).trans (lft_0 S t)
      rw [sdn_keep m (t + 1) _ (by omega) (by rw [e0]; exact hS) (by rw [e6, hl]; exact h), e6, hl]
theorem send_keep {S : zT} (hS : S 0 6 ≤ 5) {r q : Nat} (hq : q ≠ r) (h : S 6 q = 30 ∨ S 6 q < 8) : send S r 6 q = S 6 q := by
  rw [send_6, if_neg hq]
  exact sdn_keep 10 0 S (by omega) hS h
theorem ssq_06 (f : Nat → Int) : ∀ (m k : Nat) (S : zT), ssq f m k S 0 6 = S 0 6
  | 0, k, S => rfl
  | m + 1, k, S => by
    unfold ssq
    rw [ssq_06 f m (k + 1) _, send_06 _ _ 6 (by decide)]
theorem ssq_keep {f : Nat → Int} {q : Nat} : ∀ (m k : Nat) (S : zT), S 0 6 ≤ 5 → (∀ j, k ≤ j → j < k + m → (f j).toNat ≠ q) → (S 6 q = 30 ∨ S 6 q < 8) → ssq f m k S 6 q = S 6 q
  | 0, k, S, _, _, _ => rfl
  | m + 1, k, S, hS, hf, h => by
    unfold ssq
    have e := send_keep (S := S) hS (r := (f k).toNat) (q := q) (fun z => hf k (by omega) (by omega) z.symm) h
    rw [ssq_keep m (k + 1) _ (by rw [send_06 _ _ 6 (by decide)]; exact hS) (fun j a b => hf j (by omega) (by omega)) (by rw [e]; exact h), e]
/-- the sends of those at the top, by number -/
def csq (P : Nat → Int) : Nat → Nat → zT → zT
  | 0, _, T => T
  | m + 1, r, T => csq P m (r + 1) (if P r = 30 then send T r else T)
theorem csq_s (P : Nat → Int) : ∀ (m r : Nat) (f : Nat → Int) (x : Nat) (T : zT), csq P m r T = ssq (obg P m r f x).1 ((obg P m r f x).2 - x) x T
  | 0, r, f, x, T => by
    unfold csq obg
    rw [Nat.sub_self]
    rfl
  | m + 1, r, f, x, T => by
    unfold csq obg
    by_cases h : P r = 30
    · rw [if_pos h, if_pos h, csq_s P m (r + 1) (fun q => if q = x then (r : Int) else f q) (x + 1)]
      obtain ⟨h1, h2, _, _⟩ := obg_r P m (r + 1) (fun q => if q = x then (r : Int) else f q) (x + 1)
      have e := h2 x (by omega)
      rw [if_pos rfl] at e
      rw [show (obg P m (r + 1) (fun q => if q = x then (r : Int) else f q) (x + 1)).2 - x = ((obg P m (r + 1) (fun q => if q = x then (r : Int) else f q) (x + 1)).2 - (x + 1)) + 1 by omega]
      show _ = ssq _ _ (x + 1) (send T ((obg P m (r + 1) (fun q => if q = x then (r : Int) else f q) (x + 1)).1 x).toNat)
      rw [e, Int.toNat_natCast]
    · rw [if_neg h, if_neg h]
      exact csq_s P m (r + 1) f x T
theorem psz_obg {P : Nat → Int} {c : Nat} : ∀ (m r : Nat) (f : Nat → Int) (x : Nat), (∀ q, r ≤ q → q < r + m → (c.testBit q = true ↔ P q = 30)) → psz c m r (x : Int) = ((obg P m r f x).2 : Int)
  | 0, r, f, x, _ => rfl
  | m + 1, r, f, x, h => by
    have h0 := h r (by omega) (by omega)
    unfold psz obg
    by_cases hp : P r = 30
    · rw [if_pos hp, bti_1.mpr (h0.mpr hp), ← psz_obg m (r + 1) _ (x + 1) (fun q a b => h q (by omega) (by omega))]
      rfl
    · rw [if_neg hp, bti_0.mpr (by rw [Bool.eq_false_iff]; exact fun z => hp (h0.mp z)), Int.add_zero]
      exact psz_obg m (r + 1) f x (fun q a b => h q (by omega) (by omega))
theorem psz_add (c : Nat) (m' : Nat) : ∀ (m r : Nat) (x : Int), psz c (m + m') r x = psz c m' (r + m) (psz c m r x)
  | 0, r, x => by rw [Nat.zero_add]; rfl
  | m + 1, r, x => by
    rw [show m + 1 + m' = (m + m') + 1 by omega]
    show psz c (m + m') (r + 1) (x + bti c r) = psz c m' (r + (m + 1)) (psz c m (r + 1) (x + bti c r))
    rw [psz_add c m' m (r + 1), show r + 1 + m = r + (m + 1) by omega]
theorem psz_0 {c : Nat} : ∀ (m r : Nat) (x : Int), (∀ q, r ≤ q → c.testBit q = false) → psz c m r x = x
  | 0, r, x, _ => rfl
  | m + 1, r, x, h => by
    unfold psz
    rw [bti_0.mpr (h r (Nat.le_refl _)), Int.add_zero]
    exact psz_0 m (r + 1) x (fun q a => h q (by omega))
/-- those at the top: as bits, as many -/
theorem top_b {S : zT} (h : 0 ≤ S 0 6 ∧ S 0 6 ≤ 5) : ∃ c : Nat, stop_ S = (c : Int) ∧ c < 2 ^ 5 ∧ (∀ j, (c.testBit j = true ↔ ((j : Int) < S 0 6 ∧ S 6 j = 30))) ∧ pcn (stop_ S) = (otn S : Int) := by
  obtain ⟨c, c1, c2, c3⟩ := zst_0 (P := fun r => S 6 r = 30) (n := 5) (by omega) (m := (S 0 6).toNat) (by omega)
  have c1' : stop_ S = (c : Int) := c1
  refine ⟨c, c1', c2, fun j => ?_, ?_⟩
  · rw [c3 j]
    constructor
    · rintro ⟨a, b⟩; exact ⟨by omega, b⟩
    · rintro ⟨a, b⟩; exact ⟨by omega, b⟩
  · have e5 : (2 : Nat) ^ 5 = 32 := by decide
    rw [c1', ← psz_pcn (by omega), Int.toNat_natCast, show (5 : Nat) = (S 0 6).toNat + (5 - (S 0 6).toNat) by omega, psz_add, psz_0 (c := c) _ _ _ (fun q a => by
      rw [Bool.eq_false_iff]
      intro z
      have := (c3 q).mp z
      omega)]
    exact psz_obg (P := S 6) (S 0 6).toNat 0 (fun _ => 0) 0 (fun q a b => by
      rw [c3 q]
      constructor
      · rintro ⟨_, z⟩; exact z
      · exact fun z => ⟨by omega, z⟩)
theorem pcn_mono {a c : Int} (ha : 0 ≤ a ∧ a ≤ 31) (hc : 0 ≤ c ∧ c ≤ 31) (h : a.toNat &&& c.toNat = a.toNat) : pcn a ≤ pcn c := by
  have key : ∀ a c : Fin 32, a.val &&& c.val = a.val → pcn (a.val : Int) ≤ pcn (c.val : Int) := by decide +kernel
  have k := key ⟨a.toNat, by omega⟩ ⟨c.toNat, by omega⟩ h
  rw [show (((⟨a.toNat, by omega⟩ : Fin 32).val : Nat) : Int) = a by show ((a.toNat : Nat) : Int) = a; omega, show (((⟨c.toNat, by omega⟩ : Fin 32).val : Nat) : Int) = c by show ((c.toNat : Nat) : Int) = c; omega] at k
  exact k
theorem pcn_le {n c : Nat} (hn : n ≤ 5) (h : c < 2 ^ n) : pcn (c : Int) ≤ (n : Int) := by
  have key : ∀ (n : Fin 6) (c : Fin 32), c.val < 2 ^ n.val → pcn (c.val : Int) ≤ (n.val : Int) := by decide +kernel
  have h5 : (2 : Nat) ^ n ≤ 2 ^ 5 := Nat.pow_le_pow_right (by omega) hn
  exact key ⟨n, by omega⟩ ⟨c, by omega⟩ h
theorem sthr_le {S : zT} (h : 0 ≤ S 0 6 ∧ S 0 6 ≤ 5) : pcn (sthr S) ≤ S 0 6 := by
  obtain ⟨c, c1, c2, c3⟩ := zst_0 (P := fun r => 0 ≤ S 6 r ∧ S 6 r ≤ 7) (n := (S 0 6).toNat) (by omega) (m := (S 0 6).toNat) (Nat.le_refl _)
  have c1' : sthr S = (c : Int) := c1
  have := pcn_le (n := (S 0 6).toNat) (by omega) c2
  rw [c1']
  omega
theorem sthr_mono {S T : zT} (h : 0 ≤ S 0 6 ∧ S 0 6 ≤ 5) (e : T 0 6 = S 0 6) (hk : ∀ q : Nat, 0 ≤ S 6 q → S 6 q ≤ 7 → T 6 q = S 6 q) : pcn (sthr S) ≤ pcn (sthr T) := by
  obtain ⟨a, a1, a2, a3⟩ := zst_0 (P := fun r => 0 ≤ S 6 r ∧ S 6 r ≤ 7) (n := 5) (by omega) (m := (S 0 6).toNat) (by omega)
  obtain ⟨c, c1, c2, c3⟩ := zst_0 (P := fun r => 0 ≤ T 6 r ∧ T 6 r ≤ 7) (n := 5) (by omega) (m := (T 0 6).toNat) (by omega)
  have a1' : sthr S = (a : Int) := a1
  have c1' : sthr T = (c : Int) := c1
  have e5 : (2 : Nat) ^ 5 = 32 := by decide
  rw [a1', c1']
  refine pcn_mono (by omega) (by omega) ?_
  rw [Int.toNat_natCast, Int.toNat_natCast]
  apply Nat.eq_of_testBit_eq
  intro j
  rw [Nat.testBit_and]
  cases hj : a.testBit j with
  | false => rfl
  | true =>
    have h1 := (a3 j).mp hj
    have h2 := (c3 j).mpr ⟨by rw [e]; exact h1.1, by rw [hk j h1.2.1 h1.2.2]; exact h1.2⟩
    rw [h2]
    rfl
theorem prml_ok : ∀ n : Fin 6, (prml n.val).all (fun l => decide (l.length = n.val) && (l.all (fun i => decide (i < n.val)) && (List.range n.val).all (fun i => (List.range n.val).all (fun j => decide (l.getD i 0 = l.getD j 0 → i = j))))) = true := by decide +kernel
theorem prml_s {n : Nat} (hn : n ≤ 5) {l : List Nat} (hl : l ∈ prml n) : l.length = n ∧ (∀ i, i < n → l.getD i 0 < n) ∧ ∀ i j, i < n → j < n → l.getD i 0 = l.getD j 0 → i = j := by
  have h := List.all_eq_true.mp (prml_ok ⟨n, by omega⟩) l hl
  simp only [Bool.and_eq_true, decide_eq_true_eq, List.all_eq_true, List.mem_range] at h
  obtain ⟨h1, h2, h3⟩ := h
  refine ⟨h1, fun i hi => ?_, fun i j hi hj => h3 i hi j hj⟩
  rw [List.getD_eq_getElem?_getD, List.getElem?_eq_getElem (by omega)]
  exact h2 _ (List.getElem_mem _)
theorem ofold_s (v : List Nat → Int) : ∀ (ps : List (List Nat)) (c : Int) (b : List Nat), ((ofold v ps c b = (c, b)) ∨ ∃ l ∈ ps, ofold v ps c b = (v l, l)) ∧ ∀ l ∈ ps, v l ≤ (ofold v ps c b).1
  | [], c, b => ⟨Or.inl rfl, fun l hl => by cases hl⟩
  | l :: r, c, b => by
    unfold ofold
    by_cases h : c < v l
    · rw [if_pos h]
      obtain ⟨h1, h2⟩ := ofold_s v r (v l) l
      refine ⟨Or.inr ?_, fun l' hl' => ?_⟩
      · rcases h1 with e | ⟨l', m, e⟩
        · exact ⟨l, List.mem_cons_self, e⟩
        · exact ⟨l', List.mem_cons_of_mem _ m, e⟩
      · rcases List.mem_cons.mp hl' with e | m
        · rw [e]; exact ofold_le v r (v l) l
        · exact h2 l' m
    · rw [if_neg h]
      obtain ⟨h1, h2⟩ := ofold_s v r c b
      refine ⟨?_, fun l' hl' => ?_⟩
      · rcases h1 with e | ⟨l', m, e⟩
        · exact Or.inl e
        · exact Or.inr ⟨l', List.mem_cons_of_mem _ m, e⟩
      · rcases List.mem_cons.mp hl' with e | m
        · have := ofold_le v r c b
          rw [e]; omega
        · exact h2 l' m
/-- the best order: its numbers, all at the top, none twice; what comes of it, and of that by number -/
theorem order_s {S : zT} (hg : gd S) : ∃ (p : Nat → Nat) (many : Int), (obst S).1 = many ∧ otn S ≤ 5 ∧ (∀ k, k < otn S → otp S ((obst S).2.getD k 0) = (p k : Int) ∧ (p k : Int) < S 0 6 ∧ S 6 (p k) = 30) ∧ (∀ i j, i < otn S → j < otn S → p i = p j → i = j) ∧ many = pcn (sthr (ssq (fun k => (p k : Int)) (otn S) 0 S)) ∧ pcn (sthr S) ≤ many ∧ many ≤ S 0 6 ∧ pcn (sthr (csq (S 6) (S 0 6).toNat 0 S)) ≤ many := by
  have n5 := hg.n5
  obtain ⟨b1, b2, b3, b4⟩ := obg_r (S 6) (S 0 6).toNat 0 (fun _ => 0) 0
  have hn : otn S ≤ 5 := by unfold otn; omega
  have hne : prml (otn S) ≠ [] := fun z => by
    have := (prml_len ⟨otn S, by omega⟩).1
    rw [show prml (⟨otn S, by omega⟩ : Fin 6).val = prml (otn S) from rfl, z] at this
    exact absurd this (by decide)
  have hhd := prml_head ⟨otn S, by omega⟩
  have hmem : List.range (otn S) ∈ prml (otn S) := List.mem_of_mem_head? (by rw [show prml (otn S) = prml (⟨otn S, by omega⟩ : Fin 6).val from rfl, hhd]; rfl)
  obtain ⟨f1, f2⟩ := ofold_s (oval S (otp S)) (prml (otn S)) (-1) []
  have hv : ∀ l, 0 ≤ oval S (otp S) l := fun l => pcn_r.1
  have fr := f2 _ hmem
  obtain ⟨l, hl, el⟩ : ∃ l ∈ prml (otn S), ofold (oval S (otp S)) (prml (otn S)) (-1) [] = (oval S (otp S) l, l) := by
    rcases f1 with e | e
    · rw [e] at fr
      have := hv (List.range (otn S))
      exact absurd fr (by show ¬ _ ≤ (-1 : Int); omega)
    · exact e
  have ob : obst S = (oval S (otp S) l, l) := el
  obtain ⟨l1, l2, l3⟩ := prml_s hn hl
  have hb4 : ∀ k, k < otn S → ∃ q : Nat, (0 ≤ q ∧ q < 0 + (S 0 6).toNat) ∧ otp S k = (q : Int) ∧ S 6 q = 30 ∧ ∀ k', k < k' → k' < otn S → (q : Int) < otp S k' := fun k hk => b4 k (Nat.zero_le _) hk
  have hinj : ∀ i j, i < otn S → j < otn S → otp S i = otp S j → i = j := fun i j hi hj e => by
    rcases Nat.lt_trichotomy i j with h | h | h
    · obtain ⟨q, _, q2, _, q4⟩ := hb4 i hi
      have := q4 j h hj
      omega
    · exact h
    · obtain ⟨q, _, q2, _, q4⟩ := hb4 j hj
      have := q4 i h hi
      omega
  have hp : ∀ k, k < otn S → otp S (l.getD k 0) = (((otp S (l.getD k 0)).toNat : Nat) : Int) ∧ (((otp S (l.getD k 0)).toNat : Nat) : Int) < S 0 6 ∧ S 6 (otp S (l.getD k 0)).toNat = 30 := fun k hk => by
    obtain ⟨q, q1, q2, q3, _⟩ := hb4 (l.getD k 0) (l2 k hk)
    rw [q2, Int.toNat_natCast]
    exact ⟨rfl, by omega, q3⟩
  have hgd : ∀ k, k < l.length → l.getD k k = l.getD k 0 := fun k hk => by
    rw [List.getD_eq_getElem?_getD, List.getD_eq_getElem?_getD, List.getElem?_eq_getElem hk]
    rfl
  have hss : osq (otp S) l S = ssq (fun k => (((otp S (l.getD k 0)).toNat : Nat) : Int)) (otn S) 0 S := by
    have := ssq_l (f := fun k => (((otp S (l.getD k 0)).toNat : Nat) : Int)) (tp := otp S) (l := l) (fun k hk => by rw [hgd k hk]; exact (hp k (by omega)).1.symm) (otn S) 0 S (by omega)
    rw [this]
    rfl
  have hmany : oval S (otp S) l = pcn (sthr (ssq (fun k => (((otp S (l.getD k 0)).toNat : Nat) : Int)) (otn S) 0 S)) := by
    unfold oval
    rw [hss]
  refine ⟨fun k => (otp S (l.getD k 0)).toNat, oval S (otp S) l, by rw [ob], hn, fun k hk => by rw [ob]; exact hp k hk, fun i j hi hj e => ?_, hmany, ?_, ?_, ?_⟩
  · have e2 : otp S (l.getD i 0) = otp S (l.getD j 0) := by
      rw [(hp i hi).1, (hp j hj).1]
      exact congrArg _ e
    exact l3 i j hi hj (hinj _ _ (l2 i hi) (l2 j hj) e2)
  · rw [hmany]
    refine sthr_mono (by omega) (ssq_06 _ _ _ _) (fun q q1 q2 => ssq_keep _ _ _ (by omega) (fun j _ hj => ?_) (Or.inr (by omega)))
    show (((otp S (l.getD j 0)).toNat : Nat) : Int).toNat ≠ q
    rw [Int.toNat_natCast]
    intro z
    have := (hp j (by omega)).2.2
    rw [z] at this
    omega
  · rw [hmany]
    have := sthr_le (S := ssq (fun k => (((otp S (l.getD k 0)).toNat : Nat) : Int)) (otn S) 0 S) (by rw [ssq_06]; omega)
    rw [ssq_06] at this
    exact this
  · rw [ob] at *
    have hr : oval S (otp S) (List.range (otn S)) = pcn (sthr (csq (S 6) (S 0 6).toNat 0 S)) := by
      unfold oval
      have e1 := csq_s (S 6) (S 0 6).toNat 0 (fun _ => 0) 0 S
      have e2 := ssq_l (f := otp S) (tp := otp S) (l := List.range (otn S)) (fun k hk => by
        rw [List.length_range] at hk
        rw [List.getD_eq_getElem?_getD, List.getElem?_range hk]
        rfl) (otn S) 0 S (by rw [List.length_range]; omega)
      rw [e1]
      show pcn (sthr (osq (otp S) (List.range (otn S)) S)) = pcn (sthr (ssq (otp S) (otn S - 0) 0 S))
      rw [Nat.sub_zero, e2]
      rfl
    rw [← hr]
    have := fr
    rw [el] at this
    exact this
