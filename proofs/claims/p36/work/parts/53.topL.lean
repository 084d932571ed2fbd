/-! ===== the tape read: what it rests on ===== -/
theorem tsk_T {T T' : Nat → Int} {n : Nat} (e : ∀ j, j < n → T j = T' j) : ∀ (m k : Nat), k + m = n → tsk T n m k = tsk T' n m k
  | 0, k, _ => rfl
  | m + 1, k, h => by
    unfold tsk
    rw [e k (by omega), tsk_T e m (k + 1) (by omega)]
theorem tat_T {T T' : Nat → Int} {n : Nat} (e : ∀ j, j < n → T j = T' j) : tat T n = tat T' n := funext fun k => by
  unfold tat
  by_cases h : k < n
  · rw [if_pos h, if_pos h, e k h]
  · rw [if_neg h, if_neg h]
theorem tnl_T {T T' : Nat → Int} {n : Nat} (e : ∀ j, j < n → T j = T' j) : tnl T n = tnl T' n := funext fun k => by
  unfold tnl
  by_cases h : k ≤ n
  · exact tsk_T e (n - k) k (by omega)
  · rw [show n - k = 0 by omega]; rfl
section TAPET
variable {T T' : Nat → Int} {n : Nat}
theorem tdg_T (e : ∀ j, j < n → T j = T' j) : tdg T n = tdg T' n := by
  funext lo hi k
  unfold tdg
  rw [tat_T e, tnl_T e]
theorem thv_T (e : ∀ j, j < n → T j = T' j) : thv T n = thv T' n := by
  funext k
  unfold thv
  rw [tdg_T e, tat_T e]
theorem tle_T (e : ∀ j, j < n → T j = T' j) : tle T n = tle T' n := by
  funext k
  unfold tle
  rw [tdg_T e, tat_T e, tnl_T e]
theorem tbm_T (e : ∀ j, j < n → T j = T' j) : tbm T n = tbm T' n := by
  funext k
  unfold tbm
  rw [tdg_T e, tat_T e, tnl_T e]
theorem trr_T (e : ∀ j, j < n → T j = T' j) : trr T n = trr T' n := by
  funext r k S
  unfold trr
  rw [tat_T e, tnl_T e, thv_T e, tle_T e]
theorem trl_T (e : ∀ j, j < n → T j = T' j) : ∀ (m r k : Nat) (S : zT), trl T n m r k S = trl T' n m r k S
  | 0, r, k, S => rfl
  | m + 1, r, k, S => by
    unfold trl
    rw [tat_T e, tnl_T e, trr_T e, trl_T e m]
theorem trs_T (e : ∀ j, j < n → T j = T' j) (k : Nat) (S : zT) : trs T n k S = trs T' n k S := by
  unfold trs
  rw [trr_T e, trl_T e]
theorem ttl_T (e : ∀ j, j < n → T j = T' j) : ∀ (m t k : Nat) (S : zT), ttl T n m t k S = ttl T' n m t k S
  | 0, t, k, S => rfl
  | m + 1, t, k, S => by
    unfold ttl
    rw [tdg_T e, tbm_T e, ttl_T e m]
theorem tsr_T (e : ∀ j, j < n → T j = T' j) (k : Nat) (S : zT) : tsr T n k S = tsr T' n k S := by
  unfold tsr
  rw [tat_T e, tnl_T e, trs_T e]
theorem tsl_T (e : ∀ j, j < n → T j = T' j) (S : zT) : tsl T n S = tsl T' n S := by
  unfold tsl
  rw [ttl_T e, tsr_T e]
end TAPET
/-! the slide read into rests on nothing that was there -/
def zQn (S S' : zT) : Prop := zQe (zup S 0 8 0) (zup S' 0 8 0)
theorem sad_d (S : zT) (r : Nat) (k v l : Int) : zup (sad S r k v l) 0 8 0 = sad (zup S 0 8 0) r k v l := by
  funext a c
  unfold sad zup
  by_cases h : a = 0 ∧ c = 8
  · obtain ⟨rfl, rfl⟩ := h
    simp
  · simp [h]
theorem zQn_6 {S S' : zT} (h : zQn S S') : S 0 6 = S' 0 6 := by
  have := h.1.1
  rw [zup_ne _ _ (by omega), zup_ne _ _ (by omega)] at this
  exact this
theorem sad_n {S S' : zT} (h : zQn S S') {n : Nat} (hn : S 0 6 = (n : Int)) (k v l : Int) : zQn (sad S n k v l) (sad S' n k v l) := by
  unfold zQn
  rw [sad_d, sad_d]
  exact sad_c h (by rw [zup_ne _ _ (by omega)]; exact hn) k v l
theorem zQn_e {S S' : zT} (h : zQn S S') (d : Int) : zQe (zup S 0 8 d) (zup S' 0 8 d) := by
  have e : ∀ S : zT, zup (zup S 0 8 0) 0 8 d = zup S 0 8 d := fun S => zup_up _ _ _ _ _
  rw [← e S, ← e S']
  exact zQe_up h (by omega) d
def zQt (t : Nat) (S S' : zT) : Prop := S 0 6 = 0 ∧ S' 0 6 = 0 ∧ S 0 7 = S' 0 7 ∧ ∀ u, u < t → S 1 u = S' 1 u ∧ S 2 u = S' 2 u
theorem zQt_n {S S' : zT} (h : zQt 10 S S') : zQn S S' := by
  refine ⟨⟨?_, ?_, ?_⟩, fun t ht => ?_, fun r hr => ?_⟩
  · rw [zup_ne _ _ (by omega), zup_ne _ _ (by omega), h.1, h.2.1]
  · rw [zup_ne _ _ (by omega), zup_ne _ _ (by omega), h.2.2.1]
  · rw [zup_at, zup_at]
  · rw [zup_row _ _ (by decide), zup_row _ _ (by decide), zup_row _ _ (by decide), zup_row _ _ (by decide)]
    exact h.2.2.2 t ht
  · rw [zup_ne _ _ (by omega), h.1] at hr
    omega
theorem zup_t1 (S : zT) (t : Nat) (a c : Int) (u : Nat) : zup (zup S 1 t a) 2 t c 1 u = if u = t then a else S 1 u := by
  rw [zup_row (zup S 1 t a) c (show (1 : Nat) ≠ 2 by decide)]
  unfold zup
  by_cases h : u = t
  · rw [if_pos ⟨rfl, h⟩, if_pos h]
  · rw [if_neg (fun q => h q.2), if_neg h]
theorem zup_t2 (S : zT) (t : Nat) (a c : Int) (u : Nat) : zup (zup S 1 t a) 2 t c 2 u = if u = t then c else S 2 u := by
  unfold zup
  by_cases h : u = t
  · rw [if_pos ⟨rfl, h⟩, if_pos h]
  · rw [if_neg (fun q => h q.2), if_neg (fun q => absurd q.1 (by decide)), if_neg h]
section TAPES
variable {T : Nat → Int} {n : Nat}
theorem ttl_n : ∀ (m t k : Nat) (S S' : zT), t + m = 10 → zQt t S S' → (ttl T n m t k S).1 = (ttl T n m t k S').1 ∧ (ttl T n m t k S).2.1 = (ttl T n m t k S').2.1 ∧ (¬ (ttl T n m t k S).1 = 0 → zQt 10 (ttl T n m t k S).2.2 (ttl T n m t k S').2.2)
  | 0, t, k, S, S', ht, h => by
    have e : t = 10 := by omega
    subst e
    exact ⟨rfl, rfl, fun _ => h⟩
  | m + 1, t, k, S, S', ht, h => by
    unfold ttl
    split
    · exact ⟨rfl, rfl, fun q => absurd rfl q⟩
    · split
      · exact ⟨rfl, rfl, fun q => absurd rfl q⟩
      · refine ttl_n m (t + 1) _ _ _ (by omega) ⟨?_, ?_, ?_, fun u hu => ?_⟩
        · rw [zup_row _ _ (by decide), zup_row _ _ (by decide)]; exact h.1
        · rw [zup_row _ _ (by decide), zup_row _ _ (by decide)]; exact h.2.1
        · rw [zup_row _ _ (by decide), zup_row _ _ (by decide), zup_row _ _ (by decide), zup_row _ _ (by decide)]; exact h.2.2.1
        · rw [zup_t1, zup_t1, zup_t2, zup_t2]
          by_cases hut : u = t
          · rw [if_pos hut, if_pos hut, if_pos hut, if_pos hut]
            exact ⟨rfl, rfl⟩
          · rw [if_neg hut, if_neg hut, if_neg hut, if_neg hut]
            exact h.2.2.2 u (by omega)
theorem trr_n {r k : Nat} {S S' : zT} (h : zQn S S') (hr : S 0 6 = (r : Int)) : (trr T n r k S).1 = (trr T n r k S').1 ∧ (trr T n r k S).2.1 = (trr T n r k S').2.1 ∧ zQn (trr T n r k S).2.2 (trr T n r k S').2.2 := by
  unfold trr
  split
  · exact ⟨rfl, rfl, h⟩
  · split
    · exact ⟨rfl, rfl, h⟩
    · split
      · exact ⟨rfl, rfl, h⟩
      · exact ⟨rfl, rfl, sad_n h hr _ _ _⟩
theorem trl_n (hT : ∀ j, j < 70 → 0 ≤ T j ∧ T j ≤ 126) (hn : n ≤ 70) : ∀ (m r k : Nat) (S S' : zT), k ≤ n → zQn S S' → S 0 6 = (r : Int) → (trl T n m r k S).1 = (trl T n m r k S').1 ∧ (trl T n m r k S).2.1 = (trl T n m r k S').2.1 ∧ zQn (trl T n m r k S).2.2 (trl T n m r k S').2.2
  | 0, r, k, S, S', hk, h, hr => ⟨rfl, rfl, h⟩
  | m + 1, r, k, S, S', hk, h, hr => by
    have hk1 := tnl_r T n k hk
    unfold trl
    split
    · have hk2 := tat_lt (T := T) (n := n) (k := tnl T n k) (by omega)
      have q := trr_n (T := T) (n := n) (k := tnl T n k + 1) h hr
      have hq := trr_r (r := r) (S := S) hT hn (show tnl T n k + 1 ≤ n from hk2)
      rw [← q.1]
      split
      · exact ⟨rfl, q.2.1, q.2.2⟩
      · rw [← q.2.1]
        exact trl_n hT hn m (r + 1) _ _ _ hq.2 q.2.2 (hq.1.elim (fun h1 => absurd h1 (by assumption)) (fun h1 => h1.2))
    · exact ⟨rfl, rfl, h⟩
theorem trs_n (hT : ∀ j, j < 70 → 0 ≤ T j ∧ T j ≤ 126) (hn : n ≤ 70) {k : Nat} {S S' : zT} (hk : k ≤ n) (h : zQn S S') (hr : S 0 6 = 0) : (trs T n k S).1 = (trs T n k S').1 ∧ (trs T n k S).2.1 = (trs T n k S').2.1 ∧ zQn (trs T n k S).2.2 (trs T n k S').2.2 := by
  have q := trr_n (T := T) (n := n) (k := k) (r := 0) h hr
  have hq := trr_r (r := 0) (S := S) hT hn hk
  unfold trs
  rw [← q.1]
  split
  · exact ⟨rfl, q.2.1, q.2.2⟩
  · rw [← q.2.1]
    exact trl_n hT hn 4 1 _ _ _ hq.2 q.2.2 (hq.1.elim (fun h1 => absurd h1 (by assumption)) (fun h1 => h1.2))
theorem tsl_n (hT : ∀ j, j < 70 → 0 ≤ T j ∧ T j ≤ 126) (hn : n ≤ 70) (S S' : zT) : (tsl T n S).1 = (tsl T n S').1 ∧ (tsl T n S).2.1 = (tsl T n S').2.1 ∧ (¬ (tsl T n S).1 = 0 → zQn (tsl T n S).2.2 (tsl T n S').2.2) := by
  have e6 : ∀ S : zT, zup (zup S 0 6 0) 0 7 0 0 6 = 0 := fun S => by rw [zup_ne _ _ (by omega), zup_at]
  have q := ttl_n (T := T) (n := n) 10 0 0 (zup (zup S 0 6 0) 0 7 0) (zup (zup S' 0 6 0) 0 7 0) rfl ⟨e6 S, e6 S', by rw [zup_at, zup_at], fun u hu => absurd hu (by omega)⟩
  have hq := ttl_r hT hn 10 0 0 (zup (zup S 0 6 0) 0 7 0) (Nat.zero_le n)
  unfold tsl
  rw [← q.1]
  split
  · exact ⟨rfl, q.2.1, fun z => absurd rfl z⟩
  · rename_i h1
    have q3 := q.2.2 h1
    have qn := zQt_n q3
    have hk1 := tnl_r T n (ttl T n 10 0 0 (zup (zup S 0 6 0) 0 7 0)).2.1 hq.2.1
    rw [← q.2.1]
    unfold tsr
    split
    · have hk2 := tat_lt (T := T) (n := n) (k := tnl T n (ttl T n 10 0 0 (zup (zup S 0 6 0) 0 7 0)).2.1) (by omega)
      have p := trs_n hT hn (k := tnl T n (ttl T n 10 0 0 (zup (zup S 0 6 0) 0 7 0)).2.1 + 1) (by omega) qn q3.1
      rw [← p.1, ← p.2.1]
      split
      · exact ⟨rfl, p.2.1, fun z => absurd rfl z⟩
      · exact ⟨rfl, rfl, fun _ => p.2.2⟩
    · exact ⟨rfl, rfl, fun _ => qn⟩
theorem ttl_sr (hT : ∀ j, j < 70 → 0 ≤ T j ∧ T j ≤ 126) (hn : n ≤ 70) : ∀ (m t k : Nat) (S : zT), k ≤ n → zSr S → zSr (ttl T n m t k S).2.2
  | 0, t, k, S, _, h => h
  | m + 1, t, k, S, hk, h => by
    have hd := tdg_r (T := T) (n := n) (k := k) (lo := 48) (hi := 57) hk (by omega)
    have hb := tbm_r (T := T) (n := n) (k := (tdg T n 48 57 k).2) hd.2.1
    unfold ttl
    split
    · exact h
    · split
      · exact h
      · exact ttl_sr hT hn m (t + 1) _ _ hb.1 (zSr_up2 (zSr_up1 h t (by omega)) t (by omega))
theorem sad_sr {S : zT} (h : zSr S) {r : Nat} (hr : r < 5) {k v l : Int} (hk : 0 ≤ k ∧ k ≤ 4) (hv : 1 ≤ v ∧ v ≤ 20) (hl : 0 ≤ l ∧ l ≤ 7) : zSr (sad S r k v l) := zSr_up0 (zSr_up6 (zSr_up5 (zSr_up4 (zSr_up3 h r hk) r (by omega)) r hl) r (by omega)) (Or.inr (by omega))
theorem trr_sr (hT : ∀ j, j < 70 → 0 ≤ T j ∧ T j ≤ 126) (hn : n ≤ 70) {r k : Nat} {S : zT} (hk : k ≤ n) (hr : r < 5) (h : zSr S) : zSr (trr T n r k S).2.2 := by
  have hk1 := tnl_r T n k hk
  have hkr := tkd_r (tat T n (tnl T n k))
  unfold trr
  split
  · exact h
  · have hk2 := tat_lt (T := T) (n := n) (k := tnl T n k) (by omega)
    have hv := thv_r (T := T) (n := n) (k := tnl T n k + 1) hT hn hk2
    split
    · exact h
    · have hl := tle_r (T := T) (n := n) (k := (thv T n (tnl T n k + 1)).2) hv.1
      split
      · exact h
      · exact sad_sr h hr (by omega) (by omega) (by omega)
theorem trl_sr (hT : ∀ j, j < 70 → 0 ≤ T j ∧ T j ≤ 126) (hn : n ≤ 70) : ∀ (m r k : Nat) (S : zT), r + m = 5 → k ≤ n → zSr S → zSr (trl T n m r k S).2.2
  | 0, r, k, S, _, _, h => h
  | m + 1, r, k, S, hr, hk, h => by
    have hk1 := tnl_r T n k hk
    unfold trl
    split
    · have hk2 := tat_lt (T := T) (n := n) (k := tnl T n k) (by omega)
      have hq := trr_r (r := r) (S := S) hT hn (show tnl T n k + 1 ≤ n from hk2)
      have hs := trr_sr hT hn (r := r) (k := tnl T n k + 1) hk2 (by omega) h
      split
      · exact hs
      · exact trl_sr hT hn m (r + 1) _ _ (by omega) hq.2 hs
    · exact h
theorem tsl_sr (hT : ∀ j, j < 70 → 0 ≤ T j ∧ T j ≤ 126) (hn : n ≤ 70) {S : zT} (h : zSr S) : zSr (tsl T n S).2.2 := by
  have h0 : zSr (zup (zup S 0 6 0) 0 7 0) := zSr_up0 (zSr_up0 h (Or.inr (by omega))) (Or.inl (by decide))
  have hq := ttl_r hT hn 10 0 0 (zup (zup S 0 6 0) 0 7 0) (Nat.zero_le n)
  have hs := ttl_sr hT hn 10 0 0 (zup (zup S 0 6 0) 0 7 0) (Nat.zero_le n) h0
  have hk1 := tnl_r T n (ttl T n 10 0 0 (zup (zup S 0 6 0) 0 7 0)).2.1 hq.2.1
  unfold tsl
  split
  · exact hs
  · unfold tsr
    split
    · have hk2 := tat_lt (T := T) (n := n) (k := tnl T n (ttl T n 10 0 0 (zup (zup S 0 6 0) 0 7 0)).2.1) (by omega)
      have ht : zSr (trs T n (tnl T n (ttl T n 10 0 0 (zup (zup S 0 6 0) 0 7 0)).2.1 + 1) (ttl T n 10 0 0 (zup (zup S 0 6 0) 0 7 0)).2.2).2.2 := by
        have hq2 := trr_r (r := 0) (S := (ttl T n 10 0 0 (zup (zup S 0 6 0) 0 7 0)).2.2) hT hn hk2
        have hs2 := trr_sr hT hn (r := 0) (k := tnl T n (ttl T n 10 0 0 (zup (zup S 0 6 0) 0 7 0)).2.1 + 1) hk2 (by omega) hs
        unfold trs
        split
        · exact hs2
        · exact trl_sr hT hn 4 1 _ _ (by omega) hq2.2 hs2
      split
      · exact ht
      · exact ht
    · exact hs
theorem tsl_7 (S : zT) : (tsl T n S).2.2 0 7 = 0 := by
  have hS : ∀ (S : zT) (r : Nat) (k v l : Int), sad S r k v l 0 7 = S 0 7 := fun S r k v l => by
    unfold sad
    rw [zup_ne _ _ (by omega), zup_row _ _ (by decide), zup_row _ _ (by decide), zup_row _ _ (by decide), zup_row _ _ (by decide)]
  have hrr : ∀ (r k : Nat) (S : zT), (trr T n r k S).2.2 0 7 = S 0 7 := fun r k S => by
    unfold trr
    split
    · rfl
    · split
      · rfl
      · split
        · rfl
        · simp only [hS]
  have hrl : ∀ (m r k : Nat) (S : zT), (trl T n m r k S).2.2 0 7 = S 0 7 := fun m => by
    induction m with
    | zero => exact fun _ _ _ => rfl
    | succ m ih =>
      intro r k S
      unfold trl
      split
      · split
        · exact hrr _ _ _
        · rw [ih, hrr]
      · rfl
  have hrs : ∀ (k : Nat) (S : zT), (trs T n k S).2.2 0 7 = S 0 7 := fun k S => by
    unfold trs
    split
    · exact hrr _ _ _
    · rw [hrl, hrr]
  have htl : ∀ (m t k : Nat) (S : zT), (ttl T n m t k S).2.2 0 7 = S 0 7 := fun m => by
    induction m with
    | zero => exact fun _ _ _ => rfl
    | succ m ih =>
      intro t k S
      unfold ttl
      split
      · rfl
      · split
        · rfl
        · rw [ih, zup_row _ _ (by decide), zup_row _ _ (by decide)]
  unfold tsl
  split
  · rw [htl, zup_at]
  · unfold tsr
    split
    · split
      · rw [hrs, htl, zup_at]
      · rw [hrs, htl, zup_at]
    · rw [htl, zup_at]
end TAPES
