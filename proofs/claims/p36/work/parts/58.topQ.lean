/-! ===== rain: sums over speeds ===== -/
def rws (F W : Nat → Int) : Nat → Nat → Int
  | 0, _ => 0
  | m + 1, s => W s * F s + rws F W m (s + 1)
def rhat (F : Nat → Int) (x : Int) : Int := if 1 ≤ x ∧ x ≤ 30 then F x.toNat else 0
def rpsi (S : zT) (t r : Nat) (c d wt : Int) (F : Nat → Int) (s : Nat) : Int := (10 - c) * rhat F (sbh S t r (s : Int) d) + c * rhat F (sbh S t r (s : Int) wt)
theorem rws_up (F B : Nat → Int) (k : Nat) (m : Int) : ∀ (n s : Nat), rws F (fun j => if j = k then B k + m else B j) n s = rws F B n s + (if s ≤ k ∧ k < s + n then m * F k else 0)
  | 0, s => by
    rw [if_neg (by omega)]
    rfl
  | n + 1, s => by
    unfold rws
    rw [rws_up F B k m n (s + 1)]
    by_cases h : s = k
    · subst h
      rw [if_pos rfl, if_neg (by omega), if_pos (by omega), Int.add_mul]
      omega
    · rw [if_neg h]
      by_cases h2 : s + 1 ≤ k ∧ k < s + 1 + n
      · rw [if_pos h2, if_pos (by omega)]
        omega
      · rw [if_neg h2, if_neg (by omega)]
        omega
theorem rws_rad (F B : Nat → Int) (x m : Int) : rws F (rad B x m) 30 1 = rws F B 30 1 + m * rhat F x := by
  unfold rad rhat
  by_cases h : 1 ≤ x ∧ x ≤ 30
  · rw [if_pos h, if_pos h, rws_up, if_pos (by omega)]
  · rw [if_neg h, if_neg h]
    omega
theorem rws_ps (S : zT) (t r : Nat) (c d wt : Int) (F W : Nat → Int) (hW : ∀ j, j < 31 → 0 ≤ W j) : ∀ (m s : Nat) (B : Nat → Int), s + m = 31 → rws F (rps S t r c d wt W m s B) 30 1 = rws F B 30 1 + rws (rpsi S t r c d wt F) W m s
  | 0, s, B, h => by
    unfold rps rws
    omega
  | m + 1, s, B, h => by
    have h0 := hW s (by omega)
    unfold rps
    split
    · rw [rws_ps S t r c d wt F W hW m (s + 1) _ (by omega), rws_rad, rws_rad]
      rw [show rws (rpsi S t r c d wt F) W (m + 1) s = W s * rpsi S t r c d wt F s + rws (rpsi S t r c d wt F) W m (s + 1) from rfl]
      unfold rpsi
      rw [Int.mul_add, ← Int.mul_assoc, ← Int.mul_assoc]
      omega
    · rw [rws_ps S t r c d wt F W hW m (s + 1) _ (by omega)]
      rw [show rws (rpsi S t r c d wt F) W (m + 1) s = W s * rpsi S t r c d wt F s + rws (rpsi S t r c d wt F) W m (s + 1) from rfl]
      have : W s = 0 := by omega
      rw [this, Int.zero_mul]
      omega
theorem rws_c {F F' W W' : Nat → Int} : ∀ (m s : Nat), (∀ j, s ≤ j → j < s + m → F j = F' j ∧ W j = W' j) → rws F W m s = rws F' W' m s
  | 0, s, _ => rfl
  | m + 1, s, h => by
    unfold rws
    rw [(h s (by omega) (by omega)).1, (h s (by omega) (by omega)).2, rws_c m (s + 1) (fun j h1 h2 => h j (by omega) (by omega))]
theorem rws_0 (F : Nat → Int) : ∀ (m s : Nat) {W : Nat → Int}, (∀ j, s ≤ j → j < s + m → W j = 0) → rws F W m s = 0
  | 0, s, W, _ => rfl
  | m + 1, s, W, h => by
    unfold rws
    rw [h s (by omega) (by omega), rws_0 F m (s + 1) (fun j h1 h2 => h j (by omega) (by omega)), Int.zero_mul]
    rfl
theorem rws_pt (S : zT) (r : Nat) (c : Int) (t : Nat) (F : Nat → Int) (V : (Nat → Int) × (Nat → Int)) (hW : ∀ j, j < 31 → 0 ≤ V.1 j) : rws F (rpt S r c t V).1 30 1 = rws (rpsi S t r c (S 1 t) (rwet (S 1 t)) F) V.1 30 1 := by
  unfold rpt
  show rws F (zcp (rps S t r c (S 1 t) (rwet (S 1 t)) V.1 30 1 (zfl V.2 31 0)) V.1 0 0 31) 30 1 = _
  rw [rws_c (F' := F) (W' := rps S t r c (S 1 t) (rwet (S 1 t)) V.1 30 1 (zfl V.2 31 0)) 30 1 (fun j h1 h2 => ⟨rfl, by unfold zcp; rw [if_pos (by omega)]; congr 1; omega⟩), rws_ps _ _ _ _ _ _ _ _ hW 30 1 _ rfl, rws_0 F 30 1 (fun j h1 h2 => by unfold zfl; rw [if_pos (by omega)])]
  omega
theorem rad_ge {B : Nat → Int} {x m : Int} (hB : ∀ j, j < 31 → 0 ≤ B j) (hm : 0 ≤ m) : ∀ j, j < 31 → 0 ≤ rad B x m j := fun j hj => by
  unfold rad
  split
  · rename_i h
    show 0 ≤ if j = x.toNat then B x.toNat + m else B j
    split
    · have := hB x.toNat (by omega)
      omega
    · exact hB j hj
  · exact hB j hj
theorem rps_ge (S : zT) (t r : Nat) {c : Int} (d wt : Int) {W : Nat → Int} (hc : 0 ≤ c ∧ c ≤ 10) : ∀ (m s : Nat) (B : Nat → Int), (∀ j, j < 31 → 0 ≤ B j) → ∀ j, j < 31 → 0 ≤ rps S t r c d wt W m s B j
  | 0, s, B, h => h
  | m + 1, s, B, h => by
    unfold rps
    split
    · rename_i h0
      exact rps_ge S t r d wt hc m (s + 1) _ (rad_ge (rad_ge h (Int.mul_nonneg (by omega) (by omega))) (Int.mul_nonneg (by omega) (by omega)))
    · exact rps_ge S t r d wt hc m (s + 1) _ h
theorem rit_ge (S : zT) (r : Nat) {c : Int} {V : (Nat → Int) × (Nat → Int)} (hc : 0 ≤ c ∧ c ≤ 10) (hV : ∀ j, j < 31 → 0 ≤ V.1 j) : ∀ t j, j < 31 → 0 ≤ (rit S r c V t).1 j
  | 0, j, hj => hV j hj
  | t + 1, j, hj => by
    have h := rps_ge S t r (c := c) (S 1 t) (rwet (S 1 t)) (W := (rit S r c V t).1) hc 30 1 (zfl (rit S r c V t).2 31 0) (fun j hj => by unfold zfl; rw [if_pos hj]; exact Int.le_refl 0)
    show 0 ≤ zcp _ _ 0 0 31 j
    unfold zcp
    rw [if_pos (by omega)]
    exact h _ (by omega)
theorem rws_le {F F' W : Nat → Int} : ∀ (m s : Nat), (∀ j, s ≤ j → j < s + m → F j ≤ F' j ∧ 0 ≤ W j) → rws F W m s ≤ rws F' W m s
  | 0, s, _ => Int.le_refl _
  | m + 1, s, h => by
    unfold rws
    have h1 := h s (by omega) (by omega)
    have h2 := Int.mul_le_mul_of_nonneg_left h1.1 h1.2
    have h3 := rws_le (F := F) (F' := F') m (s + 1) (fun j a c => h j (by omega) (by omega))
    omega
theorem rws_k (k : Int) (W : Nat → Int) : ∀ (m s : Nat), rws (fun _ => k) W m s = k * rws (fun _ => 1) W m s
  | 0, s => by unfold rws; omega
  | m + 1, s => by
    unfold rws
    rw [rws_k k W m (s + 1), Int.mul_add, Int.mul_one, Int.mul_comm (W s) k]
theorem rws_in {W : Nat → Int} (hW : ∀ j, j < 31 → 0 ≤ W j) : ∀ (m s : Nat), s + m ≤ 31 → 0 ≤ rws (fun _ => 1) W m s ∧ ∀ j, s ≤ j → j < s + m → W j ≤ rws (fun _ => 1) W m s
  | 0, s, _ => ⟨Int.le_refl 0, fun j h1 h2 => by omega⟩
  | m + 1, s, h => by
    have h1 := rws_in hW m (s + 1) (by omega)
    have h2 := hW s (by omega)
    unfold rws
    refine ⟨by omega, fun j hj1 hj2 => ?_⟩
    by_cases hjs : j = s
    · subst hjs; omega
    · have := h1.2 j (by omega) (by omega)
      omega
theorem rsm_s (W : Nat → Int) : ∀ (m s : Nat) (x : Int), rsm W m s x = x + rws (fun _ => 1) W m s
  | 0, s, x => by unfold rsm rws; omega
  | m + 1, s, x => by
    unfold rsm rws
    rw [rsm_s W m (s + 1)]
    omega
theorem rv0_ge (W B : Nat → Int) : ∀ j, j < 31 → 0 ≤ (rv0 W B).1 j := fun j hj => by
  unfold rv0
  show 0 ≤ if j = 2 then 1 else zfl W 31 0 j
  split
  · omega
  · unfold zfl; rw [if_pos hj]; exact Int.le_refl 0
theorem rv0_s (F W B : Nat → Int) : rws F (rv0 W B).1 30 1 = F 2 := by
  have e : ∀ j, 1 ≤ j → j < 1 + 30 → (rv0 W B).1 j = (fun j => if j = 2 then (fun _ => (0 : Int)) 2 + 1 else (fun _ => (0 : Int)) j) j := fun j h1 h2 => by
    unfold rv0
    show (if j = 2 then 1 else zfl W 31 0 j) = if j = 2 then (0 : Int) + 1 else 0
    split
    · rfl
    · unfold zfl; rw [if_pos (by omega)]
  rw [rws_c (F' := F) (W' := fun j => if j = 2 then (fun _ => (0 : Int)) 2 + 1 else (fun _ => (0 : Int)) j) 30 1 (fun j h1 h2 => ⟨rfl, e j h1 h2⟩)]
  refine (rws_up F (fun _ => 0) 2 1 30 1).trans ?_
  rw [if_pos (by omega), rws_0 F 30 1 (fun _ _ _ => rfl)]
  omega
theorem p10_r : ∀ t : Fin 11, (10 : Int) ^ t.val ≤ 10000000000 := by decide +kernel
theorem rit_le (S : zT) (r : Nat) {c : Int} (W B : Nat → Int) (hc : 0 ≤ c ∧ c ≤ 10) : ∀ t, rws (fun _ => 1) (rit S r c (rv0 W B) t).1 30 1 ≤ 10 ^ t
  | 0 => by
    show rws (fun _ => 1) (rv0 W B).1 30 1 ≤ _
    rw [rv0_s]
    exact Int.le_refl _
  | t + 1 => by
    have hg := rit_ge S r (c := c) hc (rv0_ge W B) t
    have h1 := rit_le S r W B hc t
    show rws (fun _ => 1) (rpt S r c t (rit S r c (rv0 W B) t)).1 30 1 ≤ _
    rw [rws_pt S r c t _ _ hg]
    have h2 := rws_le (F := rpsi S t r c (S 1 t) (rwet (S 1 t)) (fun _ => 1)) (F' := fun _ => 10) (W := (rit S r c (rv0 W B) t).1) 30 1 (fun j h1 h2 => ⟨by
      have hh : ∀ x, 0 ≤ rhat (fun _ => 1) x ∧ rhat (fun _ => 1) x ≤ 1 := fun x => by
        unfold rhat
        split
        · exact ⟨(by show (0 : Int) ≤ 1; omega), (by show (1 : Int) ≤ 1; omega)⟩
        · omega
      unfold rpsi
      have a1 := Int.mul_le_mul_of_nonneg_left (hh (sbh S t r (j : Int) (S 1 t))).2 (show 0 ≤ 10 - c by omega)
      have a2 := Int.mul_le_mul_of_nonneg_left (hh (sbh S t r (j : Int) (rwet (S 1 t)))).2 hc.1
      omega, hg j (by omega)⟩)
    rw [rws_k] at h2
    rw [Int.pow_succ]
    omega
/-- through from turn t on, with speed v ahead of it: how many ways of ten to the rest -/
def rfn (S : zT) (r : Nat) (c : Int) : Nat → Nat → Nat → Int
  | 0, _, _ => 1
  | m + 1, t, v => rpsi S t r c (S 1 t) (rwet (S 1 t)) (rfn S r c m (t + 1)) v
theorem rit_s (S : zT) (r : Nat) {c : Int} (W B : Nat → Int) (hc : 0 ≤ c ∧ c ≤ 10) : ∀ (m t : Nat), rws (fun _ => 1) (rit S r c (rv0 W B) (t + m)).1 30 1 = rws (rfn S r c m t) (rit S r c (rv0 W B) t).1 30 1
  | 0, t => rfl
  | m + 1, t => by
    have hg := rit_ge S r (c := c) hc (rv0_ge W B) t
    rw [show t + (m + 1) = (t + 1) + m by omega, rit_s S r W B hc m (t + 1)]
    show rws _ (rpt S r c t (rit S r c (rv0 W B) t)).1 30 1 = _
    rw [rws_pt S r c t _ _ hg]
    rfl
theorem rit_end (S : zT) (r : Nat) {c : Int} (W B : Nat → Int) (hc : 0 ≤ c ∧ c ≤ 10) : rsm (rit S r c (rv0 W B) 10).1 30 1 0 = rfn S r c 10 0 2 ∧ 0 ≤ rfn S r c 10 0 2 ∧ rfn S r c 10 0 2 ≤ 10000000000 := by
  have h1 := rit_s S r W B hc 10 0
  rw [show 0 + 10 = 10 by omega] at h1
  have e : rws (rfn S r c 10 0) (rit S r c (rv0 W B) 0).1 30 1 = rfn S r c 10 0 2 := rv0_s _ W B
  rw [e] at h1
  have h2 := rit_le S r W B hc 10
  have h3 := (rws_in (rit_ge S r (c := c) hc (rv0_ge W B) 10) 30 1 (by omega)).1
  have h4 := p10_r 10
  rw [h1] at h2 h3
  exact ⟨by rw [rsm_s, h1]; omega, h3, Int.le_trans h2 h4⟩
theorem rit_b (S : zT) (r : Nat) {c : Int} (W B : Nat → Int) (hc : 0 ≤ c ∧ c ≤ 10) : ∀ t, t ≤ 10 → ∀ j, j < 31 → 0 ≤ (rit S r c (rv0 W B) t).1 j ∧ (rit S r c (rv0 W B) t).1 j ≤ 1000000000000000000 := fun t ht j hj => by
  have hg := rit_ge S r (c := c) hc (rv0_ge W B) t
  refine ⟨hg j hj, ?_⟩
  by_cases h0 : j = 0
  · subst h0
    have hz : ∀ t, (rit S r c (rv0 W B) t).1 0 = 0 := fun t => by
      cases t with
      | zero => rfl
      | succ t =>
        have hr : ∀ (V : Nat → Int) (x m : Int), rad V x m 0 = V 0 := fun V x m => by
          unfold rad
          split
          · show (if 0 = x.toNat then _ else _) = _
            rw [if_neg (by omega)]
          · rfl
        have hp : ∀ (W : Nat → Int) (m s : Nat) (V : Nat → Int), rps S t r c (S 1 t) (rwet (S 1 t)) W m s V 0 = V 0 := fun W m => by
          induction m with
          | zero => exact fun _ _ => rfl
          | succ m ih =>
            intro s V
            unfold rps
            split
            · rw [ih, hr, hr]
            · rw [ih]
        show zcp (rps S t r c (S 1 t) (rwet (S 1 t)) (rit S r c (rv0 W B) t).1 30 1 (zfl (rit S r c (rv0 W B) t).2 31 0)) (rit S r c (rv0 W B) t).1 0 0 31 0 = 0
        unfold zcp
        rw [if_pos (by omega), hp]
        rfl
    rw [hz t]
    omega
  · have h2 := rit_le S r W B hc t
    have h4 := p10_r ⟨t, by omega⟩
    have h3 := (rws_in hg 30 1 (by omega)).2 j (by omega) (by omega)
    have h5 := Int.le_trans h2 h4
    omega
theorem rfn_c {S S' : zT} (h : zQe S S') {r : Nat} (hr : (r : Int) < S 0 6) (c : Int) : ∀ (m t v : Nat), t + m ≤ 10 → rfn S r c m t v = rfn S' r c m t v
  | 0, t, v, _ => rfl
  | m + 1, t, v, ht => by
    unfold rfn rpsi
    have e : rfn S r c m (t + 1) = rfn S' r c m (t + 1) := funext fun v => rfn_c h hr c m (t + 1) v (by omega)
    rw [e, (h.2.1 t (by omega)).1, sbh_c h hr (by omega), sbh_c h hr (by omega)]
