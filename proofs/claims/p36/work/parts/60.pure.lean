/-! ===== no two on one turn; a ride: what the walks stand on (as the rows of whole have it) ===== -/
def mls (P : Nat → Int) (v : Int) : Nat → Nat → Int → Int
  | 0, _, x => x
  | m + 1, r, x => mls P v m (r + 1) (if P r = v then (r : Int) else x)
theorem mls_r (P : Nat → Int) (v : Int) : ∀ (m r : Nat) (x : Int), mls P v m r x = x ∨ ((r : Int) ≤ mls P v m r x ∧ mls P v m r x < (r : Int) + m ∧ P (mls P v m r x).toNat = v)
  | 0, r, x => Or.inl rfl
  | m + 1, r, x => by
    unfold mls
    by_cases h : P r = v
    · rw [if_pos h]
      rcases mls_r P v m (r + 1) (r : Int) with h1 | ⟨h1, h2, h3⟩
      · rw [h1]
        exact Or.inr ⟨by omega, by omega, by rw [Int.toNat_natCast]; exact h⟩
      · exact Or.inr ⟨by omega, by omega, h3⟩
    · rw [if_neg h]
      rcases mls_r P v m (r + 1) x with h1 | ⟨h1, h2, h3⟩
      · exact Or.inl h1
      · exact Or.inr ⟨by omega, by omega, h3⟩
def mwho (S : zT) (t : Nat) : Int := mls (S 6) (10 + (t : Int)) (S 0 6).toNat 0 (-4)
theorem mwho_r (S : zT) (t : Nat) (h : 0 ≤ S 0 6 ∧ S 0 6 ≤ 5) : mwho S t = -4 ∨ (0 ≤ mwho S t ∧ mwho S t < 5 ∧ mwho S t < S 0 6 ∧ S 6 (mwho S t).toNat = 10 + (t : Int)) := by
  unfold mwho
  rcases mls_r (S 6) (10 + (t : Int)) (S 0 6).toNat 0 (-4) with h1 | ⟨h1, h2, h3⟩
  · exact Or.inl h1
  · exact Or.inr ⟨by omega, by omega, by omega, h3⟩
def mmn (x : Int) : Int := if 30 < x then 30 else x
def mhf (w x : Int) : Int := if w = -4 then x else if 0 < x then x / 2 else x
def mlf (S : zT) (t : Nat) : zT := if mwho S t = -4 then S else zup S 6 (mwho S t).toNat 30
def mx (S : zT) (r t : Nat) (v : Int) : Int := mhf (mwho S t) (mmn (v + (sgn S r t v - S 1 t - S 2 t)))
def mrl (r : Nat) : Nat → Nat → Int → zT → (Nat → Int) → (Nat × Int) × (zT × (Nat → Int))
  | 0, t, v, S, B => ((t, v), (S, B))
  | m + 1, t, v, S, B => if 0 < mx S r t v then mrl r m (t + 1) (mx S r t v) (mlf S t) (fun j => if j = t then mx S r t v else B j) else ((t, mx S r t v), (mlf S t, B))
def mdc : Nat → Nat → zT → zT
  | 0, _, S => S
  | m + 1, t, S => mdc m (t + 1) (zup S 1 t (S 1 t - (if 0 < S 1 t then 1 else 0)))
def mfe (r : Nat) (q : (Nat × Int) × (zT × (Nat → Int))) : Int := if q.1.1 < 10 then 10 + (q.1.1 : Int) else (q.1.2 + q.2.1 5 r) % 8
def mf7 (S : zT) : zT := zup S 0 7 (S 0 7 + 1)
def mfs (r : Nat) (q : (Nat × Int) × (zT × (Nat → Int))) : zT := mf7 (mdc q.1.1 0 (zup q.2.1 6 r (mfe r q)))
def mrq (S : zT) (r : Nat) (B : Nat → Int) : (Nat × Int) × (zT × (Nat → Int)) := mrl r 10 0 2 (zup S 6 r 30) (zfl B 10 (-4))
theorem mlf_sr {S : zT} (h : zSr S) (t : Nat) : zSr (mlf S t) := by
  unfold mlf
  split
  · exact h
  · exact zSr_up6 h _ (by omega)
theorem mlf_5 (S : zT) (t : Nat) : mlf S t 5 = S 5 := by
  unfold mlf
  split
  · rfl
  · exact zup_row _ _ (by decide)
theorem mdc_o (a : Nat) (ha : a ≠ 1) : ∀ (m t : Nat) (S : zT), mdc m t S a = S a
  | 0, _, _ => rfl
  | m + 1, t, S => by
    unfold mdc
    rw [mdc_o a ha m, zup_row _ _ ha]
theorem mdc_sr : ∀ (m t : Nat) (S : zT), t + m ≤ 10 → zSr S → zSr (mdc m t S)
  | 0, _, _, _, h => h
  | m + 1, t, S, ht, h => by
    unfold mdc
    have := h.2.1 t (by omega)
    refine mdc_sr m (t + 1) _ (by omega) (zSr_up1 h t ?_)
    split <;> omega
theorem mx_r {S : zT} {r t : Nat} {v : Int} (h : zSr S) (h5 : r < 5) (ht : t < 10) (hv : -100 ≤ v ∧ v ≤ 100) : -200 ≤ mx S r t v ∧ mx S r t v ≤ 30 := by
  have h1 := sgn_r S r t v h h5 ht
  have h2 := h.2.1 t ht
  have h3 := h.2.2.1 t ht
  unfold mx mhf mmn
  repeat' split
  all_goals omega
def zuq (S : zT) : Prop := ∀ p q : Nat, (p : Int) < S 0 6 → (q : Int) < S 0 6 → 10 ≤ S 6 p → S 6 p ≤ 19 → S 6 p = S 6 q → p = q
theorem zfs_no {P : Nat → Int} {v : Int} : ∀ (m r : Nat), (∀ q, r ≤ q → q < r + m → P q ≠ v) → zfs P v m r = -4
  | 0, r, _ => rfl
  | m + 1, r, h => by
    unfold zfs
    rw [if_neg (h r (by omega) (by omega))]
    exact zfs_no m (r + 1) (fun q h1 h2 => h q (by omega) (by omega))
theorem zfs_ex {P : Nat → Int} {v : Int} {q : Nat} (hq : P q = v) : ∀ (m r : Nat), r ≤ q → q < r + m → zfs P v m r ≠ -4
  | 0, r, h1, h2 => by omega
  | m + 1, r, h1, h2 => by
    unfold zfs
    by_cases h : P r = v
    · rw [if_pos h]; omega
    · rw [if_neg h]
      have : r ≠ q := fun e => h (by rw [e]; exact hq)
      exact zfs_ex hq m (r + 1) (by omega) (by omega)
theorem zfs_i {P P' : Nat → Int} {v : Int} : ∀ (m r : Nat), (∀ q, r ≤ q → q < r + m → (P q = v ↔ P' q = v)) → zfs P v m r = zfs P' v m r
  | 0, r, _ => rfl
  | m + 1, r, h => by
    unfold zfs
    have := h r (by omega) (by omega)
    rw [zfs_i m (r + 1) (fun q h1 h2 => h q (by omega) (by omega))]
    by_cases hp : P r = v
    · rw [if_pos hp, if_pos (this.mp hp)]
    · rw [if_neg hp, if_neg (fun z => hp (this.mpr z))]
theorem mls_s {P : Nat → Int} {v : Int} : ∀ (m r : Nat) (x : Int), (∀ p q, r ≤ p → p < r + m → r ≤ q → q < r + m → P p = v → P q = v → p = q) → mls P v m r x = if zfs P v m r = -4 then x else zfs P v m r
  | 0, r, x, _ => by unfold mls zfs; rw [if_pos rfl]
  | m + 1, r, x, h => by
    have ih := fun y => mls_s m (r + 1) y (fun p q h1 h2 h3 h4 => h p q (by omega) (by omega) (by omega) (by omega))
    unfold mls zfs
    by_cases hp : P r = v
    · rw [if_pos hp, if_pos hp, ih, if_neg (show ¬ ((r : Nat) : Int) = -4 by omega)]
      rcases zfs_r P v m (r + 1) with h1 | ⟨h1, h2, h3⟩
      · rw [if_pos h1]
      · have := h r (zfs P v m (r + 1)).toNat (by omega) (by omega) (by omega) (by omega) hp h3
        omega
    · rw [if_neg hp, if_neg hp, ih]
theorem mwho_s {S : zT} (h6 : 0 ≤ S 0 6) (h : zuq S) {t : Nat} (ht : t < 10) : mwho S t = sst S t := by
  unfold mwho sst
  rw [mls_s _ _ _ (fun p q h1 h2 h3 h4 h5 h6 => h p q (by omega) (by omega) (by omega) (by omega) (by omega))]
  split
  · rename_i h1; rw [h1]
  · rfl
theorem mlf_s {S : zT} (h6 : 0 ≤ S 0 6) (h : zuq S) {t : Nat} (ht : t < 10) : mlf S t = lft S t := by
  unfold mlf lft
  rw [mwho_s h6 h ht]
theorem lft_o (S : zT) (t : Nat) {a : Nat} (ha : a ≠ 6) : lft S t a = S a := by
  unfold lft
  split
  · rfl
  · exact zup_row _ _ ha
theorem zup6_at (S : zT) (k : Nat) (v : Int) (q : Nat) : zup S 6 k v 6 q = if q = k then v else S 6 q := by
  unfold zup
  by_cases h : q = k
  · rw [if_pos ⟨rfl, h⟩, if_pos h]
  · rw [if_neg (fun z => h z.2), if_neg h]
theorem zuq_30 {S : zT} (h : zuq S) (k : Nat) {v : Int} (hv : v < 10 ∨ 19 < v) : zuq (zup S 6 k v) := by
  intro p q hp hq h1 h2 h3
  rw [zup_row _ _ (by decide)] at hp hq
  rw [zup6_at] at h1 h2 h3
  rw [zup6_at] at h3
  by_cases hpk : p = k
  · rw [if_pos hpk] at h1 h2; omega
  · rw [if_neg hpk] at h1 h2 h3
    by_cases hqk : q = k
    · rw [if_pos hqk] at h3; omega
    · rw [if_neg hqk] at h3
      exact h p q hp hq h1 h2 h3
theorem zuq_lft {S : zT} (h : zuq S) (t : Nat) : zuq (lft S t) := by
  unfold lft
  split
  · exact h
  · exact zuq_30 h _ (by omega)
/-- a lift from one turn leaves who is on another -/
theorem sst_lft {S : zT} (h6 : 0 ≤ S 0 6 ∧ S 0 6 ≤ 5) (t u : Nat) (hu : u < 10) (htu : u ≠ t) : sst (lft S t) u = sst S u := by
  have e6 : lft S t 0 = S 0 := lft_0 S t
  unfold sst
  rw [e6]
  refine zfs_i _ _ (fun q _ hq => ?_)
  unfold lft
  split
  · exact Iff.rfl
  · rename_i hn
    rcases sst_r S t h6.2 with h1 | ⟨h1, h2, h3, h4⟩
    · exact absurd h1 hn
    · rw [zup6_at]
      by_cases hk : q = (sst S t).toNat
      · rw [if_pos hk, hk, h4]
        constructor <;> intro hz <;> omega
      · rw [if_neg hk]
theorem sst_lft0 {S : zT} (h6 : 0 ≤ S 0 6 ∧ S 0 6 ≤ 5) (h : zuq S) {t : Nat} (ht : t < 10) : ∀ q : Nat, (q : Int) < S 0 6 → lft S t 6 q ≠ 10 + (t : Int) := by
  intro q hq
  unfold lft
  split
  · rename_i hn
    intro hz
    exact zfs_ex (P := S 6) (v := 10 + (t : Int)) hz (S 0 6).toNat 0 (by omega) (by omega) hn
  · rename_i hn
    rcases sst_r S t h6.2 with h1 | ⟨h1, h2, h3, h4⟩
    · exact absurd h1 hn
    · rw [zup6_at]
      split
      · omega
      · rename_i hk
        intro hz
        have := h (sst S t).toNat q (by omega) hq (by omega) (by omega) (by rw [h4, hz])
        omega
def mlk : Nat → Nat → zT → zT
  | 0, _, S => S
  | k + 1, t, S => mlk k (t + 1) (lft S t)
theorem mlk_o {a : Nat} (ha : a ≠ 6) : ∀ (k t : Nat) (S : zT), mlk k t S a = S a
  | 0, _, _ => rfl
  | k + 1, t, S => by
    unfold mlk
    rw [mlk_o ha k, lft_o _ _ ha]
theorem mlk_uq : ∀ (k t : Nat) (S : zT), zuq S → zuq (mlk k t S)
  | 0, _, _, h => h
  | k + 1, t, S, h => mlk_uq k (t + 1) _ (zuq_lft h t)
theorem zup_comm (S : zT) {a b c d : Nat} (h : ¬ (a = c ∧ b = d)) (x y : Int) : zup (zup S a b x) c d y = zup (zup S c d y) a b x := by
  funext i j
  unfold zup
  by_cases h1 : i = c ∧ j = d
  · rw [if_pos h1, if_neg (by omega), if_pos h1]
  · rw [if_neg h1]
    by_cases h2 : i = a ∧ j = b
    · rw [if_pos h2, if_pos h2]
    · rw [if_neg h2, if_neg h2, if_neg h1]
theorem sst_up1 (S : zT) (t : Nat) (d : Int) (u : Nat) : sst (zup S 1 t d) u = sst S u := by
  unfold sst
  rw [zup_row _ _ (by decide), zup_row _ _ (by decide)]
theorem lft_up1 (S : zT) (t : Nat) (d : Int) (u : Nat) : lft (zup S 1 t d) u = zup (lft S u) 1 t d := by
  unfold lft
  rw [sst_up1]
  split
  · rfl
  · exact zup_comm _ (by omega) _ _
theorem mlk_up1 (t : Nat) (d : Int) : ∀ (k u : Nat) (S : zT), mlk k u (zup S 1 t d) = zup (mlk k u S) 1 t d
  | 0, _, _ => rfl
  | k + 1, u, S => by
    unfold mlk
    rw [lft_up1, mlk_up1 t d k]
theorem mdc_up6 (r : Nat) (e : Int) : ∀ (m t : Nat) (S : zT), mdc m t (zup S 6 r e) = zup (mdc m t S) 6 r e
  | 0, _, _ => rfl
  | m + 1, t, S => by
    unfold mdc
    rw [zup_row S e (show (1 : Nat) ≠ 6 by decide), zup_comm _ (by omega), mdc_up6 r e m]
theorem sdn_k {w : Nat → Int} {T : Nat} (hT : T ≤ 10) (hw : T < 10 → w T = -4) : ∀ (m t : Nat) (S : zT), t + m = 10 → t ≤ T → (∀ u, u < 10 → 0 ≤ S 1 u) → (∀ u, t ≤ u → u < T → w u ≠ -4) → sdn w m t S = mdc (T - t) t (mlk (min (T + 1) 10 - t) t S)
  | 0, t, S, ht, htT, _, _ => by
    rw [show T - t = 0 by omega, show min (T + 1) 10 - t = 0 by omega]
    rfl
  | m + 1, t, S, ht, htT, hS, hu => by
    unfold sdn
    by_cases he : t = T
    · rw [if_pos (by rw [he]; exact hw (by omega)), show T - t = 0 by omega, show min (T + 1) 10 - t = 1 by omega]
      rfl
    · rw [if_neg (hu t (by omega) (by omega)), sdn_k hT hw m (t + 1) _ (by omega) (by omega) (fun u hu2 => ?_) (fun u h1 h2 => hu u (by omega) h2), show T - t = (T - (t + 1)) + 1 by omega, show min (T + 1) 10 - t = (min (T + 1) 10 - (t + 1)) + 1 by omega]
      · have h0 := hS t (by omega)
        have ed : (if 0 < lft S t 1 t - 1 then lft S t 1 t - 1 else 0) = S 1 t - (if 0 < S 1 t then 1 else 0) := by
          rw [lft_o S t (by decide)]
          repeat' split
          all_goals omega
        have e1 : mlk (min (T + 1) 10 - (t + 1)) (t + 1) (lft S t) 1 = S 1 := by rw [mlk_o (by decide), lft_o _ _ (by decide)]
        rw [ed, mlk_up1]
        show _ = mdc ((T - (t + 1)) + 1) t (mlk (min (T + 1) 10 - (t + 1)) (t + 1) (lft S t))
        rw [mdc, e1]
      · rw [lft_o S t (by decide)]
        have h0 := hS t (by omega)
        have h1 := hS u hu2
        by_cases hut : u = t
        · subst hut
          rw [zup_at]
          split <;> omega
        · rw [zup_ne _ _ (by omega), lft_o S t (by decide)]
          exact h1
theorem sgn_rw {S S' : zT} (h2 : S 2 = S' 2) (h3 : S 3 = S' 3) (h4 : S 4 = S' 4) (r t : Nat) (v : Int) : sgn S r t v = sgn S' r t v := by
  unfold sgn sgo
  rw [h2, h3, h4]
theorem mx_s {S S1 : zT} {r t : Nat} {v : Int} (hs : mwho S t = sst S1 t) (h1 : S 1 = S1 1) (h2 : S 2 = S1 2) (h3 : S 3 = S1 3) (h4 : S 4 = S1 4) (hr : sst S1 t ≠ (r : Int)) : mx S r t v = sbh S1 t r v (S1 1 t) := by
  unfold mx mhf mmn sbh
  rw [hs, h1, h2, sgn_rw h2 h3 h4]
  generalize sst S1 t = w at *
  generalize sgn S1 r t v = g
  repeat' split
  all_goals omega
theorem mrl_s {S1 : zT} {r : Nat} (h6 : 0 ≤ S1 0 6 ∧ S1 0 6 ≤ 5) (hr : ∀ u, u < 10 → sst S1 u ≠ (r : Int)) : ∀ (m t : Nat) (v : Int) (S : zT) (B : Nat → Int), t + m = 10 → zuq S → S 0 = S1 0 → (∀ a, 1 ≤ a → a ≤ 5 → S a = S1 a) → (∀ u, t ≤ u → u < 10 → sst S u = sst S1 u) →
    (t ≤ (mrl r m t v S B).1.1 ∧ (mrl r m t v S B).1.1 ≤ 10) ∧ (mrl r m t v S B).2.1 = mlk (min ((mrl r m t v S B).1.1 + 1) 10 - t) t S ∧ (mrl r m t v S B).2.2 = (sft S1 r m t v B).2 ∧ mfe r (mrl r m t v S B) = (sft S1 r m t v B).1 ∧ (∀ u, t ≤ u → u < (mrl r m t v S B).1.1 → 0 < (mrl r m t v S B).2.2 u) ∧ (∀ u, (u < t ∨ (mrl r m t v S B).1.1 ≤ u) → (mrl r m t v S B).2.2 u = B u)
  | 0, t, v, S, B, ht, hu, h0, ha, hs => by
    have e : t = 10 := by omega
    subst e
    refine ⟨⟨Nat.le_refl _, Nat.le_refl _⟩, rfl, rfl, ?_, fun u h1 h2 => ?_, fun u _ => rfl⟩
    · show (if (10 : Nat) < 10 then _ else (v + S 5 r) % 8) = (v + S1 5 r) % 8
      rw [if_neg (by omega), ha 5 (by omega) (by omega)]
    · have : u < 10 := h2
      omega
  | m + 1, t, v, S, B, ht, hu, h0, ha, hs => by
    have ht10 : t < 10 := by omega
    have h6S : 0 ≤ S 0 6 ∧ S 0 6 ≤ 5 := by rw [h0]; exact h6
    have ew := mwho_s h6S.1 hu ht10
    have ex := mx_s (v := v) (ew.trans (hs t (Nat.le_refl t) ht10)) (ha 1 (by omega) (by omega)) (ha 2 (by omega) (by omega)) (ha 3 (by omega) (by omega)) (ha 4 (by omega) (by omega)) (hr t ht10)
    have el := mlf_s h6S.1 hu ht10
    unfold mrl sft
    rw [ex, el]
    generalize sbh S1 t r v (S1 1 t) = x
    by_cases hx : 0 < x
    · rw [if_pos hx, if_pos hx]
      have ih := mrl_s h6 hr m (t + 1) x (lft S t) (fun j => if j = t then x else B j) (by omega) (zuq_lft hu t) (by rw [lft_0]; exact h0) (fun a h1 h2 => by rw [lft_o _ _ (by omega)]; exact ha a h1 h2) (fun u h1 h2 => by rw [sst_lft h6S t u h2 (by omega)]; exact hs u (by omega) h2)
      obtain ⟨⟨i1, i2⟩, i3, i4, i5, i6, i7⟩ := ih
      generalize mrl r m (t + 1) x (lft S t) (fun j => if j = t then x else B j) = q at i1 i2 i3 i4 i5 i6 i7 ⊢
      refine ⟨⟨by omega, i2⟩, ?_, i4, i5, fun u h1 h2 => ?_, fun u h1 => ?_⟩
      · rw [i3, show min (q.1.1 + 1) 10 - t = (min (q.1.1 + 1) 10 - (t + 1)) + 1 by omega]
        rfl
      · by_cases hut : u = t
        · subst hut
          rw [i7 u (by omega), if_pos rfl]
          exact hx
        · exact i6 u (by omega) h2
      · rw [i7 u (by omega), if_neg (by omega)]
    · rw [if_neg hx, if_neg hx]
      refine ⟨⟨Nat.le_refl _, by show t ≤ 10; omega⟩, ?_, rfl, ?_, fun u h1 h2 => ?_, fun u _ => rfl⟩
      · show lft S t = mlk (min (t + 1) 10 - t) t S
        rw [show min (t + 1) 10 - t = 1 by omega]
        rfl
      · show (if t < 10 then 10 + (t : Int) else _) = 10 + (t : Int)
        rw [if_pos ht10]
      · have : u < t := h2
        omega
theorem sst_top {S : zT} (h6 : 0 ≤ S 0 6 ∧ S 0 6 ≤ 5) {r : Nat} (hr : S 6 r = 30) {u : Nat} (hu : u < 10) : sst S u ≠ (r : Int) := fun e => by
  rcases sst_r S u h6.2 with h1 | ⟨h1, h2, h3, h4⟩
  · omega
  · rw [e, Int.toNat_natCast, hr] at h4
    omega
/-- the reference's ride, and the class's -/
theorem mrq_e {S : zT} {r : Nat} (hS : zSr S) (hu : zuq S) (B : Nat → Int) : mfe r (mrq S r B) = sfe (zup S 6 r 30) r ∧ (∀ j, j < 10 → (mrq S r B).2.2 j = sfw (zup S 6 r 30) r j) ∧ mfs r (mrq S r B) = send (zup S 6 r 30) r := by
  have h6 : 0 ≤ zup S 6 r 30 0 6 ∧ zup S 6 r 30 0 6 ≤ 5 := by rw [zup_row _ _ (by decide)]; exact hS.1
  have hr6 : zup S 6 r 30 6 r = 30 := zup_at _ _ _ _
  have hu1 := zuq_30 hu r (v := 30) (by omega)
  have hS1 : ∀ u, u < 10 → 0 ≤ zup S 6 r 30 1 u := fun u h => by rw [zup_row _ _ (by decide)]; exact (hS.2.1 u h).1
  obtain ⟨⟨i1, i2⟩, i3, i4, i5, i6, i7⟩ := mrl_s (S1 := zup S 6 r 30) h6 (fun u h => sst_top h6 hr6 h) 10 0 2 (zup S 6 r 30) (zfl B 10 (-4)) (by omega) hu1 rfl (fun _ _ _ => rfl) (fun _ _ _ => rfl)
  have hq : mrq S r B = mrl r 10 0 2 (zup S 6 r 30) (zfl B 10 (-4)) := rfl
  rw [← hq] at i1 i2 i3 i4 i5 i6 i7
  have hw := sft_0 (zup S 6 r 30) r B
  rw [← i4] at hw
  have hwe : ∀ j, j < 10 → (mrq S r B).2.2 j = sfw (zup S 6 r 30) r j := hw.2
  have he : mfe r (mrq S r B) = sfe (zup S 6 r 30) r := i5.trans hw.1
  refine ⟨he, hwe, ?_⟩
  have hsd : sdn (sfw (zup S 6 r 30) r) 10 0 (zup S 6 r 30) = mdc (mrq S r B).1.1 0 (mrq S r B).2.1 := by
    rw [i3, sdn_k (w := sfw (zup S 6 r 30) r) (T := (mrq S r B).1.1) i2 (fun h => by rw [← hwe _ h, i7 _ (Or.inr (Nat.le_refl _))]; unfold zfl; rw [if_pos h]) 10 0 (zup S 6 r 30) rfl (Nat.zero_le _) hS1 (fun u h1 h2 => by have := i6 u h1 h2; rw [hwe u (by omega)] at this; omega)]
    rfl
  unfold mfs send mf7
  rw [mdc_up6, hsd, he]
/-- where he stands now is nothing to what is foretold -/
theorem sst_30 {S : zT} (h6 : 0 ≤ S 0 6 ∧ S 0 6 ≤ 5) (hu : zuq S) {r : Nat} (hr : (r : Int) < S 0 6) {t : Nat} (ht : t < 10) : (sst S t = (r : Int) ∧ sst (zup S 6 r 30) t = -4) ∨ (sst S t ≠ (r : Int) ∧ sst (zup S 6 r 30) t = sst S t) := by
  by_cases hc : S 6 r = 10 + (t : Int)
  · left
    constructor
    · rcases sst_r S t h6.2 with h1 | ⟨h1, h2, h3, h4⟩
      · exact absurd h1 (zfs_ex hc (S 0 6).toNat 0 (by omega) (by omega))
      · have := hu (sst S t).toNat r (by omega) hr (by omega) (by omega) (by rw [h4, hc])
        omega
    · unfold sst
      rw [zup_row S _ (show (0 : Nat) ≠ 6 by decide)]
      refine zfs_no _ _ (fun q _ hq => ?_)
      rw [zup6_at]
      split
      · omega
      · rename_i hqr
        intro hz
        exact hqr (hu q r (by omega) hr (by omega) (by omega) (by rw [hz, hc]))
  · right
    constructor
    · intro e
      rcases sst_r S t h6.2 with h1 | ⟨h1, h2, h3, h4⟩
      · omega
      · rw [e, Int.toNat_natCast] at h4
        exact hc h4
    · unfold sst
      rw [zup_row S _ (show (0 : Nat) ≠ 6 by decide)]
      refine zfs_i _ _ (fun q _ hq => ?_)
      rw [zup6_at]
      split
      · rename_i hqr
        rw [hqr]
        constructor
        · intro hz; omega
        · intro hz; exact absurd hz hc
      · exact Iff.rfl
theorem sbh_30 {S : zT} (h6 : 0 ≤ S 0 6 ∧ S 0 6 ≤ 5) (hu : zuq S) {r : Nat} (hr : (r : Int) < S 0 6) {t : Nat} (ht : t < 10) (v g : Int) : sbh (zup S 6 r 30) t r v g = sbh S t r v g := by
  unfold sbh
  rw [sgn_rw (S := zup S 6 r 30) (S' := S) (zup_row _ _ (by decide)) (zup_row _ _ (by decide)) (zup_row _ _ (by decide)), zup_row S _ (show (2 : Nat) ≠ 6 by decide)]
  rcases sst_30 h6 hu hr ht with ⟨h1, h2⟩ | ⟨h1, h2⟩
  · rw [h1, h2]
    generalize sgn S r t v = x
    repeat' split
    all_goals omega
  · rw [h2]
theorem sft_30 {S : zT} (h6 : 0 ≤ S 0 6 ∧ S 0 6 ≤ 5) (hu : zuq S) {r : Nat} (hr : (r : Int) < S 0 6) : ∀ (m t : Nat) (v : Int) (w : Nat → Int), t + m ≤ 10 → sft (zup S 6 r 30) r m t v w = sft S r m t v w
  | 0, t, v, w, _ => by unfold sft; rw [zup_row _ _ (by decide)]
  | m + 1, t, v, w, h => by
    unfold sft
    rw [sbh_30 h6 hu hr (by omega), zup_row S _ (show (1 : Nat) ≠ 6 by decide), sft_30 h6 hu hr m (t + 1) _ _ (by omega)]
theorem sfe_30 {S : zT} (h6 : 0 ≤ S 0 6 ∧ S 0 6 ≤ 5) (hu : zuq S) {r : Nat} (hr : (r : Int) < S 0 6) : sfe (zup S 6 r 30) r = sfe S r := by unfold sfe; rw [sft_30 h6 hu hr 10 0 2 _ (by omega)]
theorem sfw_30 {S : zT} (h6 : 0 ≤ S 0 6 ∧ S 0 6 ≤ 5) (hu : zuq S) {r : Nat} (hr : (r : Int) < S 0 6) : sfw (zup S 6 r 30) r = sfw S r := by unfold sfw; rw [sft_30 h6 hu hr 10 0 2 _ (by omega)]
/-- a ride leaves no two on one turn -/
theorem zuq_send {S : zT} (hS : zSr S) (hu : zuq S) {r : Nat} (hr : (r : Int) < S 0 6) (h30 : S 6 r = 30) : zuq (send S r) := by
  have e30 : zup S 6 r 30 = S := by rw [← h30]; exact zup_self S 6 r
  have hm := mrq_e (r := r) hS hu (fun _ => 0)
  obtain ⟨⟨i1, i2⟩, i3, i4, i5, i6, i7⟩ := mrl_s (S1 := zup S 6 r 30) (by rw [zup_row _ _ (by decide)]; exact hS.1) (fun u h => sst_top (by rw [zup_row _ _ (by decide)]; exact hS.1) (zup_at _ _ _ _) h) 10 0 2 (zup S 6 r 30) (zfl (fun _ => 0) 10 (-4)) (by omega) (by rw [e30]; exact hu) rfl (fun _ _ _ => rfl) (fun _ _ _ => rfl)
  have hq : mrq S r (fun _ => 0) = mrl r 10 0 2 (zup S 6 r 30) (zfl (fun _ => 0) 10 (-4)) := rfl
  rw [← hq] at i1 i2 i3
  rw [e30] at hm i3
  rw [← hm.2.2]
  have key : ∀ (k t : Nat) (S : zT), zuq S → 0 ≤ S 0 6 ∧ S 0 6 ≤ 5 → t + k + 1 ≤ 10 → ∀ q : Nat, (q : Int) < S 0 6 → mlk (k + 1) t S 6 q ≠ 10 + ((t + k : Nat) : Int) := by
    intro k
    induction k with
    | zero => exact fun t S h h6 ht q hq => sst_lft0 h6 h (by omega) q hq
    | succ k ih =>
      intro t S h h6 ht q hq
      have := ih (t + 1) (lft S t) (zuq_lft h t) (by rw [lft_0]; exact h6) (by omega) q (by rw [lft_0]; exact hq)
      rw [show t + (k + 1) = t + 1 + k by omega]
      exact this
  have hml := mlk_uq (min ((mrq S r (fun _ => 0)).1.1 + 1) 10 - 0) 0 S hu
  have hfe : mfe r (mrq S r (fun _ => 0)) = if (mrq S r (fun _ => 0)).1.1 < 10 then 10 + ((mrq S r (fun _ => 0)).1.1 : Int) else ((mrq S r (fun _ => 0)).1.2 + (mrq S r (fun _ => 0)).2.1 5 r) % 8 := rfl
  intro p q hp hq1 h1 h2 h3
  have e0 : mfs r (mrq S r (fun _ => 0)) 0 6 = S 0 6 := by
    unfold mfs mf7
    rw [zup_ne _ _ (by omega), mdc_o 0 (by decide), zup_row _ _ (by decide), i3, mlk_o (by decide)]
  have e6 : ∀ q, mfs r (mrq S r (fun _ => 0)) 6 q = if q = r then mfe r (mrq S r (fun _ => 0)) else mlk (min ((mrq S r (fun _ => 0)).1.1 + 1) 10 - 0) 0 S 6 q := fun q => by
    unfold mfs mf7
    rw [zup_row _ _ (by decide), mdc_o 6 (by decide), zup6_at, i3]
  rw [e0] at hp hq1
  rw [e6] at h1 h2 h3
  rw [e6] at h3
  generalize hT : (mrq S r (fun _ => 0)).1.1 = T at *
  have hno : 10 ≤ mfe r (mrq S r (fun _ => 0)) → ∀ q : Nat, (q : Int) < S 0 6 → mlk (min (T + 1) 10 - 0) 0 S 6 q ≠ mfe r (mrq S r (fun _ => 0)) := fun hge q hq => by
    rw [hfe] at hge ⊢
    by_cases hT10 : T < 10
    · rw [if_pos hT10]
      have := key T 0 S hu hS.1 (by omega) q hq
      rw [show min (T + 1) 10 - 0 = T + 1 by omega]
      rw [show 0 + T = T by omega] at this
      exact this
    · rw [if_neg hT10] at hge
      omega
  have e60 : mlk (min (T + 1) 10 - 0) 0 S 0 6 = S 0 6 := by rw [mlk_o (by decide)]
  by_cases hpr : p = r
  · rw [if_pos hpr] at h1 h2 h3
    by_cases hqr : q = r
    · rw [hpr, hqr]
    · rw [if_neg hqr] at h3
      exact absurd h3.symm (hno h1 q hq1)
  · rw [if_neg hpr] at h1 h2 h3
    by_cases hqr : q = r
    · rw [if_pos hqr] at h3
      exact absurd h3 (hno (by omega) p hp)
    · rw [if_neg hqr] at h3
      exact hml p q (by rw [e60]; exact hp) (by rw [e60]; exact hq1) h1 h2 h3
theorem zuq_q {S S' : zT} (h : zQe S S') (hu : zuq S') : zuq S := fun p q hp hq h1 h2 h3 => by
  rw [(h.2.2 p hp).2.2.2] at h1 h2 h3
  rw [(h.2.2 q hq).2.2.2] at h3
  exact hu p q (by rw [← h.1.1]; exact hp) (by rw [← h.1.1]; exact hq) h1 h2 h3
theorem zuq_sdo {S : zT} (hS : zSr S) (hu : zuq S) : zuq (sdo S) := by
  have hA : zuq (sdoA S) := by
    intro p q hp hq h1 h2 h3
    have e6 : sdoA S 6 = S 6 := zup_row _ _ (by decide)
    have e0 : sdoA S 0 6 = S 0 6 := zup_ne _ _ (by omega)
    rw [e6] at h1 h2 h3
    rw [e0] at hp hq
    exact hu p q hp hq h1 h2 h3
  have hB : zuq (sdoB (sdoA S)) := by
    unfold sdoB
    split
    · rename_i h0
      obtain ⟨q, hq, hq5⟩ := sdq (sdoA S) (sdoA_sr hS) (sdoA_8 S) h0
      have hx2 := Int.emod_lt_of_pos (sdoA S 0 8 / 65536) h0
      rw [hq] at hx2
      rw [hq, Int.toNat_natCast]
      split
      · rename_i h30
        exact zuq_send (sdoA_sr hS) hA hx2 h30
      · exact zuq_30 hA _ (by omega)
    · exact hA
  intro p q hp hq h1 h2 h3
  have e6 : sdo S 6 = sdoB (sdoA S) 6 := by unfold sdo sdoC; exact zup_row _ _ (by decide)
  have e0 : sdo S 0 = sdoB (sdoA S) 0 := by unfold sdo sdoC; exact zup_row _ _ (by decide)
  rw [e6] at h1 h2 h3
  rw [e0] at hp hq
  exact hB p q hp hq h1 h2 h3
theorem zl2i_id {x : Int} (h : -2147483648 ≤ x ∧ x ≤ 2147483647) : zl2i x = x := by
  unfold zl2i
  rw [Int64.toInt_toInt32, zn_TL (by omega)]
  exact Int.bmod_eq_of_le (by omega) (by omega)
theorem zuq_up {S : zT} (h : zuq S) {i : Nat} (h0 : i ≠ 0) (h6 : i ≠ 6) (j : Nat) (v : Int) : zuq (zup S i j v) := by
  intro p q hp hq h1 h2 h3
  rw [zup_row _ _ (Ne.symm h0)] at hp hq
  rw [zup_row _ _ (Ne.symm h6)] at h1 h2 h3
  exact h p q hp hq h1 h2 h3
theorem zuq_up1 {S : zT} (h : zuq S) {i : Nat} (h6 : i ≠ 6) {j : Nat} (h0 : ¬ (i = 0 ∧ j = 6)) (v : Int) : zuq (zup S i j v) := by
  intro p q hp hq h1 h2 h3
  rw [zup_ne _ _ (by omega)] at hp hq
  rw [zup_row _ _ (Ne.symm h6)] at h1 h2 h3
  exact h p q hp hq h1 h2 h3
theorem sdn_o {w : Nat → Int} {a : Nat} (h1 : a ≠ 1) (h6 : a ≠ 6) : ∀ (m t : Nat) (S : zT), sdn w m t S a = S a
  | 0, _, _ => rfl
  | m + 1, t, S => by
    unfold sdn
    split
    · exact lft_o S t h6
    · rw [sdn_o h1 h6 m, zup_row _ _ h1, lft_o S t h6]
theorem send_k (S : zT) (r : Nat) {a : Nat} (h : a = 3 ∨ a = 4) : send S r a = S a := by
  unfold send
  rw [zup_row _ _ (by omega), zup_row _ _ (by omega), sdn_o (by omega) (by omega)]
theorem send_06' (S : zT) (r : Nat) : send S r 0 6 = S 0 6 := send_06 S r 6 (by decide)
theorem sdo_k (S : zT) {a : Nat} (h : a = 3 ∨ a = 4) : sdo S a = S a := by
  have hA : sdoA S a = S a := zup_row _ _ (by omega)
  unfold sdo sdoC
  rw [zup_row _ _ (by omega)]
  unfold sdoB
  split
  · split
    · rw [send_k _ _ h, hA]
    · rw [zup_row _ _ (by omega), hA]
  · exact hA
