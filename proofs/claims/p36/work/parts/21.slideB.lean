/-! ===== a Slide at place b: seven cells; its picture S: row 0 the object (6 riders, 7 rides, 8 draw), 1 rough, 2 bump, 3 kind, 4 heavy, 5 lean, 6 place ===== -/
abbrev zT : Type := Nat → Nat → Int
def zsl (I : zI2) (b : Nat) (S : zT) : zI2 := fun a j => if b ≤ a ∧ a < b + 7 then S (a - b) j else I a j
def zvw (I : zI2) (b : Nat) : zT := fun i j => if i < 7 then I (b + i) j else 0
theorem zsl_self (I : zI2) (b : Nat) : zsl I b (zvw I b) = I := by
  funext a j
  unfold zsl
  split
  · rename_i h
    show (if a - b < 7 then I (b + (a - b)) j else 0) = I a j
    rw [if_pos (by omega)]
    congr 1
    omega
  · rfl
theorem zvw_r (I : zI2) (b : Nat) {i : Nat} (hi : i < 7) : zvw I b i = I (b + i) := by
  funext j
  unfold zvw
  rw [if_pos hi]
theorem zvw_0 (I : zI2) (b : Nat) : zvw I b 0 = I b := zvw_r I b (i := 0) (by decide)
theorem zvw_o {I J : zI2} {b : Nat} (h : ∀ i, i < 7 → I (b + i) = J (b + i)) : zvw I b = zvw J b := by
  funext i j
  unfold zvw
  by_cases hi : i < 7
  · rw [if_pos hi, if_pos hi, h i hi]
  · rw [if_neg hi, if_neg hi]
theorem zsl_0 (I : zI2) (b : Nat) (S : zT) (j : Nat) : zsl I b S b j = S 0 j := by
  unfold zsl
  rw [if_pos (by omega), Nat.sub_self]
theorem zsl_r (I : zI2) (b : Nat) (S : zT) {i : Nat} (hi : i < 7) (j : Nat) : zsl I b S (b + i) j = S i j := by
  unfold zsl
  rw [if_pos (by omega), Nat.add_sub_cancel_left]
theorem zsl_o (I : zI2) (b : Nat) (S : zT) {a : Nat} (ha : a < b ∨ b + 7 ≤ a) (j : Nat) : zsl I b S a j = I a j := by
  unfold zsl
  rw [if_neg (by omega)]
theorem zsl_oR (I : zI2) (b : Nat) (S : zT) {a : Nat} (ha : a < b ∨ b + 7 ≤ a) : zsl I b S a = I a := funext (zsl_o I b S ha)
theorem zsl_up (I : zI2) (b : Nat) (S : zT) {i : Nat} (hi : i < 7) (j : Nat) (v : Int) : zup (zsl I b S) (b + i) j v = zsl I b (zup S i j v) := by
  funext a q
  unfold zup zsl
  by_cases h : b ≤ a ∧ a < b + 7
  · rw [if_pos h, if_pos h]
    by_cases h2 : a = b + i
    · subst h2
      simp [Nat.add_sub_cancel_left]
    · rw [if_neg (fun z => h2 z.1)]
      show _ = if a - b = i ∧ q = j then v else S (a - b) q
      rw [if_neg (fun z => h2 (by omega))]
  · rw [if_neg h, if_neg h, if_neg (fun z => h (by omega))]
theorem zsl_up0 (I : zI2) (b : Nat) (S : zT) (j : Nat) (v : Int) : zup (zsl I b S) b j v = zsl I b (zup S 0 j v) := zsl_up I b S (i := 0) (by decide) j v
theorem zsl_upo (I : zI2) (b : Nat) (S : zT) {a : Nat} (ha : a < b ∨ b + 7 ≤ a) (j : Nat) (v : Int) : zup (zsl I b S) a j v = zsl (zup I a j v) b S := by
  funext c q
  unfold zup zsl
  by_cases h : b ≤ c ∧ c < b + 7
  · rw [if_pos h, if_pos h, if_neg (fun z => by omega)]
  · rw [if_neg h, if_neg h]
theorem zsl_rowo (I : zI2) (b : Nat) (S : zT) {a : Nat} (ha : a < b ∨ b + 7 ≤ a) (f : Nat → Int) : zrow (zsl I b S) a f = zsl (zrow I a f) b S := by
  funext c q
  unfold zrow zsl
  by_cases h : b ≤ c ∧ c < b + 7
  · rw [if_pos h, if_pos h, if_neg (fun z => by omega)]
  · rw [if_neg h, if_neg h]
theorem zsl_row (I : zI2) (b : Nat) (S : zT) {i : Nat} (hi : i < 7) (f : Nat → Int) : zrow (zsl I b S) (b + i) f = zsl I b (zrow S i f) := by
  funext c q
  unfold zrow zsl
  by_cases h : b ≤ c ∧ c < b + 7
  · rw [if_pos h, if_pos h]
    by_cases h2 : c = b + i
    · subst h2
      simp [Nat.add_sub_cancel_left]
    · rw [if_neg h2]
      show _ = if c - b = i then f q else S (c - b) q
      rw [if_neg (by omega)]
  · rw [if_neg h, if_neg h, if_neg (by omega)]
theorem zsl_sl (I : zI2) (b : Nat) (S S' : zT) : zsl (zsl I b S) b S' = zsl I b S' := by
  funext c q
  unfold zsl
  by_cases h : b ≤ c ∧ c < b + 7
  · rw [if_pos h, if_pos h]
  · rw [if_neg h, if_neg h, if_neg h]
theorem zvw_up (I : zI2) {b a : Nat} (ha : a < b ∨ b + 7 ≤ a) (j : Nat) (v : Int) : zvw (zup I a j v) b = zvw I b := zvw_o fun i hi => by
  funext c
  unfold zup
  rw [if_neg (by omega)]
theorem zvw_row (I : zI2) {b a : Nat} (ha : a < b ∨ b + 7 ≤ a) (f : Nat → Int) : zvw (zrow I a f) b = zvw I b := zvw_o fun i hi => by
  funext c
  unfold zrow
  rw [if_neg (by omega)]
theorem zvw_slo (I : zI2) {b c : Nat} (hc : c + 7 ≤ b ∨ b + 7 ≤ c) (S : zT) : zvw (zsl I c S) b = zvw I b := zvw_o fun i hi => zsl_oR I c S (by omega)
theorem zvw_sl (I : zI2) (b : Nat) (S : zT) {i : Nat} (hi : i < 7) : zvw (zsl I b S) b i = S i := by
  rw [zvw_r _ _ hi]
  exact funext (zsl_r I b S hi)
theorem zrow_up (I : zI2) (a : Nat) (f : Nat → Int) (j : Nat) (v : Int) : zup (zrow I a f) a j v = zrow I a (fun q => if q = j then v else f q) := by
  funext c q
  unfold zup zrow
  by_cases h : c = a
  · subst h
    by_cases h2 : q = j <;> simp [h2]
  · simp [h]
theorem zrow_row (I : zI2) (a : Nat) (f g : Nat → Int) : zrow (zrow I a f) a g = zrow I a g := by
  funext c q
  unfold zrow
  by_cases h : c = a <;> simp [h]
theorem zrow_self (I : zI2) (a : Nat) : zrow I a (I a) = I := by
  funext c q
  unfold zrow
  by_cases h : c = a <;> simp [h]
theorem zrow_at (I : zI2) (a : Nat) (f : Nat → Int) (j : Nat) : zrow I a f a j = f j := by simp [zrow]
/-- the shape of a Slide at b -/
def zSl (sh : zH) (R : zR2) (b : Nat) : Prop := (sh[b]? = some (4, 9) ∧ sh[b + 1]? = some (20, 10) ∧ sh[b + 2]? = some (20, 10) ∧ sh[b + 3]? = some (20, 5) ∧ sh[b + 4]? = some (20, 5) ∧ sh[b + 5]? = some (20, 5) ∧ sh[b + 6]? = some (20, 5)) ∧ (R b 0 = some (b + 1) ∧ R b 1 = some (b + 2) ∧ R b 2 = some (b + 3) ∧ R b 3 = some (b + 4) ∧ R b 4 = some (b + 5) ∧ R b 5 = some (b + 6))
/-- the ranges of a Slide's picture -/
def zSr (S : zT) : Prop := (0 ≤ S 0 6 ∧ S 0 6 ≤ 5) ∧ (∀ t, t < 10 → 0 ≤ S 1 t ∧ S 1 t ≤ 9) ∧ (∀ t, t < 10 → 0 ≤ S 2 t ∧ S 2 t ≤ 9) ∧ (∀ r, r < 5 → 0 ≤ S 3 r ∧ S 3 r ≤ 4) ∧ (∀ r, r < 5 → 0 ≤ S 4 r ∧ S 4 r ≤ 20) ∧ (∀ r, r < 5 → 0 ≤ S 5 r ∧ S 5 r ≤ 7) ∧ (∀ r, r < 5 → 0 ≤ S 6 r ∧ S 6 r ≤ 30)
/-! what its methods answer -/
def zfs (P : Nat → Int) (v : Int) : Nat → Nat → Int
  | 0, _ => -4
  | m + 1, r => if P r = v then (r : Int) else zfs P v m (r + 1)
theorem zfs_r (P : Nat → Int) (v : Int) : ∀ m r, zfs P v m r = -4 ∨ ((r : Int) ≤ zfs P v m r ∧ zfs P v m r < (r : Int) + m ∧ P (zfs P v m r).toNat = v)
  | 0, r => Or.inl rfl
  | m + 1, r => by
    unfold zfs
    by_cases h : P r = v
    · rw [if_pos h]
      exact Or.inr ⟨by omega, by omega, by simpa using h⟩
    · rw [if_neg h]
      rcases zfs_r P v m (r + 1) with h1 | ⟨h1, h2, h3⟩
      · exact Or.inl h1
      · exact Or.inr ⟨by omega, by omega, h3⟩
def sst (S : zT) (t : Nat) : Int := zfs (S 6) (10 + (t : Int)) (S 0 6).toNat 0
theorem sst_r (S : zT) (t : Nat) (h : S 0 6 ≤ 5) : sst S t = -4 ∨ (0 ≤ sst S t ∧ sst S t < 5 ∧ sst S t < S 0 6 ∧ S 6 (sst S t).toNat = 10 + (t : Int)) := by
  rcases zfs_r (S 6) (10 + (t : Int)) (S 0 6).toNat 0 with h1 | ⟨h1, h2, h3⟩
  · exact Or.inl h1
  · have h4 : ((0 : Nat) : Int) ≤ sst S t := h1
    have h5 : sst S t < ((0 : Nat) : Int) + ((S 0 6).toNat : Int) := h2
    exact Or.inr ⟨by omega, by omega, by omega, h3⟩
def zst (P : Nat → Prop) [DecidablePred P] : Nat → Nat → Int → Int
  | 0, _, x => x
  | m + 1, r, x => zst P m (r + 1) (if P r then zor x (zshl 1 r) else x)
def stop_ (S : zT) : Int := zst (fun r => S 6 r = 30) (S 0 6).toNat 0 0
def sthr (S : zT) : Int := zst (fun r => 0 ≤ S 6 r ∧ S 6 r ≤ 7) (S 0 6).toNat 0 0
def stak (S : zT) : Int := zst (fun t => ¬ sst S t = -4) 10 0 0
def sgo (S : zT) (r : Nat) : Int := 2 + S 4 r / 5
def cgo (v : Int) : Int := if v < 6 then 2 else 0
def sgn (S : zT) (r t : Nat) (v : Int) : Int := if S 3 r = 1 then sgo S r else if S 3 r = 2 then cgo v else if S 3 r = 3 then (if t % 2 = 0 then sgo S r else sgo S r / 2) else if S 3 r = 4 then cgo v + 2 * S 2 t else 2
theorem sgn_r (S : zT) (r t : Nat) (v : Int) (hS : zSr S) (hr : r < 5) (ht : t < 10) : 0 ≤ sgn S r t v ∧ sgn S r t v ≤ 20 := by
  have h1 := hS.2.2.1 t ht
  have h2 := hS.2.2.2.2.1 r hr
  unfold sgn sgo cgo
  repeat' split
  all_goals omega
def sbh (S : zT) (t r : Nat) (v g : Int) : Int :=
  if ¬ sst S t = -4 ∧ ¬ sst S t = (r : Int) ∧ 0 < (if v + sgn S r t v - g - S 2 t < 30 then v + sgn S r t v - g - S 2 t else 30) then (if v + sgn S r t v - g - S 2 t < 30 then v + sgn S r t v - g - S 2 t else 30) / 2 else (if v + sgn S r t v - g - S 2 t < 30 then v + sgn S r t v - g - S 2 t else 30)
theorem sbh_le (S : zT) (t r : Nat) (v g : Int) : sbh S t r v g ≤ 30 := by
  unfold sbh
  split
  · split <;> omega
  · split <;> omega
theorem sbh_ge (S : zT) (t r : Nat) (v g : Int) (hS : zSr S) (hr : r < 5) (ht : t < 10) (hv : -100 ≤ v) (hg : g ≤ 100) : -300 ≤ sbh S t r v g := by
  have h1 := sgn_r S r t v hS hr ht
  have h2 := hS.2.2.1 t ht
  unfold sbh
  split
  · split <;> omega
  · split <;> omega
def sft (S : zT) (r : Nat) : Nat → Nat → Int → (Nat → Int) → Int × (Nat → Int)
  | 0, _, v, w => ((v + S 5 r) % 8, w)
  | m + 1, t, v, w => if 0 < sbh S t r v (S 1 t) then sft S r m (t + 1) (sbh S t r v (S 1 t)) (fun j => if j = t then sbh S t r v (S 1 t) else w j) else (10 + (t : Int), w)
def zfl (f : Nat → Int) (n : Nat) (v : Int) : Nat → Int := fun j => if j < n then v else f j
section SLIDEB
variable {X : zXs} {sh : zH} {I L : zI2} {R : zR2} {S : zT} {b : Nat}
/-! Arrays.fill -/
theorem lp_J7_fill {a n : Nat} {v : Int} (ha : sh[a]? = some (20, n)) (hn : n ≤ 60000) : ∀ (m i : Nat), i + m = n → zE X mJ7_fill_53178 0 0 5 [zR a, zI v, zI (i : Int), zI (n : Int)] [] sh (zrow I a (zfl (I a) i v)) L R (zEq [] sh (zrow I a (zfl (I a) n v)) L R)
  | 0, i, h => by
    have hi : i = n := by omega
    subst hi
    refine z_iload2 6 dJ7_fill_53178_5 rfl ?_
    refine z_iload3 7 dJ7_fill_53178_6 rfl ?_
    refine z_icmp_ge 20 10 dJ7_fill_53178_7 (by decide) rfl (by omega) (by omega) (fun h7 => ?_) (fun hz => absurd hz (by omega))
    exact z_return dJ7_fill_53178_20 rfl (⟨rfl, rfl, rfl, rfl, rfl⟩)
  | m + 1, i, h => by
    refine z_iload2 6 dJ7_fill_53178_5 rfl ?_
    refine z_iload3 7 dJ7_fill_53178_6 rfl ?_
    refine z_icmp_ge 20 10 dJ7_fill_53178_7 (by decide) rfl (by omega) (by omega) (fun hz => absurd hz (by omega)) (fun h7 => ?_)
    refine z_aload0 11 dJ7_fill_53178_10 rfl ?_
    refine z_iload2 12 dJ7_fill_53178_11 rfl ?_
    refine z_iload1 13 dJ7_fill_53178_12 rfl ?_
    refine z_iastx 14 (i) dJ7_fill_53178_13 (by assumption) (by omega) (by omega) (zrow_up _ _ _ _ _) rfl ?_
    refine z_iinc2 17 dJ7_fill_53178_14 (Nat.le_of_ble_eq_true rfl) rfl rfl ?_
    refine z_goto 5 dJ7_fill_53178_17 (by decide) ?_
    have e : (fun q => if q = i then v else zfl (I a) i v q) = zfl (I a) (i + 1) v := by funext q; unfold zfl; by_cases h1 : q = i; (subst h1; simp); (by_cases h2 : q < i; (rw [if_neg h1, if_pos h2, if_pos (by omega)]); (rw [if_neg h1, if_neg h2, if_neg (by omega)]))
    rw [e]
    exact lp_J7_fill ha hn m (i + 1) (by omega)
theorem ct_J7_fill {a n : Nat} {v : Int} (ha : sh[a]? = some (20, n)) (hn : n ≤ 60000) : zE X mJ7_fill_53178 0 0 0 [zR a, zI v, zX, zX] [] sh I L R (zEq [] sh (zrow I a (zfl (I a) n v)) L R) := by
  refine z_iconst 1 dJ7_fill_53178_0 rfl ?_
  refine z_istore2 2 dJ7_fill_53178_1 (Nat.le_of_ble_eq_true rfl) rfl rfl ?_
  refine z_aload0 3 dJ7_fill_53178_2 rfl ?_
  refine z_alen 4 dJ7_fill_53178_3 (by assumption) (by decide) rfl ?_
  refine z_istore3 5 dJ7_fill_53178_4 (Nat.le_of_ble_eq_true rfl) rfl rfl ?_
  have h := lp_J7_fill (X := X) (I := I) (L := L) (R := R) (v := v) ha hn n 0 (by omega)
  have e : zrow I a (zfl (I a) 0 v) = I := by rw [show zfl (I a) 0 v = I a from funext fun q => by simp [zfl], zrow_self]
  rw [e] at h
  exact h
end SLIDEB
