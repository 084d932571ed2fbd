/-! ===== bits as natural numbers ===== -/
theorem zb_nI (a : Nat) : Int32.ofInt (a : Int) = nI a := by
  apply Int32.toBitVec_inj.1
  show BitVec.ofInt 32 (a : Int) = BitVec.ofNat 32 a
  exact BitVec.ofInt_natCast ..
theorem zb_nor (a b : Nat) : nI a ||| nI b = nI (a ||| b) := by
  apply Int32.toBitVec_inj.1
  show BitVec.ofNat 32 a ||| BitVec.ofNat 32 b = BitVec.ofNat 32 (a ||| b)
  apply BitVec.eq_of_getLsbD_eq
  intro i hi
  simp [hi]
theorem zb_nand (a b : Nat) : nI a &&& nI b = nI (a &&& b) := by
  apply Int32.toBitVec_inj.1
  show BitVec.ofNat 32 a &&& BitVec.ofNat 32 b = BitVec.ofNat 32 (a &&& b)
  apply BitVec.eq_of_getLsbD_eq
  intro i hi
  simp [hi]
theorem zb_or {a b : Nat} (ha : a < 2 ^ 31) (hb : b < 2 ^ 31) : zor (a : Int) (b : Int) = ((a ||| b : Nat) : Int) := by
  unfold zor
  rw [zb_nI, zb_nI, zb_nor, nI_toInt (Nat.or_lt_two_pow ha hb)]
theorem zb_and {a b : Nat} (ha : a < 2 ^ 31) : zand (a : Int) (b : Int) = ((a &&& b : Nat) : Int) := by
  unfold zand
  rw [zb_nI, zb_nI, zb_nand, nI_toInt (Nat.lt_of_le_of_lt Nat.and_le_left ha)]
theorem zb_s : ∀ n : Fin 32, ((Int32.ofInt (n.val : Int) &&& 31).toBitVec.smod 32).toNat = n.val := by decide +kernel
theorem zb_shl {r : Nat} (hr : r < 31) : zshl 1 (r : Int) = ((2 ^ r : Nat) : Int) := by
  have h1 : (2 : Nat) ^ r < 2 ^ 31 := Nat.pow_lt_pow_right (by omega) hr
  unfold zshl
  rw [show Int32.ofInt 1 = nI 1 from rfl, pk_shlN (n := 1) _ r (zb_s ⟨r, by omega⟩) (by omega), Nat.one_mul, nI_toInt h1]
theorem zb_shr {a r : Nat} (ha : a < 2 ^ 31) (hr : r < 32) : zshr (a : Int) (r : Int) = ((a / 2 ^ r : Nat) : Int) := by
  unfold zshr
  rw [zb_nI a, pk_shrN ha _ r (zb_s ⟨r, hr⟩), nI_toInt (Nat.lt_of_le_of_lt (Nat.div_le_self _ _) ha)]
/-- one bit of a set -/
def bti (a r : Nat) : Int := if a.testBit r = true then 1 else 0
theorem bti_r (a r : Nat) : bti a r = 0 ∨ bti a r = 1 := by
  unfold bti
  split
  · exact Or.inr rfl
  · exact Or.inl rfl
theorem bti_1 {a r : Nat} : bti a r = 1 ↔ a.testBit r = true := by
  unfold bti
  split
  · rename_i h; simp [h]
  · rename_i h; simp [h]
theorem bti_0 {a r : Nat} : bti a r = 0 ↔ a.testBit r = false := by
  unfold bti
  split
  · rename_i h; simp [h]
  · rename_i h; simp [h]
theorem zb_bit {a r : Nat} (ha : a < 2 ^ 31) (hr : r < 32) : zand (zshr (a : Int) (r : Int)) 1 = bti a r := by
  rw [zb_shr ha hr, show (1 : Int) = ((1 : Nat) : Int) from rfl, zb_and (Nat.lt_of_le_of_lt (Nat.div_le_self _ _) ha), Nat.and_one_is_mod]
  unfold bti
  rw [Nat.testBit_eq_decide_div_mod_eq]
  by_cases h : a / 2 ^ r % 2 = 1
  · rw [if_pos (by simp [h]), h]; rfl
  · rw [if_neg (by simp [h])]; omega
theorem zb_tor {a r : Nat} (j : Nat) : (a ||| 2 ^ r).testBit j = (a.testBit j || decide (r = j)) := by
  rw [Nat.testBit_or, Nat.testBit_two_pow]
theorem zb_lt {a n : Nat} (h : ∀ j, n ≤ j → a.testBit j = false) : a < 2 ^ n := Nat.lt_pow_two_of_testBit a h
/-- what a set that is told by a loop holds -/
theorem zst_b {P : Nat → Prop} [DecidablePred P] {n : Nat} (hn : n ≤ 30) : ∀ (m r a : Nat), r + m ≤ n → a < 2 ^ n → ∃ c : Nat, zst P m r (a : Int) = (c : Int) ∧ c < 2 ^ n ∧ ∀ j, (c.testBit j = true ↔ a.testBit j = true ∨ (r ≤ j ∧ j < r + m ∧ P j))
  | 0, r, a, _, ha => ⟨a, rfl, ha, fun j => ⟨Or.inl, fun h => by rcases h with h | ⟨h1, h2, _⟩; exact h; omega⟩⟩
  | m + 1, r, a, h, ha => by
    have hp : (2 : Nat) ^ n ≤ 2 ^ 30 := Nat.pow_le_pow_right (by omega) hn
    have hr : (2 : Nat) ^ r < 2 ^ n := Nat.pow_lt_pow_right (by omega) (by omega)
    unfold zst
    by_cases hP : P r
    · rw [if_pos hP, zb_shl (by omega), zb_or (by omega) (by omega)]
      obtain ⟨c, h1, h2, h3⟩ := zst_b (P := P) hn m (r + 1) (a ||| 2 ^ r) (by omega) (Nat.or_lt_two_pow ha hr)
      refine ⟨c, h1, h2, fun j => ?_⟩
      rw [h3 j, zb_tor, Bool.or_eq_true, decide_eq_true_eq]
      constructor
      · rintro ((h | h) | ⟨h4, h5, h6⟩)
        · exact Or.inl h
        · subst h; exact Or.inr ⟨Nat.le_refl _, by omega, hP⟩
        · exact Or.inr ⟨by omega, by omega, h6⟩
      · rintro (h | ⟨h4, h5, h6⟩)
        · exact Or.inl (Or.inl h)
        · by_cases e : r = j
          · exact Or.inl (Or.inr e)
          · exact Or.inr ⟨by omega, by omega, h6⟩
    · rw [if_neg hP]
      obtain ⟨c, h1, h2, h3⟩ := zst_b (P := P) hn m (r + 1) a (by omega) ha
      refine ⟨c, h1, h2, fun j => ?_⟩
      rw [h3 j]
      constructor
      · rintro (h | ⟨h4, h5, h6⟩)
        · exact Or.inl h
        · exact Or.inr ⟨by omega, by omega, h6⟩
      · rintro (h | ⟨h4, h5, h6⟩)
        · exact Or.inl h
        · by_cases e : r = j
          · subst e; exact absurd h6 hP
          · exact Or.inr ⟨by omega, by omega, h6⟩
/-- .. from nothing -/
theorem zst_0 {P : Nat → Prop} [DecidablePred P] {n : Nat} (hn : n ≤ 30) {m : Nat} (h : m ≤ n) : ∃ c : Nat, zst P m 0 0 = (c : Int) ∧ c < 2 ^ n ∧ ∀ j, (c.testBit j = true ↔ (j < m ∧ P j)) := by
  obtain ⟨c, h1, h2, h3⟩ := zst_b (P := P) hn m 0 0 (by omega) (Nat.two_pow_pos n)
  refine ⟨c, h1, h2, fun j => ?_⟩
  rw [h3 j, Nat.zero_testBit]
  constructor
  · rintro (h | ⟨h4, h5, h6⟩)
    · cases h
    · exact ⟨by omega, h6⟩
  · rintro ⟨h4, h6⟩
    exact Or.inr ⟨by omega, by omega, h6⟩
theorem zb_ext {a c : Nat} (h : ∀ j, (a.testBit j = true ↔ c.testBit j = true)) : a = c := by
  apply Nat.eq_of_testBit_eq
  intro j
  have := h j
  cases ha : a.testBit j <;> cases hc : c.testBit j <;> simp [ha, hc] at this <;> rfl
/-! ===== ends of a way, more or less told ===== -/
section BASE
variable {X : zXs} {M : zM} {k w pc : Nat} {ls st : List zV} {sh : zH} {I L I' L' J0 K0 : zI2} {R R' Z0 : zR2} {Q Q' : zQ} {A A' : zA}
theorem zE_mo (hQ : ∀ r sh I L R, Q r sh I L R → Q' r sh I L R) (h : zE X M k w pc ls st sh I L R Q) : zE X M k w pc ls st sh I L R Q' :=
  fun G p l e Rm s m args below meth c H locs cells slots Qf arr F S hl kend => h G p l e Rm s m args below meth c H locs cells slots Qf arr F S hl (fun r sh' I' L' R' H' locs' cells' slots' w' pc' arr' hq hr S' => kend r sh' I' L' R' H' locs' cells' slots' w' pc' arr' (hQ _ _ _ _ _ hq) hr S')
theorem zE_slots {c : Nat} (h : zE X M k w pc ls st sh I L R Q) : zE X M k (w + c) pc ls st sh I L R Q :=
  fun G p l e Rm s m args below meth c H locs cells slots Qf arr F S hl kend => h G p l e Rm s m args below meth c H locs cells slots Qf arr F ⟨S.1, S.2.1, S.2.2.1, S.2.2.2.1, by have := S.2.2.2.2; omega⟩ hl kend
theorem z_aloadS1 (nx : Nat) {a0 : zV} {tl : List zV} (hd : decode (zmc M) pc = .ok (.aload_n 1, 1)) (hn : pc + 1 = nx) (kk : zE X M k w nx (a0 :: zS :: tl) (zS :: st) sh I L R Q) : zE X M k w pc (a0 :: zS :: tl) st sh I L R Q := by
  subst hn
  exact zE_step (fun G p l e Rm s m args below meth c H locs cells slots Qf arr F hl kk => lv_aload_n F.1 F.2.1 hd rfl (zlp_at hl (i := 1) (v := zS) rfl rfl) (kk arr hl)) kk
theorem z_lcmpS (nx : Nat) {x : Int} (hd : decode (zmc M) pc = .ok (.lcmp, 1)) (hn : pc + 1 = nx) (kk : zE X M k w nx ls (zI 0 :: st) sh I L R Q) : zE X M k w pc ls (zL x :: zL x :: st) sh I L R Q := by
  subst hn
  have e : lg_cmp (Int64.ofInt x) (Int64.ofInt x) = Int32.ofInt 0 := by simp [lg_cmp]
  exact zE_step (fun G p l e0 Rm s m args below meth c H locs cells slots Qf arr F hl kk => W.lcmp F.1 F.2.1 hd (by rw [e]; exact kk arr hl)) kk
/-- the class's object at places 0 .. 156 is as A has it; all behind it is as it was -/
def pH (sh : zH) (J0 K0 : zI2) (Z0 : zR2) (I L : zI2) (R : zR2) (A : zA) : Prop := (∃ P, zCA sh R P I L A) ∧ ∀ a, 157 ≤ a → I a = J0 a ∧ L a = K0 a ∧ R a = Z0 a
theorem pH.tr (h : pH sh J0 K0 Z0 I L R A) (h2 : pH sh I L R I' L' R' A') : pH sh J0 K0 Z0 I' L' R' A' := ⟨h2.1, fun a ha => ⟨(h2.2 a ha).1.trans (h.2 a ha).1, (h2.2 a ha).2.1.trans (h.2 a ha).2.1, (h2.2 a ha).2.2.trans (h.2 a ha).2.2⟩⟩
theorem pH.rf {P : Nat → Nat} (h : zCA sh R P I L A) : pH sh I L R I L R A := ⟨⟨P, h⟩, fun _ _ => ⟨rfl, rfl, rfl⟩⟩
theorem pH.sh0 (h : pH sh J0 K0 Z0 I L R A) : sh[0]? = some (6, 12) := by
  obtain ⟨⟨P, hc⟩, _⟩ := h
  exact hc.1.1.1
theorem pH.q {S S' : zT} (e : zQe S S') {B : List zT × (Option (zT × List zT) × (List Int × (Nat → Int × (Int × (Nat → Int)))))} (h : pH sh J0 K0 Z0 I L R (S, B)) : pH sh J0 K0 Z0 I L R (S', B) := by
  obtain ⟨⟨P, hc⟩, h2⟩ := h
  exact ⟨⟨P, hc.1, ⟨hc.2.1.1, hc.2.1.2.tr e⟩, hc.2.2⟩, h2⟩
theorem zOp_h {v : zV} (h : pH sh J0 K0 Z0 I L R A) : zOp sh J0 K0 Z0 v A [v] sh I L R := ⟨rfl, rfl, h⟩
theorem pO {v : zV} {r' : List zV} {sh' : zH} (h : zOp sh J0 K0 Z0 v A r' sh' I' L' R') : r' = [v] ∧ sh = sh' ∧ pH sh J0 K0 Z0 I' L' R' A := ⟨h.1, h.2.1.symm, h.2.2⟩
theorem pcX {v : zV} (h : pH sh J0 K0 Z0 I L R A) (hc : ∀ P, zCA sh R P I L A → zE X M 0 0 0 ls [] sh I L R (zOp sh I L R v A')) : zE X M 0 0 0 ls [] sh I L R (zOp sh J0 K0 Z0 v A') := by
  obtain ⟨⟨P, hP⟩, h2⟩ := id h
  refine zE_mo (fun r sh' I' L' R' hq => ?_) (hc P hP)
  obtain ⟨e1, e2, h3⟩ := hq
  subst e2
  exact ⟨e1, rfl, h.tr h3⟩
/-! ===== the class's calls, with the answers that are wanted ===== -/
theorem pc_of {r x : Int} (h : pH sh J0 K0 Z0 I L R A) (hr : -2147483648 ≤ r ∧ r ≤ 2147483647) (hx : -2147483648 ≤ x ∧ x ≤ 2147483647) {v : Int} (e : oOf A r x = v) : zE X mX6_of 0 0 0 [zR 0, zI r, zI x] [] sh I L R (zOp sh J0 K0 Z0 (zI v) A) := by
  subst e; exact pcX h (fun P hc => op_X6_of hc hr hx)
theorem pc_at {t x : Int} (h : pH sh J0 K0 Z0 I L R A) (ht : -2147483648 ≤ t ∧ t ≤ 2147483647) (hx : -2147483648 ≤ x ∧ x ≤ 2147483647) {v : Int} (e : oAt A t x = v) : zE X mX6_at 0 0 0 [zR 0, zI t, zI x] [] sh I L R (zOp sh J0 K0 Z0 (zI v) A) := by
  subst e; exact pcX h (fun P hc => op_X6_at hc ht hx)
theorem pc_of2 {r : Nat} (h : pH sh J0 K0 Z0 I L R A) (hn : A.1 0 6 ≤ 5) (hr : (r : Int) < A.1 0 6) : zE X mX6_of 0 0 0 [zR 0, zI (r : Int), zI 2] [] sh I L R (zOp sh J0 K0 Z0 (zI (A.1 5 r)) A) := pc_of h (by omega) (by omega) (by unfold oOf; rw [if_pos (by omega), if_neg (by decide), if_neg (by decide), if_pos rfl, Int.toNat_natCast])
theorem pc_of3 {r : Nat} (h : pH sh J0 K0 Z0 I L R A) (hn : A.1 0 6 ≤ 5) (hr : (r : Int) < A.1 0 6) : zE X mX6_of 0 0 0 [zR 0, zI (r : Int), zI 3] [] sh I L R (zOp sh J0 K0 Z0 (zI (A.1 6 r)) A) := pc_of h (by omega) (by omega) (by unfold oOf; rw [if_pos (by omega), if_neg (by decide), if_neg (by decide), if_neg (by decide), if_pos rfl, Int.toNat_natCast])
theorem pc_of0 {r : Nat} (h : pH sh J0 K0 Z0 I L R A) (hn : A.1 0 6 ≤ 5) (hr : (r : Int) < A.1 0 6) : zE X mX6_of 0 0 0 [zR 0, zI (r : Int), zI 0] [] sh I L R (zOp sh J0 K0 Z0 (zI (A.1 3 r)) A) := pc_of h (by omega) (by omega) (by unfold oOf; rw [if_pos (by omega), if_pos rfl, Int.toNat_natCast])
theorem pc_of1 {r : Nat} (h : pH sh J0 K0 Z0 I L R A) (hn : A.1 0 6 ≤ 5) (hr : (r : Int) < A.1 0 6) : zE X mX6_of 0 0 0 [zR 0, zI (r : Int), zI 1] [] sh I L R (zOp sh J0 K0 Z0 (zI (A.1 4 r)) A) := pc_of h (by omega) (by omega) (by unfold oOf; rw [if_pos (by omega), if_neg (by decide), if_pos rfl, Int.toNat_natCast])
theorem pc_at0 {t : Nat} (h : pH sh J0 K0 Z0 I L R A) (ht : t < 10) : zE X mX6_at 0 0 0 [zR 0, zI (t : Int), zI 0] [] sh I L R (zOp sh J0 K0 Z0 (zI (A.1 1 t)) A) := pc_at h (by omega) (by omega) (by unfold oAt; rw [if_pos (by omega), if_pos rfl, Int.toNat_natCast])
theorem pc_at1 {t : Nat} (h : pH sh J0 K0 Z0 I L R A) (ht : t < 10) : zE X mX6_at 0 0 0 [zR 0, zI (t : Int), zI 1] [] sh I L R (zOp sh J0 K0 Z0 (zI (A.1 2 t)) A) := pc_at h (by omega) (by omega) (by unfold oAt; rw [if_pos (by omega), if_neg (by decide), if_pos rfl, Int.toNat_natCast])
theorem pc_at2 {t : Nat} (h : pH sh J0 K0 Z0 I L R A) (ht : t < 10) : zE X mX6_at 0 0 0 [zR 0, zI (t : Int), zI 2] [] sh I L R (zOp sh J0 K0 Z0 (zI (sst A.1 t)) A) := pc_at h (by omega) (by omega) (by unfold oAt; rw [if_pos (by omega), if_neg (by decide), if_neg (by decide), if_pos rfl, Int.toNat_natCast])
theorem pc_count {x : Int} (h : pH sh J0 K0 Z0 I L R A) (hx : -2147483648 ≤ x ∧ x ≤ 2147483647) {v : Int} (e : oCount A x = v) : zE X mX6_count 0 0 0 [zR 0, zI x] [] sh I L R (zOp sh J0 K0 Z0 (zI v) A) := by
  subst e; exact pcX h (fun P hc => op_X6_count hc hx)
theorem pc_count1 (h : pH sh J0 K0 Z0 I L R A) : zE X mX6_count 0 0 0 [zR 0, zI 1] [] sh I L R (zOp sh J0 K0 Z0 (zI (A.1 0 7)) A) := pc_count h (by omega) rfl
theorem pc_count2 (h : pH sh J0 K0 Z0 I L R A) : zE X mX6_count 0 0 0 [zR 0, zI 2] [] sh I L R (zOp sh J0 K0 Z0 (zI (stop_ A.1)) A) := pc_count h (by omega) rfl
theorem pc_count3 (h : pH sh J0 K0 Z0 I L R A) : zE X mX6_count 0 0 0 [zR 0, zI 3] [] sh I L R (zOp sh J0 K0 Z0 (zI (sthr A.1)) A) := pc_count h (by omega) rfl
theorem pc_count4 (h : pH sh J0 K0 Z0 I L R A) : zE X mX6_count 0 0 0 [zR 0, zI 4] [] sh I L R (zOp sh J0 K0 Z0 (zI (stak A.1)) A) := pc_count h (by omega) rfl
theorem pc_count5 (h : pH sh J0 K0 Z0 I L R A) : zE X mX6_count 0 0 0 [zR 0, zI 5] [] sh I L R (zOp sh J0 K0 Z0 (zI (rsm (A.1 1) 10 0 0)) A) := pc_count h (by omega) rfl
theorem pc_count6 (h : pH sh J0 K0 Z0 I L R A) : zE X mX6_count 0 0 0 [zR 0, zI 6] [] sh I L R (zOp sh J0 K0 Z0 (zI (rsm (A.1 2) 10 0 0)) A) := pc_count h (by omega) rfl
theorem pc_count7 (h : pH sh J0 K0 Z0 I L R A) : zE X mX6_count 0 0 0 [zR 0, zI 7] [] sh I L R (zOp sh J0 K0 Z0 (zI (A.2.1.length : Int)) A) := pc_count h (by omega) rfl
theorem pc_ends {r : Nat} (h : pH sh J0 K0 Z0 I L R A) (hn : A.1 0 6 ≤ 5) (hr : (r : Int) < A.1 0 6) : zE X mX6_ends 0 0 0 [zR 0, zI (r : Int)] [] sh I L R (zOp sh J0 K0 Z0 (zI (sfe A.1 r)) A) := by
  have e : oEnds A (r : Int) = sfe A.1 r := by unfold oEnds; rw [if_pos (by omega), Int.toNat_natCast]
  rw [← e]; exact pcX h (fun P hc => op_X6_ends hc (by omega))
theorem pc_speed {r t : Nat} (h : pH sh J0 K0 Z0 I L R A) (hn : A.1 0 6 ≤ 5) (hr : (r : Int) < A.1 0 6) (ht : t < 10) : zE X mX6_speed 0 0 0 [zR 0, zI (r : Int), zI (t : Int)] [] sh I L R (zOp sh J0 K0 Z0 (zI (sfw A.1 r t)) A) := by
  have e : oSpeed A (r : Int) (t : Int) = sfw A.1 r t := by unfold oSpeed; rw [if_pos (by omega), Int.toNat_natCast, Int.toNat_natCast]
  rw [← e]; exact pcX h (fun P hc => op_X6_speed hc (by omega) (by omega))
theorem pc_gains {r t : Nat} {x : Int} (h : pH sh J0 K0 Z0 I L R A) (hn : A.1 0 6 ≤ 5) (hr : (r : Int) < A.1 0 6) (ht : t < 10) (hx : 0 ≤ x ∧ x ≤ 30) : zE X mX6_gains 0 0 0 [zR 0, zI (r : Int), zI (t : Int), zI x] [] sh I L R (zOp sh J0 K0 Z0 (zI (sgn A.1 r t x)) A) := by
  have e : oGains A (r : Int) (t : Int) x = sgn A.1 r t x := by unfold oGains; rw [if_pos (by omega), Int.toNat_natCast, Int.toNat_natCast]
  rw [← e]; exact pcX h (fun P hc => op_X6_gains hc (by omega) (by omega) (by omega))
theorem pc_fast {r : Nat} {x : Int} (h : pH sh J0 K0 Z0 I L R A) (hn : A.1 0 6 ≤ 5) (hr : (r : Int) < A.1 0 6) (hx : x = 0 ∨ x = 1) : zE X mX6_fast 0 0 0 [zR 0, zI (r : Int), zI x, zX] [] sh I L R (zOp sh J0 K0 Z0 (zI (oFast A (r : Int) x)) A) := pcX h (fun P hc => op_X6_fast hc (by omega) (by omega))
theorem pc_who {o : Nat} (h : pH sh J0 K0 Z0 I L R A) (ho : o < 8) : zE X mX6_who 0 0 0 [zR 0, zI (o : Int), zX, zX] [] sh I L R (zOp sh J0 K0 Z0 (zI (swho A.1 (o : Int) (A.1 0 6).toNat 0 0)) A) := by
  have e : oWho A (o : Int) = swho A.1 (o : Int) (A.1 0 6).toNat 0 0 := by unfold oWho; rw [if_pos (by omega)]
  rw [← e]; exact pcX h (fun P hc => op_X6_who hc (by omega))
theorem pc_waxes {r o : Nat} (h : pH sh J0 K0 Z0 I L R A) (hn : A.1 0 6 ≤ 5) (hr : (r : Int) < A.1 0 6) (ho : o < 8) : zE X mX6_waxes 0 0 0 [zR 0, zI (r : Int), zI (o : Int), zX, zX] [] sh I L R (zOp sh J0 K0 Z0 (zI (if sfe A.1 r = (o : Int) then 100 else swx A.1 r (o : Int) 10 0)) A) := by
  have e : oWaxes A (r : Int) (o : Int) = if sfe A.1 r = (o : Int) then 100 else swx A.1 r (o : Int) 10 0 := by unfold oWaxes; rw [if_pos (by omega), Int.toNat_natCast]
  rw [← e]; exact pcX h (fun P hc => op_X6_waxes hc (by omega) (by omega))
theorem pc_may {r t : Nat} (h : pH sh J0 K0 Z0 I L R A) (hn : A.1 0 6 ≤ 5) (hr : (r : Int) < A.1 0 6) (ht : t < 10) : zE X mX6_may 0 0 0 [zR 0, zI (r : Int), zI (t : Int), zX, zX, zX] [] sh I L R (zOp sh J0 K0 Z0 (zI (smy A.1 r t 10 0 0)) A) := by
  have e : oMay A (r : Int) (t : Int) = smy A.1 r t 10 0 0 := by unfold oMay; rw [if_pos (by omega), Int.toNat_natCast, Int.toNat_natCast]
  rw [← e]; exact pcX h (fun P hc => op_X6_may hc (by omega) (by omega))
theorem pc_weight {r : Nat} (h : pH sh J0 K0 Z0 I L R A) (hn : A.1 0 6 ≤ 5) (hr : (r : Int) < A.1 0 6) : zE X mX6_weight 0 0 0 [zR 0, zI (r : Int), zX] [] sh I L R (zOp sh J0 K0 Z0 (zI (swg A.1 r 20 1)) A) := by
  have e : oWeight A (r : Int) = swg A.1 r 20 1 := by unfold oWeight; rw [if_pos (by omega), Int.toNat_natCast]
  rw [← e]; exact pcX h (fun P hc => op_X6_weight hc (by omega))
theorem pc_bump0 (h : pH sh J0 K0 Z0 I L R A) : zE X mX6_bump 0 0 0 [zR 0, zI 0, zX, zX, zX, zX] [] sh I L R (zOp sh J0 K0 Z0 (zI (sbm A.1 10 0 0 (-1)).1) A) := pcX h (fun P hc => op_X6_bump (k := 0) hc (by omega))
theorem pc_bump1 (h : pH sh J0 K0 Z0 I L R A) : zE X mX6_bump 0 0 0 [zR 0, zI 1, zX, zX, zX, zX] [] sh I L R (zOp sh J0 K0 Z0 (zI (sbm A.1 10 0 0 (-1)).2) A) := pcX h (fun P hc => op_X6_bump (k := 1) hc (by omega))
theorem pc_order {x : Int} (h : pH sh J0 K0 Z0 I L R A) (hx : -2147483648 ≤ x ∧ x ≤ 2147483647) : zE X mX6_order 0 0 0 [zR 0, zI x, zX] [] sh I L R (zOp sh J0 K0 Z0 (zI (oOrder A x)) A) := pcX h (fun P hc => op_X6_order hc hx)
theorem pc_rain {r : Nat} {c x : Int} (h : pH sh J0 K0 Z0 I L R A) (hr : r < 5) (hc : 0 ≤ c ∧ c ≤ 10) (hx : x = 0 ∨ x = 1) : zE X mX6_rain 0 0 0 [zR 0, zI (r : Int), zI c, zI x, zX, zX, zX, zX, zX] [] sh I L R (zOp sh J0 K0 Z0 (zL (oRain A (r : Int) c x)) A) := pcX h (fun P hp => op_X6_rain hp (by omega) (by omega) (by omega))
theorem pc_ride {r : Int} (h : pH sh J0 K0 Z0 I L R A) (hr : -2147483648 ≤ r ∧ r ≤ 2147483647) {v : Int} {B : zA} (e : oRide A r = (v, B)) : zE X mX6_ride 0 0 0 [zR 0, zI r] [] sh I L R (zOp sh J0 K0 Z0 (zI v) B) := pcX h (fun P hc => by have := op_X6_ride (X := X) hc hr; rw [e] at this; exact this)
theorem pc_up {r : Int} (h : pH sh J0 K0 Z0 I L R A) (hr : -2147483648 ≤ r ∧ r ≤ 2147483647) {v : Int} {B : zA} (e : oUp A r = (v, B)) : zE X mX6_up 0 0 0 [zR 0, zI r, zX] [] sh I L R (zOp sh J0 K0 Z0 (zI v) B) := pcX h (fun P hc => by have := op_X6_up (X := X) hc hr; rw [e] at this; exact this)
theorem pc_wax {t x : Int} (h : pH sh J0 K0 Z0 I L R A) (ht : -2147483648 ≤ t ∧ t ≤ 2147483647) (hx : -2147483648 ≤ x ∧ x ≤ 2147483647) {v : Int} {B : zA} (e : oWax A 1 t x = (v, B)) : zE X mX6_wax 0 0 0 [zR 0, zI t, zI x, zX] [] sh I L R (zOp sh J0 K0 Z0 (zI v) B) := pcX h (fun P hc => by have := op_X6_wax (X := X) hc ht hx; rw [e] at this; exact this)
theorem pc_hammer {t x : Int} (h : pH sh J0 K0 Z0 I L R A) (ht : -2147483648 ≤ t ∧ t ≤ 2147483647) (hx : -2147483648 ≤ x ∧ x ≤ 2147483647) {v : Int} {B : zA} (e : oWax A 2 t x = (v, B)) : zE X mX6_hammer 0 0 0 [zR 0, zI t, zI x, zX] [] sh I L R (zOp sh J0 K0 Z0 (zI v) B) := pcX h (fun P hc => by have := op_X6_hammer (X := X) hc ht hx; rw [e] at this; exact this)
theorem pc_drift {n : Int} (h : pH sh J0 K0 Z0 I L R A) (hn : -2147483648 ≤ n ∧ n ≤ 2147483647) {v : Int} {B : zA} (e : oDrift A n = (v, B)) : zE X mX6_drift 0 0 0 [zR 0, zI n, zX] [] sh I L R (zOp sh J0 K0 Z0 (zI v) B) := pcX h (fun P hc => by have := op_X6_drift (X := X) hc hn; rw [e] at this; exact this)
theorem pc_undo (h : pH sh J0 K0 Z0 I L R A) (hA : ∀ s ∈ A.2.1, s 0 6 = A.1 0 6) {v : Int} {B : zA} (e : oUndo A = (v, B)) : zE X mX6_undo 0 0 0 [zR 0] [] sh I L R (zOp sh J0 K0 Z0 (zI v) B) := pcX h (fun P hc => by have := op_X6_undo (X := X) hc hA; rw [e] at this; exact this)
theorem pc_seed {x : Int} (h : pH sh J0 K0 Z0 I L R A) (hx : 0 ≤ x ∧ x ≤ 2147483647) : zE X mX6_seed 0 0 0 [zR 0, zI x, zX] [] sh I L R (zOp sh J0 K0 Z0 (zI (A.1 0 8)) (zup A.1 0 8 x, A.2)) := by
  have e : oSeed A x = (A.1 0 8, (zup A.1 0 8 x, A.2)) := by unfold oSeed; rw [if_neg (by omega)]
  exact pcX h (fun P hc => by have := op_X6_seed (X := X) (v := x) hc (by omega); rw [e] at this; exact this)
theorem pc_image (h : pH sh J0 K0 Z0 I L R A) : zE X mX6_image 0 0 0 [zR 0] [] sh I L R (zOp sh J0 K0 Z0 (zI 1) (oImage A)) := pcX h (fun P hc => op_X6_image hc)
theorem pc_restore {q : zT × List zT} (h : pH sh J0 K0 Z0 I L R A) (hk : A.2.2.1 = some q) : zE X mX6_restore 0 0 0 [zR 0] [] sh I L R (zOp sh J0 K0 Z0 (zI 1) (q.1, (q.2, A.2.2))) := by
  have e : oRestore A = (1, (q.1, (q.2, A.2.2))) := by unfold oRestore; rw [hk]
  exact pcX h (fun P hc => by have := op_X6_restore (X := X) hc; rw [e] at this; exact this)
theorem pc_type {x : Int} (h : pH sh J0 K0 Z0 I L R A) (hx : 32 ≤ x ∧ x ≤ 126) (hl : A.2.2.2.1.length < 70) : zE X mX6_type 0 0 0 [zR 0, zI x] [] sh I L R (zOp sh J0 K0 Z0 (zI ((A.2.2.2.1.length : Int) + 1)) (A.1, A.2.1, A.2.2.1, A.2.2.2.1 ++ [x], A.2.2.2.2)) := by
  have e : oType A x = ((A.2.2.2.1.length : Int) + 1, (A.1, A.2.1, A.2.2.1, A.2.2.2.1 ++ [x], A.2.2.2.2)) := by unfold oType; rw [if_pos hx, if_neg (by omega)]
  exact pcX h (fun P hc => by have := op_X6_type (X := X) (x := x) hc (by omega); rw [e] at this; exact this)
theorem pc_slide (h : pH sh J0 K0 Z0 I L R A) {v : Int} {B : zA} (e : oSlide A = (v, B)) : zE X mX6_slide 0 0 0 [zR 0, zX, zX] [] sh I L R (zOp sh J0 K0 Z0 (zI v) B) := pcX h (fun P hc => by have := op_X6_slide (X := X) hc; rw [e] at this; exact this)
end BASE
