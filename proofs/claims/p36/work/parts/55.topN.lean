/-! ===== how many bits; orders ===== -/
theorem z_ldcw {X : zXs} {M : zM} {k w pc : Nat} {ls st : List zV} {sh : zH} {I L : zI2} {R : zR2} {Q : zQ} (nx : Nat) {idx : Nat} {x : Int} (hd : decode (zmc M) pc = .ok (.ldc_w idx, 3)) (hw : Jvm.Cond.constant (zmo M) idx (Int32.ofInt x) ∈ zgood) (hn : pc + 3 = nx) (kk : zE X M k w nx ls (zI x :: st) sh I L R Q) : zE X M k w pc ls st sh I L R Q := by
  subst hn
  exact zE_step (fun G p l e Rm s m args below meth c H locs cells slots Qf arr F hl kk => lv_ldcw F.1 F.2.1 F.2.2.2.1 (F.2.2.2.2.1 _ hw) hd (kk arr hl)) kk
/-- how many bits of five -/
def pcn (x : Int) : Int := x % 2 + x / 2 % 2 + x / 4 % 2 + x / 8 % 2 + x / 16 % 2
theorem zor_5 {x : Int} {r : Nat} (hx : 0 ≤ x ∧ x ≤ 31) (hr : r < 5) : 0 ≤ zor x (zshl 1 (r : Int)) ∧ zor x (zshl 1 (r : Int)) ≤ 31 := by
  have key : ∀ (a : Fin 32) (c : Fin 5), 0 ≤ zor (a.val : Int) (zshl 1 (c.val : Int)) ∧ zor (a.val : Int) (zshl 1 (c.val : Int)) ≤ 31 := by decide +kernel
  have k := key ⟨x.toNat, by omega⟩ ⟨r, hr⟩
  have e : ((x.toNat : Nat) : Int) = x := by omega
  simp only [e] at k
  exact k
theorem zst_5 {P : Nat → Prop} [DecidablePred P] : ∀ (m r : Nat) (x : Int), r + m ≤ 5 → 0 ≤ x ∧ x ≤ 31 → 0 ≤ zst P m r x ∧ zst P m r x ≤ 31
  | 0, r, x, _, h => h
  | m + 1, r, x, hr, h => by
    unfold zst
    refine zst_5 m (r + 1) _ (by omega) ?_
    split
    · exact zor_5 h (by omega)
    · exact h
theorem sthr_5 {S : zT} (h : 0 ≤ S 0 6 ∧ S 0 6 ≤ 5) : 0 ≤ sthr S ∧ sthr S ≤ 31 := zst_5 _ _ _ (by omega) (by omega)
theorem pcn_r {x : Int} : 0 ≤ pcn x ∧ pcn x ≤ 5 := by unfold pcn; omega
theorem ct_J6_bitCount {X : zXs} {sh : zH} {I L : zI2} {R : zR2} {x : Int} (hx : 0 ≤ x ∧ x ≤ 31) : zE X mJ6_bitCount_0f7a4 0 0 0 [zI x] [] sh I L R (zEq [zI (pcn x)] sh I L R) := by
  obtain ⟨n, rfl⟩ : ∃ n : Fin 32, x = (n.val : Int) := ⟨⟨x.toNat, by omega⟩, by show x = ((x.toNat : Nat) : Int); omega⟩
  refine z_iload0 1 dJ6_bitCount_0f7a4_0 rfl ?_
  refine z_iload0 2 dJ6_bitCount_0f7a4_1 rfl ?_
  refine z_iconst 3 dJ6_bitCount_0f7a4_2 rfl ?_
  refine z_iushr 4 dJ6_bitCount_0f7a4_3 rfl ?_
  refine z_ldcw 7 dJ6_bitCount_0f7a4_4 kc_RJ6_265 rfl ?_
  refine z_iand 8 dJ6_bitCount_0f7a4_7 rfl ?_
  refine z_isub 9 dJ6_bitCount_0f7a4_8 rfl ?_
  refine z_istore0 10 dJ6_bitCount_0f7a4_9 (Nat.le_of_ble_eq_true rfl) rfl ?_
  refine z_iload0 11 dJ6_bitCount_0f7a4_10 rfl ?_
  refine z_ldcw 14 dJ6_bitCount_0f7a4_11 kc_RJ6_266 rfl ?_
  refine z_iand 15 dJ6_bitCount_0f7a4_14 rfl ?_
  refine z_iload0 16 dJ6_bitCount_0f7a4_15 rfl ?_
  refine z_iconst 17 dJ6_bitCount_0f7a4_16 rfl ?_
  refine z_iushr 18 dJ6_bitCount_0f7a4_17 rfl ?_
  refine z_ldcw 21 dJ6_bitCount_0f7a4_18 kc_RJ6_266 rfl ?_
  refine z_iand 22 dJ6_bitCount_0f7a4_21 rfl ?_
  refine z_iadd 23 dJ6_bitCount_0f7a4_22 rfl ?_
  refine z_istore0 24 dJ6_bitCount_0f7a4_23 (Nat.le_of_ble_eq_true rfl) rfl ?_
  refine z_iload0 25 dJ6_bitCount_0f7a4_24 rfl ?_
  refine z_iload0 26 dJ6_bitCount_0f7a4_25 rfl ?_
  refine z_iconst 27 dJ6_bitCount_0f7a4_26 rfl ?_
  refine z_iushr 28 dJ6_bitCount_0f7a4_27 rfl ?_
  refine z_iadd 29 dJ6_bitCount_0f7a4_28 rfl ?_
  refine z_ldcw 32 dJ6_bitCount_0f7a4_29 kc_RJ6_267 rfl ?_
  refine z_iand 33 dJ6_bitCount_0f7a4_32 rfl ?_
  refine z_istore0 34 dJ6_bitCount_0f7a4_33 (Nat.le_of_ble_eq_true rfl) rfl ?_
  refine z_iload0 35 dJ6_bitCount_0f7a4_34 rfl ?_
  refine z_iload0 36 dJ6_bitCount_0f7a4_35 rfl ?_
  refine z_bipush 38 dJ6_bitCount_0f7a4_36 (by decide) rfl ?_
  refine z_iushr 39 dJ6_bitCount_0f7a4_38 rfl ?_
  refine z_iadd 40 dJ6_bitCount_0f7a4_39 rfl ?_
  refine z_istore0 41 dJ6_bitCount_0f7a4_40 (Nat.le_of_ble_eq_true rfl) rfl ?_
  refine z_iload0 42 dJ6_bitCount_0f7a4_41 rfl ?_
  refine z_iload0 43 dJ6_bitCount_0f7a4_42 rfl ?_
  refine z_bipush 45 dJ6_bitCount_0f7a4_43 (by decide) rfl ?_
  refine z_iushr 46 dJ6_bitCount_0f7a4_45 rfl ?_
  refine z_iadd 47 dJ6_bitCount_0f7a4_46 rfl ?_
  refine z_istore0 48 dJ6_bitCount_0f7a4_47 (Nat.le_of_ble_eq_true rfl) rfl ?_
  refine z_iload0 49 dJ6_bitCount_0f7a4_48 rfl ?_
  refine z_bipush 51 dJ6_bitCount_0f7a4_49 (by decide) rfl ?_
  refine z_iand 52 dJ6_bitCount_0f7a4_51 rfl ?_
  exact z_ireturn dJ6_bitCount_0f7a4_52 rfl (⟨congrArg (fun z => [zI z]) (by clear hx; revert n; decide +kernel), rfl, rfl, rfl, rfl⟩)
def prml (n : Nat) : List (List Nat) := match n with
  | 0 => [[]]
  | 1 => [[0]]
  | 2 => [[0, 1], [1, 0]]
  | 3 => [[0, 1, 2], [0, 2, 1], [1, 0, 2], [1, 2, 0], [2, 0, 1], [2, 1, 0]]
  | 4 => [[0, 1, 2, 3], [0, 1, 3, 2], [0, 2, 1, 3], [0, 2, 3, 1], [0, 3, 1, 2], [0, 3, 2, 1], [1, 0, 2, 3], [1, 0, 3, 2], [1, 2, 0, 3], [1, 2, 3, 0], [1, 3, 0, 2], [1, 3, 2, 0], [2, 0, 1, 3], [2, 0, 3, 1], [2, 1, 0, 3], [2, 1, 3, 0], [2, 3, 0, 1], [2, 3, 1, 0], [3, 0, 1, 2], [3, 0, 2, 1], [3, 1, 0, 2], [3, 1, 2, 0], [3, 2, 0, 1], [3, 2, 1, 0]]
  | _ => [[0, 1, 2, 3, 4], [0, 1, 2, 4, 3], [0, 1, 3, 2, 4], [0, 1, 3, 4, 2], [0, 1, 4, 2, 3], [0, 1, 4, 3, 2], [0, 2, 1, 3, 4], [0, 2, 1, 4, 3], [0, 2, 3, 1, 4], [0, 2, 3, 4, 1], [0, 2, 4, 1, 3], [0, 2, 4, 3, 1], [0, 3, 1, 2, 4], [0, 3, 1, 4, 2], [0, 3, 2, 1, 4], [0, 3, 2, 4, 1], [0, 3, 4, 1, 2], [0, 3, 4, 2, 1], [0, 4, 1, 2, 3], [0, 4, 1, 3, 2], [0, 4, 2, 1, 3], [0, 4, 2, 3, 1], [0, 4, 3, 1, 2], [0, 4, 3, 2, 1], [1, 0, 2, 3, 4], [1, 0, 2, 4, 3], [1, 0, 3, 2, 4], [1, 0, 3, 4, 2], [1, 0, 4, 2, 3], [1, 0, 4, 3, 2], [1, 2, 0, 3, 4], [1, 2, 0, 4, 3], [1, 2, 3, 0, 4], [1, 2, 3, 4, 0], [1, 2, 4, 0, 3], [1, 2, 4, 3, 0], [1, 3, 0, 2, 4], [1, 3, 0, 4, 2], [1, 3, 2, 0, 4], [1, 3, 2, 4, 0], [1, 3, 4, 0, 2], [1, 3, 4, 2, 0], [1, 4, 0, 2, 3], [1, 4, 0, 3, 2], [1, 4, 2, 0, 3], [1, 4, 2, 3, 0], [1, 4, 3, 0, 2], [1, 4, 3, 2, 0], [2, 0, 1, 3, 4], [2, 0, 1, 4, 3], [2, 0, 3, 1, 4], [2, 0, 3, 4, 1], [2, 0, 4, 1, 3], [2, 0, 4, 3, 1], [2, 1, 0, 3, 4], [2, 1, 0, 4, 3], [2, 1, 3, 0, 4], [2, 1, 3, 4, 0], [2, 1, 4, 0, 3], [2, 1, 4, 3, 0], [2, 3, 0, 1, 4], [2, 3, 0, 4, 1], [2, 3, 1, 0, 4], [2, 3, 1, 4, 0], [2, 3, 4, 0, 1], [2, 3, 4, 1, 0], [2, 4, 0, 1, 3], [2, 4, 0, 3, 1], [2, 4, 1, 0, 3], [2, 4, 1, 3, 0], [2, 4, 3, 0, 1], [2, 4, 3, 1, 0], [3, 0, 1, 2, 4], [3, 0, 1, 4, 2], [3, 0, 2, 1, 4], [3, 0, 2, 4, 1], [3, 0, 4, 1, 2], [3, 0, 4, 2, 1], [3, 1, 0, 2, 4], [3, 1, 0, 4, 2], [3, 1, 2, 0, 4], [3, 1, 2, 4, 0], [3, 1, 4, 0, 2], [3, 1, 4, 2, 0], [3, 2, 0, 1, 4], [3, 2, 0, 4, 1], [3, 2, 1, 0, 4], [3, 2, 1, 4, 0], [3, 2, 4, 0, 1], [3, 2, 4, 1, 0], [3, 4, 0, 1, 2], [3, 4, 0, 2, 1], [3, 4, 1, 0, 2], [3, 4, 1, 2, 0], [3, 4, 2, 0, 1], [3, 4, 2, 1, 0], [4, 0, 1, 2, 3], [4, 0, 1, 3, 2], [4, 0, 2, 1, 3], [4, 0, 2, 3, 1], [4, 0, 3, 1, 2], [4, 0, 3, 2, 1], [4, 1, 0, 2, 3], [4, 1, 0, 3, 2], [4, 1, 2, 0, 3], [4, 1, 2, 3, 0], [4, 1, 3, 0, 2], [4, 1, 3, 2, 0], [4, 2, 0, 1, 3], [4, 2, 0, 3, 1], [4, 2, 1, 0, 3], [4, 2, 1, 3, 0], [4, 2, 3, 0, 1], [4, 2, 3, 1, 0], [4, 3, 0, 1, 2], [4, 3, 0, 2, 1], [4, 3, 1, 0, 2], [4, 3, 1, 2, 0], [4, 3, 2, 0, 1], [4, 3, 2, 1, 0]]
def pf (l : List Nat) : Nat → Int := fun j => ((l.getD j j : Nat) : Int)
def pok (n : Nat) (l : List Nat) : Bool := decide (l.length = n) && l.all (fun i => decide (i < n))
def pnx (n : Nat) (o : Option (Nat → Int)) (r : List (List Nat)) : Bool := match o, r with
  | none, [] => true
  | some p, l' :: _ => (List.range n).all (fun j => decide (p j = pf l' j))
  | _, _ => false
def pstep (n : Nat) : List (List Nat) → Bool
  | [] => true
  | l :: r => pok n l && (pnx n (advf (pf l) n (n - 1)) r && pstep n r)
theorem pstep_ok : ∀ n : Fin 6, pstep n.val (prml n.val) = true := by decide +kernel
theorem prml_len : ∀ n : Fin 6, 0 < (prml n.val).length ∧ (prml n.val).length ≤ 120 := by decide +kernel
theorem swp_g (g : Int → Int) (p : Nat → Int) (i j : Nat) : swp (fun q => g (p q)) i j = fun q => g (swp p i j q) := by
  funext q
  unfold swp
  split
  · rfl
  · split <;> rfl
theorem trd_g (g : Int → Int) : ∀ (m i t : Nat) (p : Nat → Int), trd m i t (fun q => g (p q)) = fun q => g (trd m i t p q)
  | 0, i, t, p => rfl
  | m + 1, i, t, p => by
    unfold trd
    split
    · rw [swp_g, trd_g g m]
    · rfl
theorem labl_g {f p : Nat → Int} {n i : Nat} (e : ∀ i j, i < n → j < n → (f i < f j ↔ p i < p j)) (hi : i < n) : ∀ (m j last : Nat), j + m ≤ n → labl f i m j last = labl p i m j last
  | 0, j, last, _ => rfl
  | m + 1, j, last, h => by
    unfold labl
    have := e i j hi (by omega)
    rw [labl_g e hi m (j + 1) _ (by omega)]
    by_cases hc : f i < f j
    · rw [if_pos hc, if_pos (this.mp hc)]
    · rw [if_neg hc, if_neg (fun q => hc (this.mpr q))]
theorem advf_g {g : Int → Int} {p : Nat → Int} {n : Nat} (e : ∀ i j, i < n → j < n → (g (p i) < g (p j) ↔ p i < p j)) : ∀ k, k + 1 ≤ n ∨ k = 0 → advf (fun q => g (p q)) n k = (advf p n k).map (fun p' q => g (p' q))
  | 0, _ => rfl
  | k + 1, h => by
    unfold advf
    have := e k (k + 1) (by omega) (by omega)
    by_cases hc : p k < p (k + 1)
    · rw [if_pos hc, if_pos (this.mpr hc), labl_g e (by omega) _ _ _ (by omega), swp_g, trd_g]
      rfl
    · rw [if_neg hc, if_neg (fun q => hc (this.mp q))]
      exact advf_g e k (by omega)
theorem trd_out : ∀ (m i t j : Nat) (f : Nat → Int), t < j → trd m i t f j = f j
  | 0, i, t, j, f, _ => rfl
  | m + 1, i, t, j, f, h => by
    unfold trd
    split
    · rw [trd_out m (i + 1) (t - 1) j _ (by omega)]
      unfold swp
      rw [if_neg (by omega), if_neg (by omega)]
    · rfl
theorem advf_out {p p' : Nat → Int} {n j : Nat} (hj : n ≤ j) : ∀ k, k + 1 ≤ n ∨ k = 0 → advf p n k = some p' → p' j = p j
  | 0, _, h => by cases h
  | k + 1, hk, h => by
    unfold advf at h
    split at h
    · cases h
      have hl := labl_r p k (n - (k + 2)) (k + 2) (k + 1) n (by omega) (by omega)
      rw [trd_out _ _ _ _ _ (by omega)]
      unfold swp
      rw [if_neg (by omega), if_neg (by omega)]
    · exact advf_out hj k (by omega) h
theorem pok_1 {n : Nat} {l : List Nat} (h : pok n l = true) : l.length = n ∧ ∀ j, j < n → l.getD j j < n := by
  unfold pok at h
  rw [Bool.and_eq_true] at h
  have h1 : l.length = n := of_decide_eq_true h.1
  refine ⟨h1, fun j hj => ?_⟩
  have h2 := List.all_eq_true.mp h.2 l[j] (List.getElem_mem (by omega))
  rw [List.getD_eq_getElem?_getD, List.getElem?_eq_getElem (by omega)]
  exact of_decide_eq_true h2
theorem pf_out {n : Nat} {l : List Nat} (h : l.length = n) {j : Nat} (hj : n ≤ j) : pf l j = (j : Int) := by
  unfold pf
  rw [List.getD_eq_getElem?_getD, List.getElem?_eq_none (by omega)]
  rfl
theorem pstep_next {n : Nat} {l l' : List Nat} {r : List (List Nat)} (h : pstep n (l :: l' :: r) = true) : advf (pf l) n (n - 1) = some (pf l') ∧ pstep n (l' :: r) = true := by
  have h0 := h
  unfold pstep at h
  rw [Bool.and_eq_true, Bool.and_eq_true] at h
  obtain ⟨h1, h2, h3⟩ := h
  refine ⟨?_, h3⟩
  have h4 : pok n l' = true := by
    unfold pstep at h3
    rw [Bool.and_eq_true] at h3
    exact h3.1
  have e1 := (pok_1 h1).1
  have e2 := (pok_1 h4).1
  cases ha : advf (pf l) n (n - 1) with
  | none => rw [ha] at h2; cases h2
  | some p =>
    rw [ha] at h2
    congr 1
    funext j
    by_cases hj : j < n
    · exact of_decide_eq_true (List.all_eq_true.mp h2 j (List.mem_range.mpr hj))
    · rw [advf_out (by omega) (n - 1) (by omega) ha, pf_out e1 (by omega), pf_out e2 (by omega)]
theorem pstep_last {n : Nat} {l : List Nat} (h : pstep n [l] = true) : advf (pf l) n (n - 1) = none := by
  unfold pstep at h
  rw [Bool.and_eq_true, Bool.and_eq_true] at h
  cases ha : advf (pf l) n (n - 1) with
  | none => rfl
  | some p => rw [ha] at h; cases h.2.1
theorem pstep_pok {n : Nat} {l : List Nat} {r : List (List Nat)} (h : pstep n (l :: r) = true) : pok n l = true := by
  unfold pstep at h
  rw [Bool.and_eq_true] at h
  exact h.1
/-! who are at the top -/
theorem obg_r (P : Nat → Int) : ∀ (m r : Nat) (f : Nat → Int) (n : Nat), (n ≤ (obg P m r f n).2 ∧ (obg P m r f n).2 ≤ n + m) ∧ (∀ k, k < n → (obg P m r f n).1 k = f k) ∧ (∀ k, (obg P m r f n).2 ≤ k → (obg P m r f n).1 k = f k) ∧ ∀ k, n ≤ k → k < (obg P m r f n).2 → ∃ q : Nat, (r ≤ q ∧ q < r + m) ∧ (obg P m r f n).1 k = (q : Int) ∧ P q = 30 ∧ ∀ k', k < k' → k' < (obg P m r f n).2 → (q : Int) < (obg P m r f n).1 k'
  | 0, r, f, n => ⟨⟨Nat.le_refl _, Nat.le_refl _⟩, fun _ _ => rfl, fun _ _ => rfl, fun k h1 h2 => by
    have : k < n := h2
    omega⟩
  | m + 1, r, f, n => by
    unfold obg
    split
    · rename_i hp
      obtain ⟨h1, h2, h3, h4⟩ := obg_r P m (r + 1) (fun q => if q = n then (r : Int) else f q) (n + 1)
      refine ⟨⟨by omega, by omega⟩, fun k hk => ?_, fun k hk => ?_, fun k hk1 hk2 => ?_⟩
      · rw [h2 k (by omega), if_neg (by omega)]
      · rw [h3 k hk, if_neg (by omega)]
      · by_cases hkn : k = n
        · subst hkn
          refine ⟨r, ⟨by omega, by omega⟩, by rw [h2 k (by omega), if_pos rfl], hp, fun k' hk' hk3 => ?_⟩
          obtain ⟨q, hq, hq2, -⟩ := h4 k' (by omega) hk3
          omega
        · obtain ⟨q, hq, hq2, hq3, hq4⟩ := h4 k (by omega) hk2
          exact ⟨q, ⟨by omega, by omega⟩, hq2, hq3, hq4⟩
    · obtain ⟨h1, h2, h3, h4⟩ := obg_r P m (r + 1) f n
      refine ⟨⟨by omega, by omega⟩, h2, h3, fun k hk1 hk2 => ?_⟩
      obtain ⟨q, hq, hq2, hq3, hq4⟩ := h4 k hk1 hk2
      exact ⟨q, ⟨by omega, by omega⟩, hq2, hq3, hq4⟩
theorem obg_c {P P' : Nat → Int} : ∀ (m r : Nat) (f f' : Nat → Int) (n : Nat), (∀ q, r ≤ q → q < r + m → P q = P' q) → (∀ k, k < n → f k = f' k) → (obg P m r f n).2 = (obg P' m r f' n).2 ∧ ∀ k, k < (obg P m r f n).2 → (obg P m r f n).1 k = (obg P' m r f' n).1 k
  | 0, r, f, f', n, _, h => ⟨rfl, h⟩
  | m + 1, r, f, f', n, hP, h => by
    unfold obg
    rw [← hP r (by omega) (by omega)]
    split
    · exact obg_c m (r + 1) _ _ (n + 1) (fun q h1 h2 => hP q (by omega) (by omega)) (fun k hk => by
        by_cases hkn : k = n
        · rw [if_pos hkn, if_pos hkn]
        · rw [if_neg hkn, if_neg hkn]; exact h k (by omega))
    · exact obg_c m (r + 1) _ _ n (fun q h1 h2 => hP q (by omega) (by omega)) h
def otn (S : zT) : Nat := (obg (S 6) (S 0 6).toNat 0 (fun _ => 0) 0).2
def otp (S : zT) : Nat → Int := (obg (S 6) (S 0 6).toNat 0 (fun _ => 0) 0).1
def osq (tp : Nat → Int) : List Nat → zT → zT
  | [], S => S
  | i :: l, S => osq tp l (send S (tp i).toNat)
def oval (S : zT) (tp : Nat → Int) (l : List Nat) : Int := pcn (sthr (osq tp l S))
def ofold (v : List Nat → Int) : List (List Nat) → Int → List Nat → Int × List Nat
  | [], c, b => (c, b)
  | l :: r, c, b => if c < v l then ofold v r (v l) l else ofold v r c b
def obst (S : zT) : Int × List Nat := ofold (oval S (otp S)) (prml (otn S)) (-1) []
def oOrder (A : zA) (k : Int) : Int := if k < -1 then -1 else if k = -1 then (obst A.1).1 else if 0 ≤ k ∧ k ≤ (otn A.1 : Int) - 1 then otp A.1 ((obst A.1).2.getD k.toNat 0) else -4
def ssq (f : Nat → Int) : Nat → Nat → zT → zT
  | 0, _, S => S
  | m + 1, k, S => ssq f m (k + 1) (send S (f k).toNat)
theorem ssq_l {f tp : Nat → Int} {l : List Nat} (e : ∀ k, k < l.length → f k = tp (l.getD k k)) : ∀ (m k : Nat) (S : zT), k + m = l.length → ssq f m k S = osq tp (l.drop k) S
  | 0, k, S, h => by
    rw [List.drop_eq_nil_of_le (by omega)]
    rfl
  | m + 1, k, S, h => by
    rw [List.drop_eq_getElem_cons (by omega)]
    unfold ssq osq
    rw [ssq_l e m (k + 1) _ (by omega), e k (by omega), List.getD_eq_getElem?_getD, List.getElem?_eq_getElem (by omega)]
    rfl
theorem ssq_c {f : Nat → Int} {n : Nat} : ∀ (m k : Nat) (S S' : zT), k + m = n → zQe S S' → (∀ k, k < n → ((f k).toNat : Int) < S 0 6) → zQe (ssq f m k S) (ssq f m k S')
  | 0, k, S, S', _, h, _ => h
  | m + 1, k, S, S', hk, h, hf => by
    unfold ssq
    exact ssq_c (n := n) m (k + 1) _ _ (by omega) (send_c h (hf k (by omega))) (fun q hq => by rw [send_06 _ _ 6 (by decide)]; exact hf q hq)
