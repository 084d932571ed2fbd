/-! ===== the reference: its object at place 157, its rows 158 .. 172; the row now (43 ints) as a picture of a slide ===== -/
def zMs (sh : zH) (R : zR2) : Prop := (sh[157]? = some (7, 21) ∧ sh[158]? = some (20, 43) ∧ sh[159]? = some (20, 10) ∧ sh[160]? = some (20, 70) ∧ sh[161]? = some (20, 20) ∧ sh[162]? = some (20, 15) ∧ sh[163]? = some (20, 344) ∧ sh[164]? = some (20, 43) ∧ sh[165]? = some (20, 5) ∧ sh[166]? = some (20, 5) ∧ sh[167]? = some (20, 5) ∧ sh[168]? = some (20, 387) ∧ sh[169]? = some (20, 4) ∧ sh[170]? = some (20, 4) ∧ sh[171]? = some (21, 96) ∧ sh[172]? = some (21, 24)) ∧ (R 157 0 = some 158 ∧ R 157 1 = some 159 ∧ R 157 2 = some 160 ∧ R 157 6 = some 161 ∧ R 157 7 = some 162 ∧ R 157 8 = some 163 ∧ R 157 10 = some 164 ∧ R 157 11 = some 165 ∧ R 157 12 = some 166 ∧ R 157 13 = some 167 ∧ R 157 14 = some 168 ∧ R 157 17 = some 169 ∧ R 157 18 = some 170 ∧ R 157 19 = some 171 ∧ R 157 20 = some 172)
def npk (N : Nat → Int) (S : zT) : Nat → Int := fun j => if j = 0 then S 0 6 else if j = 1 then S 0 7 else if j = 2 then S 0 8 else if j < 13 then S 1 (j - 3) else if j < 23 then S 2 (j - 13) else if j < 43 then S (3 + (j - 23) % 4) ((j - 23) / 4) else N j
def nvw (N : Nat → Int) : zT := fun i j => if i = 0 then (if j = 6 then N 0 else if j = 7 then N 1 else if j = 8 then N 2 else 0) else if i = 1 then (if j < 10 then N (3 + j) else 0) else if i = 2 then (if j < 10 then N (13 + j) else 0) else if i < 7 then (if j < 5 then N (23 + 4 * j + (i - 3)) else 0) else 0
theorem npk_nvw (N : Nat → Int) : npk N (nvw N) = N := by
  funext j
  unfold npk
  by_cases h0 : j = 0
  · subst h0; rfl
  · rw [if_neg h0]
    by_cases h1 : j = 1
    · subst h1; rfl
    · rw [if_neg h1]
      by_cases h2 : j = 2
      · subst h2; rfl
      · rw [if_neg h2]
        by_cases h3 : j < 13
        · rw [if_pos h3]
          show (if j - 3 < 10 then N (3 + (j - 3)) else 0) = N j
          rw [if_pos (by omega), show 3 + (j - 3) = j by omega]
        · rw [if_neg h3]
          by_cases h4 : j < 23
          · rw [if_pos h4]
            show (if j - 13 < 10 then N (13 + (j - 13)) else 0) = N j
            rw [if_pos (by omega), show 13 + (j - 13) = j by omega]
          · rw [if_neg h4]
            by_cases h5 : j < 43
            · rw [if_pos h5]
              unfold nvw
              rw [if_neg (by omega), if_neg (by omega), if_neg (by omega), if_pos (by omega), if_pos (by omega)]
              congr 1
              omega
            · rw [if_neg h5]
theorem npk_0 (N : Nat → Int) (S : zT) : npk N S 0 = S 0 6 := rfl
theorem npk_1 (N : Nat → Int) (S : zT) : npk N S 1 = S 0 7 := rfl
theorem npk_2 (N : Nat → Int) (S : zT) : npk N S 2 = S 0 8 := rfl
theorem npk_r (N : Nat → Int) (S : zT) {t : Nat} (h : t < 10) : npk N S (3 + t) = S 1 t := by
  unfold npk
  rw [if_neg (by omega), if_neg (by omega), if_neg (by omega), if_pos (by omega), show 3 + t - 3 = t by omega]
theorem npk_b (N : Nat → Int) (S : zT) {t : Nat} (h : t < 10) : npk N S (13 + t) = S 2 t := by
  unfold npk
  rw [if_neg (by omega), if_neg (by omega), if_neg (by omega), if_neg (by omega), if_pos (by omega), show 13 + t - 13 = t by omega]
theorem npk_k (N : Nat → Int) (S : zT) {r w : Nat} (h : r < 5) (hw : w < 4) : npk N S (23 + 4 * r + w) = S (3 + w) r := by
  unfold npk
  rw [if_neg (by omega), if_neg (by omega), if_neg (by omega), if_neg (by omega), if_neg (by omega), if_pos (by omega), show 3 + (23 + 4 * r + w - 23) % 4 = 3 + w by omega, show (23 + 4 * r + w - 23) / 4 = r by omega]
theorem npk_hi (N : Nat → Int) (S : zT) {j : Nat} (h : 43 ≤ j) : npk N S j = N j := by
  unfold npk
  rw [if_neg (by omega), if_neg (by omega), if_neg (by omega), if_neg (by omega), if_neg (by omega), if_neg (by omega)]
/-- a place of the row and its place in the picture -/
def nix (k i j : Nat) : Prop := (k = 0 ∧ i = 0 ∧ j = 6) ∨ (k = 1 ∧ i = 0 ∧ j = 7) ∨ (k = 2 ∧ i = 0 ∧ j = 8) ∨ (k = 3 + j ∧ i = 1 ∧ j < 10) ∨ (k = 13 + j ∧ i = 2 ∧ j < 10) ∨ (3 ≤ i ∧ i < 7 ∧ j < 5 ∧ k = 23 + 4 * j + (i - 3))
theorem npk_up (N : Nat → Int) (S : zT) {k i j : Nat} (h : nix k i j) (v : Int) : (fun q => if q = k then v else npk N S q) = npk N (zup S i j v) := by
  funext q
  have key : ∀ a c, (q = k → a = i ∧ c = j) → (¬ q = k → ¬ (a = i ∧ c = j)) → (if q = k then v else S a c) = zup S i j v a c := by
    intro a c h1 h2
    by_cases hq : q = k
    · obtain ⟨rfl, rfl⟩ := h1 hq
      rw [if_pos hq, zup_at]
    · rw [if_neg hq, zup_ne _ _ (h2 hq)]
  unfold nix at h
  show (if q = k then v else npk N S q) = npk N (zup S i j v) q
  unfold npk
  by_cases h0 : q = 0
  · rw [if_pos h0, if_pos h0]; exact key _ _ (by omega) (by omega)
  · rw [if_neg h0, if_neg h0]
    by_cases h1 : q = 1
    · rw [if_pos h1, if_pos h1]; exact key _ _ (by omega) (by omega)
    · rw [if_neg h1, if_neg h1]
      by_cases h2 : q = 2
      · rw [if_pos h2, if_pos h2]; exact key _ _ (by omega) (by omega)
      · rw [if_neg h2, if_neg h2]
        by_cases h3 : q < 13
        · rw [if_pos h3, if_pos h3]; exact key _ _ (by omega) (by omega)
        · rw [if_neg h3, if_neg h3]
          by_cases h4 : q < 23
          · rw [if_pos h4, if_pos h4]; exact key _ _ (by omega) (by omega)
          · rw [if_neg h4, if_neg h4]
            by_cases h5 : q < 43
            · rw [if_pos h5, if_pos h5]; exact key _ _ (by omega) (by omega)
            · rw [if_neg h5, if_neg h5, if_neg (by omega)]
/-- the memory with the row now as a picture -/
def mN (I : zI2) (N : Nat → Int) (S : zT) : zI2 := zrow I 158 (npk N S)
theorem mN_self (I : zI2) : mN I (I 158) (nvw (I 158)) = I := by unfold mN; rw [npk_nvw, zrow_self]
theorem mN_at (I : zI2) (N : Nat → Int) (S : zT) (k : Nat) : mN I N S 158 k = npk N S k := zrow_at _ _ _ _
theorem mN_0 (I : zI2) (N : Nat → Int) (S : zT) : mN I N S 158 0 = S 0 6 := mN_at _ _ _ _
theorem mN_1 (I : zI2) (N : Nat → Int) (S : zT) : mN I N S 158 1 = S 0 7 := mN_at _ _ _ _
theorem mN_2 (I : zI2) (N : Nat → Int) (S : zT) : mN I N S 158 2 = S 0 8 := mN_at _ _ _ _
theorem mN_r (I : zI2) (N : Nat → Int) (S : zT) {t : Nat} (h : t < 10) : mN I N S 158 (3 + t) = S 1 t := (mN_at _ _ _ _).trans (npk_r _ _ h)
theorem mN_b (I : zI2) (N : Nat → Int) (S : zT) {t : Nat} (h : t < 10) : mN I N S 158 (13 + t) = S 2 t := (mN_at _ _ _ _).trans (npk_b _ _ h)
theorem mN_o (I : zI2) (N : Nat → Int) (S : zT) {a : Nat} (h : a ≠ 158) : mN I N S a = I a := zrow_oR _ _ h
theorem mN_up (I : zI2) (N : Nat → Int) (S : zT) {k i j : Nat} (h : nix k i j) (v : Int) : zup (mN I N S) 158 k v = mN I N (zup S i j v) := by
  unfold mN
  rw [zrow_up, npk_up N S h]
theorem zrow_upo (I : zI2) {a b : Nat} (h : a ≠ b) (f : Nat → Int) (j : Nat) (v : Int) : zup (zrow I a f) b j v = zrow (zup I b j v) a f := by
  funext x y
  unfold zup zrow
  by_cases hx : x = a
  · subst hx
    rw [if_neg (fun q => h q.1), if_pos rfl, if_pos rfl]
  · rw [if_neg hx, if_neg hx]
theorem zrow_rowo (I : zI2) {a b : Nat} (h : a ≠ b) (f g : Nat → Int) : zrow (zrow I a f) b g = zrow (zrow I b g) a f := by
  funext x y
  unfold zrow
  by_cases hx : x = a
  · subst hx
    rw [if_neg h, if_pos rfl, if_pos rfl]
  · rw [if_neg hx, if_neg hx]
theorem mN_upo (I : zI2) (N : Nat → Int) (S : zT) {b : Nat} (h : b ≠ 158) (j : Nat) (v : Int) : zup (mN I N S) b j v = mN (zup I b j v) N S := zrow_upo I (Ne.symm h) _ _ _
theorem mN_rowo (I : zI2) (N : Nat → Int) (S : zT) {b : Nat} (h : b ≠ 158) (f : Nat → Int) : zrow (mN I N S) b f = mN (zrow I b f) N S := zrow_rowo I (Ne.symm h) _ _
def mls (P : Nat → Int) (v : Int) : Nat → Nat → Int → Int
  | 0, _, x => x
  | m + 1, r, x => mls P v m (r + 1) (if P r = v then (r : Int) else x)
theorem mls_r (P : Nat → Int) (v : Int) : ∀ (m r : Nat) (x : Int), mls P v m r x = x ∨ ((r : Int) ≤ mls P v m r x ∧ mls P v m r x < (r : Int) + m ∧ P (mls P v m r x).toNat = v)
  | 0, r, x => Or.inl rfl
  | m + 1, r, x => by
    unfold mls
    by_cases h : P r = v
    · rw [if_pos h]
      rcases mls_r P v m (r + 1) (r : Int) with h1 | ⟨h1, h2, h3⟩
      · rw [h1]
        exact Or.inr ⟨by omega, by omega, by rw [Int.toNat_natCast]; exact h⟩
      · exact Or.inr ⟨by omega, by omega, h3⟩
    · rw [if_neg h]
      rcases mls_r P v m (r + 1) x with h1 | ⟨h1, h2, h3⟩
      · exact Or.inl h1
      · exact Or.inr ⟨by omega, by omega, h3⟩
def mwho (S : zT) (t : Nat) : Int := mls (S 6) (10 + (t : Int)) (S 0 6).toNat 0 (-4)
theorem mwho_r (S : zT) (t : Nat) (h : 0 ≤ S 0 6 ∧ S 0 6 ≤ 5) : mwho S t = -4 ∨ (0 ≤ mwho S t ∧ mwho S t < 5 ∧ mwho S t < S 0 6 ∧ S 6 (mwho S t).toNat = 10 + (t : Int)) := by
  unfold mwho
  rcases mls_r (S 6) (10 + (t : Int)) (S 0 6).toNat 0 (-4) with h1 | ⟨h1, h2, h3⟩
  · exact Or.inl h1
  · exact Or.inr ⟨by omega, by omega, by omega, h3⟩
section MODA
variable {X : zXs} {sh : zH} {I L : zI2} {R : zR2} {N : Nat → Int} {S : zT}
theorem ct_X7_in {v lo hi : Int} (hv : -9223372036854775808 ≤ v ∧ v ≤ 9223372036854775807) (hlo : -9223372036854775808 ≤ lo ∧ lo ≤ 9223372036854775807) (hhi : -9223372036854775808 ≤ hi ∧ hi ≤ 9223372036854775807) : zE X mX7_in 0 0 0 [zL v, zX, zL lo, zX, zL hi, zX] [] sh I L R (zEq [zI (zwi v lo hi)] sh I L R) := by
  have c1 := zcmr v lo
  have c2 := zcmr v hi
  have e1 : zcmpL v lo < 0 ↔ v < lo := by unfold zcmpL; split <;> (try split) <;> omega
  have e2 : 0 < zcmpL v hi ↔ hi < v := by unfold zcmpL; split <;> (try split) <;> omega
  refine z_lload0 1 dX7_in_0 rfl ?_
  refine z_lload2 2 dX7_in_1 rfl ?_
  refine z_lcmp 3 dX7_in_2 (by omega) (by omega) rfl ?_
  refine z_if_lt 17 6 dX7_in_3 (by decide) rfl (by omega) (fun h3 => ?_) (fun h3 => ?_)
  · refine z_iconst 18 dX7_in_17 rfl ?_
    exact z_zreturn dX7_in_18 rfl (by omega) (⟨by unfold zwi; (first | rw [if_pos (by omega)] | rw [if_neg (by omega)]), rfl, rfl, rfl, rfl⟩)
  · refine z_lload0 7 dX7_in_6 rfl ?_
    refine z_lload4 9 dX7_in_7 rfl ?_
    refine z_lcmp 10 dX7_in_9 (by omega) (by omega) rfl ?_
    refine z_if_gt 17 13 dX7_in_10 (by decide) rfl (by omega) (fun h10 => ?_) (fun h10 => ?_)
    · refine z_iconst 18 dX7_in_17 rfl ?_
      exact z_zreturn dX7_in_18 rfl (by omega) (⟨by unfold zwi; (first | rw [if_pos (by omega)] | rw [if_neg (by omega)]), rfl, rfl, rfl, rfl⟩)
    · refine z_iconst 14 dX7_in_13 rfl ?_
      refine z_goto 18 dX7_in_14 (by decide) ?_
      exact z_zreturn dX7_in_18 rfl (by omega) (⟨by unfold zwi; (first | rw [if_pos (by omega)] | rw [if_neg (by omega)]), rfl, rfl, rfl, rfl⟩)
theorem ct_X7_isTurn {v : Int} (hv : -2147483648 ≤ v ∧ v ≤ 2147483647) : zE X mX7_isTurn 0 0 0 [zI v] [] sh I L R (zEq [zI (zwi v 0 9)] sh I L R) := by
  have h := zwi_r v 0 9
  refine z_iload0 1 dX7_isTurn_0 rfl ?_
  refine z_i2l 2 dX7_isTurn_1 (by omega) rfl ?_
  refine z_lconst0 3 dX7_isTurn_2 rfl ?_
  refine z_ldc2 6 dX7_isTurn_3 kl_RX7_60 rfl ?_
  refine z_xS3 9 dX7_isTurn_6 lk_X7_isTurn_56 (ct_X7_in (by omega) (by omega) (by omega)) rfl (Nat.le_of_ble_eq_true rfl) (Nat.le_of_ble_eq_true rfl) rfl ?_
  exact z_zreturn dX7_isTurn_9 rfl (by omega) (⟨rfl, rfl, rfl, rfl, rfl⟩)
theorem ct_X7_isSheet {v : Int} (hv : -2147483648 ≤ v ∧ v ≤ 2147483647) : zE X mX7_isSheet 0 0 0 [zI v] [] sh I L R (zEq [zI (zwi v 0 3)] sh I L R) := by
  have h := zwi_r v 0 3
  refine z_iload0 1 dX7_isSheet_0 rfl ?_
  refine z_i2l 2 dX7_isSheet_1 (by omega) rfl ?_
  refine z_lconst0 3 dX7_isSheet_2 rfl ?_
  refine z_ldc2 6 dX7_isSheet_3 kl_RX7_98 rfl ?_
  refine z_xS3 9 dX7_isSheet_6 lk_X7_isSheet_56 (ct_X7_in (by omega) (by omega) (by omega)) rfl (Nat.le_of_ble_eq_true rfl) (Nat.le_of_ble_eq_true rfl) rfl ?_
  exact z_zreturn dX7_isSheet_9 rfl (by omega) (⟨rfl, rfl, rfl, rfl, rfl⟩)
theorem ct_X7_isLane {v : Int} (hv : -2147483648 ≤ v ∧ v ≤ 2147483647) : zE X mX7_isLane 0 0 0 [zI v] [] sh I L R (zEq [zI (zwi v 0 3)] sh I L R) := by
  have h := zwi_r v 0 3
  refine z_iload0 1 dX7_isLane_0 rfl ?_
  refine z_i2l 2 dX7_isLane_1 (by omega) rfl ?_
  refine z_lconst0 3 dX7_isLane_2 rfl ?_
  refine z_ldc2 6 dX7_isLane_3 kl_RX7_98 rfl ?_
  refine z_xS3 9 dX7_isLane_6 lk_X7_isLane_56 (ct_X7_in (by omega) (by omega) (by omega)) rfl (Nat.le_of_ble_eq_true rfl) (Nat.le_of_ble_eq_true rfl) rfl ?_
  exact z_zreturn dX7_isLane_9 rfl (by omega) (⟨rfl, rfl, rfl, rfl, rfl⟩)
theorem ct_X7_isRider {r : Int} (hM : zMs sh R) (h6 : 0 ≤ S 0 6 ∧ S 0 6 ≤ 5) (hr : -2147483648 ≤ r ∧ r ≤ 2147483647) : zE X mX7_isRider 0 0 0 [zR 157, zI r] [] sh (mN I N S) L R (zEq [zI (zwi r 0 (S 0 6 - 1))] sh (mN I N S) L R) := by
  obtain ⟨⟨s0, s1, s2, s3, s4, s5, s6, s7, s8, s9, s10, s11, s12, s13, s14, s15⟩, r0, r1, r2, r3, r4, r5, r6, r7, r8, r9, r10, r11, r12, r13, r14⟩ := id hM
  have h := zwi_r r 0 (S 0 6 - 1)
  refine z_iload1 1 dX7_isRider_0 rfl ?_
  refine z_i2l 2 dX7_isRider_1 (by omega) rfl ?_
  refine z_lconst0 3 dX7_isRider_2 rfl ?_
  refine z_aload0 4 dX7_isRider_3 rfl ?_
  refine z_getR 7 dX7_isRider_4 fl_RX7_7 (by assumption) (by assumption) rfl ?_
  refine z_iconst 8 dX7_isRider_7 rfl ?_
  refine z_ialdx 9 (0) dX7_isRider_8 (by assumption) (by omega) (by omega) (mN_0 _ _ _) rfl ?_
  refine z_iconst 10 dX7_isRider_9 rfl ?_
  refine z_isub 11 dX7_isRider_10 rfl ?_
  refine z_i2l 12 dX7_isRider_11 (by omega) rfl ?_
  refine z_xS3 15 dX7_isRider_12 lk_X7_isRider_56 (ct_X7_in (by omega) (by omega) (by omega)) rfl (Nat.le_of_ble_eq_true rfl) (Nat.le_of_ble_eq_true rfl) rfl ?_
  exact z_zreturn dX7_isRider_15 rfl (by omega) (⟨rfl, rfl, rfl, rfl, rfl⟩)
theorem ct_X7_told {r w k : Nat} (hM : zMs sh R) (hr : r < 5) (hw : w < 4) (hk : 3 + w = k) : zE X mX7_told 0 0 0 [zR 157, zI (r : Int), zI (w : Int)] [] sh (mN I N S) L R (zEq [zI (S k r)] sh (mN I N S) L R) := by
  subst hk
  obtain ⟨⟨s0, s1, s2, s3, s4, s5, s6, s7, s8, s9, s10, s11, s12, s13, s14, s15⟩, r0, r1, r2, r3, r4, r5, r6, r7, r8, r9, r10, r11, r12, r13, r14⟩ := id hM
  refine z_aload0 1 dX7_told_0 rfl ?_
  refine z_getR 4 dX7_told_1 fl_RX7_7 (by assumption) (by assumption) rfl ?_
  refine z_bipush 6 dX7_told_4 (by decide) rfl ?_
  refine z_iconst 7 dX7_told_6 rfl ?_
  refine z_iload1 8 dX7_told_7 rfl ?_
  refine z_imul 9 dX7_told_8 rfl ?_
  refine z_iadd 10 dX7_told_9 rfl ?_
  refine z_iload2 11 dX7_told_10 rfl ?_
  refine z_iadd 12 dX7_told_11 rfl ?_
  refine z_ialdx 13 (23 + 4 * r + w) dX7_told_12 (by assumption) (by omega) (by omega) ((mN_at _ _ _ _).trans (npk_k _ _ hr hw)) rfl ?_
  exact z_ireturn dX7_told_13 rfl (⟨rfl, rfl, rfl, rfl, rfl⟩)
theorem ct_X7_tells {r w k : Nat} {v : Int} (hM : zMs sh R) (hr : r < 5) (hw : w < 4) (hk : 3 + w = k) : zE X mX7_tells 0 0 0 [zR 157, zI (r : Int), zI (w : Int), zI v] [] sh (mN I N S) L R (zEq [] sh (mN I N (zup S k r v)) L R) := by
  subst hk
  obtain ⟨⟨s0, s1, s2, s3, s4, s5, s6, s7, s8, s9, s10, s11, s12, s13, s14, s15⟩, r0, r1, r2, r3, r4, r5, r6, r7, r8, r9, r10, r11, r12, r13, r14⟩ := id hM
  refine z_aload0 1 dX7_tells_0 rfl ?_
  refine z_getR 4 dX7_tells_1 fl_RX7_7 (by assumption) (by assumption) rfl ?_
  refine z_bipush 6 dX7_tells_4 (by decide) rfl ?_
  refine z_iconst 7 dX7_tells_6 rfl ?_
  refine z_iload1 8 dX7_tells_7 rfl ?_
  refine z_imul 9 dX7_tells_8 rfl ?_
  refine z_iadd 10 dX7_tells_9 rfl ?_
  refine z_iload2 11 dX7_tells_10 rfl ?_
  refine z_iadd 12 dX7_tells_11 rfl ?_
  refine z_iload3 13 dX7_tells_12 rfl ?_
  refine z_iastx 14 (23 + 4 * r + w) dX7_tells_13 (by assumption) (by omega) (by omega) (mN_up _ _ _ (i := 3 + w) (j := r) (by unfold nix; omega) _) rfl ?_
  exact z_return dX7_tells_14 rfl (⟨rfl, rfl, rfl, rfl, rfl⟩)
theorem ct_X7_where {r : Nat} (hM : zMs sh R) (hr : r < 5) : zE X mX7_where 0 0 0 [zR 157, zI (r : Int)] [] sh (mN I N S) L R (zEq [zI (S 6 r)] sh (mN I N S) L R) := by
  have s0 := hM.1.1
  refine z_aload0 1 dX7_where_0 rfl ?_
  refine z_iload1 2 dX7_where_1 rfl ?_
  refine z_iconst 3 dX7_where_2 rfl ?_
  refine z_xV2 6 dX7_where_3 lk_X7_where_62 (ct_X7_told (w := 3) hM hr (by decide) rfl) rfl (Nat.le_of_ble_eq_true rfl) (Nat.le_of_ble_eq_true rfl) (by assumption) rfl rfl ?_
  exact z_ireturn dX7_where_6 rfl (⟨rfl, rfl, rfl, rfl, rfl⟩)
theorem ct_X7_isThrough {r : Nat} (hM : zMs sh R) (hr : r < 5) (hS : 0 ≤ S 6 r ∧ S 6 r ≤ 30) : zE X mX7_isThrough 0 0 0 [zR 157, zI (r : Int)] [] sh (mN I N S) L R (zEq [zI (if S 6 r < 8 then 1 else 0)] sh (mN I N S) L R) := by
  have s0 := hM.1.1
  refine z_aload0 1 dX7_isThrough_0 rfl ?_
  refine z_iload1 2 dX7_isThrough_1 rfl ?_
  refine z_xV1 5 dX7_isThrough_2 lk_X7_isThrough_66 (ct_X7_where hM hr) rfl (Nat.le_of_ble_eq_true rfl) (Nat.le_of_ble_eq_true rfl) (by assumption) rfl rfl ?_
  refine z_bipush 7 dX7_isThrough_5 (by decide) rfl ?_
  refine z_icmp_ge 14 10 dX7_isThrough_7 (by decide) rfl (by omega) (by omega) (fun h7 => ?_) (fun h7 => ?_)
  · refine z_iconst 15 dX7_isThrough_14 rfl ?_
    exact z_zreturn dX7_isThrough_15 rfl (by omega) (⟨by first | rw [if_pos (by omega)] | rw [if_neg (by omega)], rfl, rfl, rfl, rfl⟩)
  · refine z_iconst 11 dX7_isThrough_10 rfl ?_
    refine z_goto 15 dX7_isThrough_11 (by decide) ?_
    exact z_zreturn dX7_isThrough_15 rfl (by omega) (⟨by first | rw [if_pos (by omega)] | rw [if_neg (by omega)], rfl, rfl, rfl, rfl⟩)
theorem lp_X7_whoStuck {t : Nat} (hM : zMs sh R) (hr : zSr S) (ht : t < 10) : ∀ (m r : Nat) (x : Int), r + m = (S 0 6).toNat → zE X mX7_whoStuck 0 0 5 [zR 157, zI (t : Int), zI x, zI (r : Int)] [] sh (mN I N S) L R (zEq [zI (mls (S 6) (10 + (t : Int)) m r x)] sh (mN I N S) L R)
  | 0, r, x, h => by
    obtain ⟨⟨s0, s1, s2, s3, s4, s5, s6, s7, s8, s9, s10, s11, s12, s13, s14, s15⟩, r0, r1, r2, r3, r4, r5, r6, r7, r8, r9, r10, r11, r12, r13, r14⟩ := id hM
    have h6 := hr.1
    refine z_iload3 6 dX7_whoStuck_5 rfl ?_
    refine z_aload0 7 dX7_whoStuck_6 rfl ?_
    refine z_getR 10 dX7_whoStuck_7 fl_RX7_7 (by assumption) (by assumption) rfl ?_
    refine z_iconst 11 dX7_whoStuck_10 rfl ?_
    refine z_ialdx 12 (0) dX7_whoStuck_11 (by assumption) (by omega) (by omega) (mN_0 _ _ _) rfl ?_
    refine z_icmp_ge 39 15 dX7_whoStuck_12 (by decide) rfl (by omega) (by omega) (fun h12 => ?_) (fun hz => absurd hz (by omega))
    refine z_iload2 40 dX7_whoStuck_39 rfl ?_
    exact z_ireturn dX7_whoStuck_40 rfl (⟨rfl, rfl, rfl, rfl, rfl⟩)
  | m + 1, r, x, h => by
    obtain ⟨⟨s0, s1, s2, s3, s4, s5, s6, s7, s8, s9, s10, s11, s12, s13, s14, s15⟩, r0, r1, r2, r3, r4, r5, r6, r7, r8, r9, r10, r11, r12, r13, r14⟩ := id hM
    have h6 := hr.1
    have hp := hr.2.2.2.2.2.2 r (by omega)
    refine z_iload3 6 dX7_whoStuck_5 rfl ?_
    refine z_aload0 7 dX7_whoStuck_6 rfl ?_
    refine z_getR 10 dX7_whoStuck_7 fl_RX7_7 (by assumption) (by assumption) rfl ?_
    refine z_iconst 11 dX7_whoStuck_10 rfl ?_
    refine z_ialdx 12 (0) dX7_whoStuck_11 (by assumption) (by omega) (by omega) (mN_0 _ _ _) rfl ?_
    refine z_icmp_ge 39 15 dX7_whoStuck_12 (by decide) rfl (by omega) (by omega) (fun hz => absurd hz (by omega)) (fun h12 => ?_)
    refine z_aload0 16 dX7_whoStuck_15 rfl ?_
    refine z_iload3 17 dX7_whoStuck_16 rfl ?_
    refine z_xV1 20 dX7_whoStuck_17 lk_X7_whoStuck_66 (ct_X7_where hM (by omega)) rfl (Nat.le_of_ble_eq_true rfl) (Nat.le_of_ble_eq_true rfl) (by assumption) rfl rfl ?_
    refine z_bipush 22 dX7_whoStuck_20 (by decide) rfl ?_
    refine z_iload1 23 dX7_whoStuck_22 rfl ?_
    refine z_iadd 24 dX7_whoStuck_23 rfl ?_
    refine z_icmp_ne 31 27 dX7_whoStuck_24 (by decide) rfl (by omega) (by omega) (fun h24 => ?_) (fun h24 => ?_)
    · refine z_iload2 32 dX7_whoStuck_31 rfl ?_
      refine z_istore2 33 dX7_whoStuck_32 (Nat.le_of_ble_eq_true rfl) rfl rfl ?_
      refine z_iinc3 36 dX7_whoStuck_33 (Nat.le_of_ble_eq_true rfl) rfl rfl ?_
      refine z_goto 5 dX7_whoStuck_36 (by decide) ?_
      first | (rw [show mls (S 6) (10 + (t : Int)) (m + 1) r x = mls (S 6) (10 + (t : Int)) m (r + 1) x by rw [mls, if_neg (by omega)]]; exact lp_X7_whoStuck hM hr ht m (r + 1) _ (by omega)) | (rw [show mls (S 6) (10 + (t : Int)) (m + 1) r x = mls (S 6) (10 + (t : Int)) m (r + 1) (r : Int) by rw [mls, if_pos (by omega)]]; exact lp_X7_whoStuck hM hr ht m (r + 1) _ (by omega))
    · refine z_iload3 28 dX7_whoStuck_27 rfl ?_
      refine z_goto 32 dX7_whoStuck_28 (by decide) ?_
      refine z_istore2 33 dX7_whoStuck_32 (Nat.le_of_ble_eq_true rfl) rfl rfl ?_
      refine z_iinc3 36 dX7_whoStuck_33 (Nat.le_of_ble_eq_true rfl) rfl rfl ?_
      refine z_goto 5 dX7_whoStuck_36 (by decide) ?_
      first | (rw [show mls (S 6) (10 + (t : Int)) (m + 1) r x = mls (S 6) (10 + (t : Int)) m (r + 1) x by rw [mls, if_neg (by omega)]]; exact lp_X7_whoStuck hM hr ht m (r + 1) _ (by omega)) | (rw [show mls (S 6) (10 + (t : Int)) (m + 1) r x = mls (S 6) (10 + (t : Int)) m (r + 1) (r : Int) by rw [mls, if_pos (by omega)]]; exact lp_X7_whoStuck hM hr ht m (r + 1) _ (by omega))
theorem ct_X7_whoStuck {t : Nat} (hM : zMs sh R) (hr : zSr S) (ht : t < 10) : zE X mX7_whoStuck 0 0 0 [zR 157, zI (t : Int), zX, zX] [] sh (mN I N S) L R (zEq [zI (mwho S t)] sh (mN I N S) L R) := by
  refine z_bipush 2 dX7_whoStuck_0 (by decide) rfl ?_
  refine z_istore2 3 dX7_whoStuck_2 (Nat.le_of_ble_eq_true rfl) rfl rfl ?_
  refine z_iconst 4 dX7_whoStuck_3 rfl ?_
  refine z_istore3 5 dX7_whoStuck_4 (Nat.le_of_ble_eq_true rfl) rfl rfl ?_
  exact lp_X7_whoStuck hM hr ht (S 0 6).toNat 0 (-4) (by omega)
theorem ct_X7_gain {r t : Nat} {v : Int} (hM : zMs sh R) (hr : zSr S) (h5 : r < 5) (ht : t < 10) (hv : -2147483648 ≤ v ∧ v ≤ 2147483647) : zE X mX7_gain 0 0 0 [zR 157, zI (r : Int), zI (t : Int), zI v, zX, zX] [] sh (mN I N S) L R (zEq [zI (sgn S r t v)] sh (mN I N S) L R) := by
  obtain ⟨⟨s0, s1, s2, s3, s4, s5, s6, s7, s8, s9, s10, s11, s12, s13, s14, s15⟩, r0, r1, r2, r3, r4, r5, r6, r7, r8, r9, r10, r11, r12, r13, r14⟩ := id hM
  have g3 := hr.2.2.2.1 r h5
  have g4 := hr.2.2.2.2.1 r h5
  have g2 := hr.2.2.1 t ht
  refine z_iconst 1 dX7_gain_0 rfl ?_
  refine z_aload0 2 dX7_gain_1 rfl ?_
  refine z_iload1 3 dX7_gain_2 rfl ?_
  refine z_iconst 4 dX7_gain_3 rfl ?_
  refine z_xV2 7 dX7_gain_4 lk_X7_gain_62 (ct_X7_told (w := 1) (k := 4) hM h5 (by decide) rfl) rfl (Nat.le_of_ble_eq_true rfl) (Nat.le_of_ble_eq_true rfl) (by assumption) rfl rfl ?_
  refine z_iconst 8 dX7_gain_7 rfl ?_
  refine z_idiv 9 dX7_gain_8 (by omega) (by omega) rfl ?_
  refine z_iadd 10 dX7_gain_9 rfl ?_
  refine z_istore4 12 dX7_gain_10 (Nat.le_of_ble_eq_true rfl) rfl rfl ?_
  refine z_iload3 13 dX7_gain_12 rfl ?_
  refine z_bipush 15 dX7_gain_13 (by decide) rfl ?_
  refine z_icmp_lt 22 18 dX7_gain_15 (by decide) rfl (by omega) (by omega) (fun h15 => ?_) (fun h15 => ?_)
  · refine z_iconst 23 dX7_gain_22 rfl ?_
    refine z_istore5 25 dX7_gain_23 (Nat.le_of_ble_eq_true rfl) rfl rfl ?_
    refine z_aload0 26 dX7_gain_25 rfl ?_
    refine z_iload1 27 dX7_gain_26 rfl ?_
    refine z_iconst 28 dX7_gain_27 rfl ?_
    refine z_xV2 31 dX7_gain_28 lk_X7_gain_62 (ct_X7_told (w := 0) (k := 3) hM h5 (by decide) rfl) rfl (Nat.le_of_ble_eq_true rfl) (Nat.le_of_ble_eq_true rfl) (by assumption) rfl rfl ?_
    rcases (by omega : S 3 r = 0 ∨ S 3 r = 1 ∨ S 3 r = 2 ∨ S 3 r = 3 ∨ S 3 r = 4) with hk | hk | hk | hk | hk
    · first | rw [hk] | skip
      refine z_swIn 60 (off := 29) dX7_gain_31 (by omega) (by omega) (by decide) (by decide) ?_
      refine z_iconst 61 dX7_gain_60 rfl ?_
      exact z_ireturn dX7_gain_61 rfl (⟨by unfold sgn; rw [hk]; rfl, rfl, rfl, rfl, rfl⟩)
    · first | rw [hk] | skip
      refine z_swIn 62 (off := 31) dX7_gain_31 (by omega) (by omega) (by decide) (by decide) ?_
      refine z_iload4 64 dX7_gain_62 rfl ?_
      exact z_ireturn dX7_gain_64 rfl (⟨by unfold sgn; rw [if_pos hk]; rfl, rfl, rfl, rfl, rfl⟩)
    · first | rw [hk] | skip
      refine z_swIn 65 (off := 34) dX7_gain_31 (by omega) (by omega) (by decide) (by decide) ?_
      refine z_iload5 67 dX7_gain_65 rfl ?_
      exact z_ireturn dX7_gain_67 rfl (⟨by unfold sgn cgo; rw [if_neg (by omega), if_pos hk]; first | rw [if_pos (by omega)] | rw [if_neg (by omega)], rfl, rfl, rfl, rfl⟩)
    · first | rw [hk] | skip
      refine z_swIn 68 (off := 37) dX7_gain_31 (by omega) (by omega) (by decide) (by decide) ?_
      refine z_iload2 69 dX7_gain_68 rfl ?_
      refine z_iconst 70 dX7_gain_69 rfl ?_
      refine z_irem 71 dX7_gain_70 (by omega) (by omega) rfl ?_
      refine z_if_ne 79 74 dX7_gain_71 (by decide) rfl (by omega) (fun h71 => ?_) (fun h71 => ?_)
      · refine z_iload4 81 dX7_gain_79 rfl ?_
        refine z_iconst 82 dX7_gain_81 rfl ?_
        refine z_idiv 83 dX7_gain_82 (by omega) (by omega) rfl ?_
        exact z_ireturn dX7_gain_83 rfl (⟨by unfold sgn; rw [if_neg (by omega), if_neg (by omega), if_pos hk]; first | (rw [if_pos (by omega)]; rfl) | (rw [if_neg (by omega)]; rfl), rfl, rfl, rfl, rfl⟩)
      · refine z_iload4 76 dX7_gain_74 rfl ?_
        refine z_goto 83 dX7_gain_76 (by decide) ?_
        exact z_ireturn dX7_gain_83 rfl (⟨by unfold sgn; rw [if_neg (by omega), if_neg (by omega), if_pos hk]; first | (rw [if_pos (by omega)]; rfl) | (rw [if_neg (by omega)]; rfl), rfl, rfl, rfl, rfl⟩)
    · first | rw [hk] | skip
      refine z_swOut 84 dX7_gain_31 (by omega) (by omega) (by decide) ?_
      refine z_iload5 86 dX7_gain_84 rfl ?_
      refine z_iconst 87 dX7_gain_86 rfl ?_
      refine z_aload0 88 dX7_gain_87 rfl ?_
      refine z_getR 91 dX7_gain_88 fl_RX7_7 (by assumption) (by assumption) rfl ?_
      refine z_bipush 93 dX7_gain_91 (by decide) rfl ?_
      refine z_iload2 94 dX7_gain_93 rfl ?_
      refine z_iadd 95 dX7_gain_94 rfl ?_
      refine z_ialdx 96 (13 + t) dX7_gain_95 (by assumption) (by omega) (by omega) (mN_b _ _ _ ht) rfl ?_
      refine z_imul 97 dX7_gain_96 rfl ?_
      refine z_iadd 98 dX7_gain_97 rfl ?_
      exact z_ireturn dX7_gain_98 rfl (⟨by unfold sgn cgo; rw [if_neg (by omega), if_neg (by omega), if_neg (by omega), if_pos hk]; first | rw [if_pos (by omega)] | rw [if_neg (by omega)], rfl, rfl, rfl, rfl⟩)
  · refine z_iconst 19 dX7_gain_18 rfl ?_
    refine z_goto 23 dX7_gain_19 (by decide) ?_
    refine z_istore5 25 dX7_gain_23 (Nat.le_of_ble_eq_true rfl) rfl rfl ?_
    refine z_aload0 26 dX7_gain_25 rfl ?_
    refine z_iload1 27 dX7_gain_26 rfl ?_
    refine z_iconst 28 dX7_gain_27 rfl ?_
    refine z_xV2 31 dX7_gain_28 lk_X7_gain_62 (ct_X7_told (w := 0) (k := 3) hM h5 (by decide) rfl) rfl (Nat.le_of_ble_eq_true rfl) (Nat.le_of_ble_eq_true rfl) (by assumption) rfl rfl ?_
    rcases (by omega : S 3 r = 0 ∨ S 3 r = 1 ∨ S 3 r = 2 ∨ S 3 r = 3 ∨ S 3 r = 4) with hk | hk | hk | hk | hk
    · first | rw [hk] | skip
      refine z_swIn 60 (off := 29) dX7_gain_31 (by omega) (by omega) (by decide) (by decide) ?_
      refine z_iconst 61 dX7_gain_60 rfl ?_
      exact z_ireturn dX7_gain_61 rfl (⟨by unfold sgn; rw [hk]; rfl, rfl, rfl, rfl, rfl⟩)
    · first | rw [hk] | skip
      refine z_swIn 62 (off := 31) dX7_gain_31 (by omega) (by omega) (by decide) (by decide) ?_
      refine z_iload4 64 dX7_gain_62 rfl ?_
      exact z_ireturn dX7_gain_64 rfl (⟨by unfold sgn; rw [if_pos hk]; rfl, rfl, rfl, rfl, rfl⟩)
    · first | rw [hk] | skip
      refine z_swIn 65 (off := 34) dX7_gain_31 (by omega) (by omega) (by decide) (by decide) ?_
      refine z_iload5 67 dX7_gain_65 rfl ?_
      exact z_ireturn dX7_gain_67 rfl (⟨by unfold sgn cgo; rw [if_neg (by omega), if_pos hk]; first | rw [if_pos (by omega)] | rw [if_neg (by omega)], rfl, rfl, rfl, rfl⟩)
    · first | rw [hk] | skip
      refine z_swIn 68 (off := 37) dX7_gain_31 (by omega) (by omega) (by decide) (by decide) ?_
      refine z_iload2 69 dX7_gain_68 rfl ?_
      refine z_iconst 70 dX7_gain_69 rfl ?_
      refine z_irem 71 dX7_gain_70 (by omega) (by omega) rfl ?_
      refine z_if_ne 79 74 dX7_gain_71 (by decide) rfl (by omega) (fun h71 => ?_) (fun h71 => ?_)
      · refine z_iload4 81 dX7_gain_79 rfl ?_
        refine z_iconst 82 dX7_gain_81 rfl ?_
        refine z_idiv 83 dX7_gain_82 (by omega) (by omega) rfl ?_
        exact z_ireturn dX7_gain_83 rfl (⟨by unfold sgn; rw [if_neg (by omega), if_neg (by omega), if_pos hk]; first | (rw [if_pos (by omega)]; rfl) | (rw [if_neg (by omega)]; rfl), rfl, rfl, rfl, rfl⟩)
      · refine z_iload4 76 dX7_gain_74 rfl ?_
        refine z_goto 83 dX7_gain_76 (by decide) ?_
        exact z_ireturn dX7_gain_83 rfl (⟨by unfold sgn; rw [if_neg (by omega), if_neg (by omega), if_pos hk]; first | (rw [if_pos (by omega)]; rfl) | (rw [if_neg (by omega)]; rfl), rfl, rfl, rfl, rfl⟩)
    · first | rw [hk] | skip
      refine z_swOut 84 dX7_gain_31 (by omega) (by omega) (by decide) ?_
      refine z_iload5 86 dX7_gain_84 rfl ?_
      refine z_iconst 87 dX7_gain_86 rfl ?_
      refine z_aload0 88 dX7_gain_87 rfl ?_
      refine z_getR 91 dX7_gain_88 fl_RX7_7 (by assumption) (by assumption) rfl ?_
      refine z_bipush 93 dX7_gain_91 (by decide) rfl ?_
      refine z_iload2 94 dX7_gain_93 rfl ?_
      refine z_iadd 95 dX7_gain_94 rfl ?_
      refine z_ialdx 96 (13 + t) dX7_gain_95 (by assumption) (by omega) (by omega) (mN_b _ _ _ ht) rfl ?_
      refine z_imul 97 dX7_gain_96 rfl ?_
      refine z_iadd 98 dX7_gain_97 rfl ?_
      exact z_ireturn dX7_gain_98 rfl (⟨by unfold sgn cgo; rw [if_neg (by omega), if_neg (by omega), if_neg (by omega), if_pos hk]; first | rw [if_pos (by omega)] | rw [if_neg (by omega)], rfl, rfl, rfl, rfl⟩)
end MODA
