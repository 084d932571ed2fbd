/-! ===== an Order at place o: its object (0 numbers, 1 size), its row of 5 behind it ===== -/
def zOr (sh : zH) (R : zR2) (o : Nat) : Prop := sh[o]? = some (1, 2) ∧ sh[o + 1]? = some (20, 5) ∧ R o 0 = some (o + 1)
def zod (I : zI2) (o : Nat) (f : Nat → Int) (n : Int) : zI2 := zup (zrow I (o + 1) f) o 1 n
theorem zod_self (I : zI2) (o : Nat) : zod I o (I (o + 1)) (I o 1) = I := by
  unfold zod
  rw [zrow_self]
  funext a c
  unfold zup
  split
  · rename_i h; rw [h.1, h.2]
  · rfl
theorem zod_n (I : zI2) (o : Nat) (f : Nat → Int) (n : Int) : zod I o f n o 1 = n := zup_at _ _ _ _
theorem zod_fR (I : zI2) (o : Nat) (f : Nat → Int) (n : Int) : zod I o f n (o + 1) = f := by
  unfold zod
  rw [zup_row _ _ (by omega)]
  exact funext (zrow_at I (o + 1) f)
theorem zod_f (I : zI2) (o : Nat) (f : Nat → Int) (n : Int) (j : Nat) : zod I o f n (o + 1) j = f j := by rw [zod_fR]
theorem zod_oR (I : zI2) (o : Nat) (f : Nat → Int) (n : Int) {a : Nat} (ha : a < o ∨ o + 2 ≤ a) : zod I o f n a = I a := by
  unfold zod
  rw [zup_row _ _ (by omega)]
  funext c
  simp only [zrow, if_neg (show ¬ a = o + 1 by omega)]
theorem zod_o (I : zI2) (o : Nat) (f : Nat → Int) (n : Int) {a : Nat} (ha : a < o ∨ o + 2 ≤ a) (c : Nat) : zod I o f n a c = I a c := by rw [zod_oR I o f n ha]
theorem zod_upn (I : zI2) (o : Nat) (f : Nat → Int) (n n' : Int) : zup (zod I o f n) o 1 n' = zod I o f n' := by
  funext a c
  unfold zod zup
  split <;> rfl
theorem zod_row (I : zI2) (o : Nat) (f g : Nat → Int) (n : Int) : zrow (zod I o f n) (o + 1) g = zod I o g n := by
  funext a c
  unfold zod zup zrow
  by_cases h : a = o + 1
  · simp [h]
  · simp [h]
theorem zod_upf (I : zI2) (o : Nat) (f : Nat → Int) (n : Int) (j : Nat) (v : Int) : zup (zod I o f n) (o + 1) j v = zod I o (fun q => if q = j then v else f q) n := by
  funext a c
  unfold zod zup zrow
  by_cases h : a = o + 1
  · subst h
    by_cases h2 : c = j <;> simp [h2]
  · simp [h]
def obg (P : Nat → Int) : Nat → Nat → (Nat → Int) → Nat → (Nat → Int) × Nat
  | 0, _, f, n => (f, n)
  | m + 1, r, f, n => if P r = 30 then obg P m (r + 1) (fun q => if q = n then (r : Int) else f q) (n + 1) else obg P m (r + 1) f n
def onum (f : Nat → Int) (n k : Int) : Int := if 0 ≤ k ∧ k ≤ n - 1 then f k.toNat else -4
def swp (f : Nat → Int) (i j : Nat) : Nat → Int := fun q => if q = j then f i else if q = i then f j else f q
def labl (f : Nat → Int) (i : Nat) : Nat → Nat → Nat → Nat
  | 0, _, last => last
  | m + 1, j, last => labl f i m (j + 1) (if f i < f j then j else last)
theorem labl_r (f : Nat → Int) (i : Nat) : ∀ (m j last n : Nat), j + m = n → last < n → labl f i m j last < n
  | 0, j, last, n, h, hl => hl
  | m + 1, j, last, n, h, hl => by
    unfold labl
    exact labl_r f i m (j + 1) _ n (by omega) (by split <;> omega)
def trd : Nat → Nat → Nat → (Nat → Int) → (Nat → Int)
  | 0, _, _, f => f
  | m + 1, i, t, f => if i < t then trd m (i + 1) (t - 1) (swp f i t) else f
def advf (f : Nat → Int) (n : Nat) : Nat → Option (Nat → Int)
  | 0 => none
  | k + 1 => if f k < f (k + 1) then some (trd 5 (k + 1) (n - 1) (swp f k (labl f k (n - (k + 2)) (k + 2) (k + 1)))) else advf f n k
def adr (o : Option (Nat → Int)) : Int := match o with
  | none => 0
  | some _ => 1
section ORDER
variable {X : zXs} {sh : zH} {I L : zI2} {R : zR2} {o : Nat}
theorem lp_X1_begin {b : Nat} (hs : zOr sh R o) (hb : zSl sh R b) (hr : 0 ≤ I b 6 ∧ I b 6 ≤ 5) (hp : ∀ r, r < 5 → 0 ≤ I (b + 6) r ∧ I (b + 6) r ≤ 30) (hob : o + 2 ≤ b ∨ b + 7 ≤ o) : ∀ (m r : Nat) (f : Nat → Int) (n : Nat), r + m = (I b 6).toNat → n ≤ r → zE X mX1_begin 0 0 7 [zR o, zR b, zI (r : Int)] [] sh (zod I o f n) L R (zEq [] sh (zod I o (obg (I (b + 6)) m r f n).1 (obg (I (b + 6)) m r f n).2) L R)
  | 0, r, f, n, h, hn => by
    obtain ⟨s0, s1, r0⟩ := id hs
    have t0 := hb.1.1
    refine z_iload2 8 dX1_begin_7 rfl ?_
    refine z_aload1 9 dX1_begin_8 rfl ?_
    refine z_getIx 12 dX1_begin_9 fl_RX1_19 (by assumption) (zod_o _ _ _ _ (by omega) _) rfl ?_
    refine z_icmp_ge 64 15 dX1_begin_12 (by decide) rfl (by omega) (by omega) (fun h12 => ?_) (fun hz => absurd hz (by omega))
    exact z_return dX1_begin_64 rfl (⟨rfl, rfl, rfl, rfl, rfl⟩)
  | m + 1, r, f, n, h, hn => by
    obtain ⟨s0, s1, r0⟩ := id hs
    have t0 := hb.1.1
    have t6 := hb.1.2.2.2.2.2.2
    have q5 := hb.2.2.2.2.2.2
    have hq := hp r (by omega)
    refine z_iload2 8 dX1_begin_7 rfl ?_
    refine z_aload1 9 dX1_begin_8 rfl ?_
    refine z_getIx 12 dX1_begin_9 fl_RX1_19 (by assumption) (zod_o _ _ _ _ (by omega) _) rfl ?_
    refine z_icmp_ge 64 15 dX1_begin_12 (by decide) rfl (by omega) (by omega) (fun hz => absurd hz (by omega)) (fun h12 => ?_)
    refine z_aload0 16 dX1_begin_15 rfl ?_
    refine z_getIx 19 dX1_begin_16 fl_RX1_15 (by assumption) (zod_n _ _ _ _) rfl ?_
    refine z_aload0 20 dX1_begin_19 rfl ?_
    refine z_getR 23 dX1_begin_20 fl_RX1_9 (by assumption) (by assumption) rfl ?_
    refine z_alen 24 dX1_begin_23 (by assumption) (by decide) rfl ?_
    refine z_icmp_ge 64 27 dX1_begin_24 (by decide) rfl (by omega) (by omega) (fun hz => absurd hz (by omega)) (fun h24 => ?_)
    refine z_aload1 28 dX1_begin_27 rfl ?_
    refine z_getR 31 dX1_begin_28 fl_RX1_24 (by assumption) (by assumption) rfl ?_
    refine z_iload2 32 dX1_begin_31 rfl ?_
    refine z_ialdx 33 (r) dX1_begin_32 (by assumption) (by omega) (by omega) (zod_o _ _ _ _ (by omega) _) rfl ?_
    refine z_bipush 35 dX1_begin_33 (by decide) rfl ?_
    refine z_icmp_ne 58 38 dX1_begin_35 (by decide) rfl (by omega) (by omega) (fun h35 => ?_) (fun h35 => ?_)
    · refine z_iinc2 61 dX1_begin_58 (Nat.le_of_ble_eq_true rfl) rfl rfl ?_
      refine z_goto 7 dX1_begin_61 (by decide) ?_
      first | (rw [show obg (I (b + 6)) (m + 1) r f n = obg (I (b + 6)) m (r + 1) (fun q => if q = n then (r : Int) else f q) (n + 1) by rw [obg, if_pos h35]]; exact lp_X1_begin hs hb hr hp hob m (r + 1) _ (n + 1) (by omega) (by omega)) | (rw [show obg (I (b + 6)) (m + 1) r f n = obg (I (b + 6)) m (r + 1) f n by rw [obg, if_neg h35]]; exact lp_X1_begin hs hb hr hp hob m (r + 1) _ n (by omega) (by omega))
    · refine z_aload0 39 dX1_begin_38 rfl ?_
      refine z_getR 42 dX1_begin_39 fl_RX1_9 (by assumption) (by assumption) rfl ?_
      refine z_aload0 43 dX1_begin_42 rfl ?_
      refine z_getIx 46 dX1_begin_43 fl_RX1_15 (by assumption) (zod_n _ _ _ _) rfl ?_
      refine z_iload2 47 dX1_begin_46 rfl ?_
      refine z_iastx 48 (n) dX1_begin_47 (by assumption) (by omega) (by omega) (zod_upf _ _ _ _ _ _) rfl ?_
      refine z_aload0 49 dX1_begin_48 rfl ?_
      refine z_dup 50 dX1_begin_49 rfl rfl ?_
      refine z_getIx 53 dX1_begin_50 fl_RX1_15 (by assumption) (zod_n _ _ _ _) rfl ?_
      refine z_iconst 54 dX1_begin_53 rfl ?_
      refine z_iadd 55 dX1_begin_54 rfl ?_
      refine z_putIx 58 dX1_begin_55 fp_RX1_15 (by assumption) (zod_upn _ _ _ _ _) rfl ?_
      refine z_iinc2 61 dX1_begin_58 (Nat.le_of_ble_eq_true rfl) rfl rfl ?_
      refine z_goto 7 dX1_begin_61 (by decide) ?_
      first | (rw [show obg (I (b + 6)) (m + 1) r f n = obg (I (b + 6)) m (r + 1) (fun q => if q = n then (r : Int) else f q) (n + 1) by rw [obg, if_pos h35]]; exact lp_X1_begin hs hb hr hp hob m (r + 1) _ (n + 1) (by omega) (by omega)) | (rw [show obg (I (b + 6)) (m + 1) r f n = obg (I (b + 6)) m (r + 1) f n by rw [obg, if_neg h35]]; exact lp_X1_begin hs hb hr hp hob m (r + 1) _ n (by omega) (by omega))
theorem ct_X1_begin {b : Nat} {f : Nat → Int} {n : Int} (hs : zOr sh R o) (hb : zSl sh R b) (hr : 0 ≤ I b 6 ∧ I b 6 ≤ 5) (hp : ∀ r, r < 5 → 0 ≤ I (b + 6) r ∧ I (b + 6) r ≤ 30) (hob : o + 2 ≤ b ∨ b + 7 ≤ o) : zE X mX1_begin 0 0 0 [zR o, zR b, zX] [] sh (zod I o f n) L R (zEq [] sh (zod I o (obg (I (b + 6)) (I b 6).toNat 0 f 0).1 (obg (I (b + 6)) (I b 6).toNat 0 f 0).2) L R) := by
  obtain ⟨s0, s1, r0⟩ := id hs
  refine z_aload0 1 dX1_begin_0 rfl ?_
  refine z_iconst 2 dX1_begin_1 rfl ?_
  refine z_putIx 5 dX1_begin_2 fp_RX1_15 (by assumption) (zod_upn _ _ _ _ _) rfl ?_
  refine z_iconst 6 dX1_begin_5 rfl ?_
  refine z_istore2 7 dX1_begin_6 (Nat.le_of_ble_eq_true rfl) rfl rfl ?_
  exact lp_X1_begin hs hb hr hp hob (I b 6).toNat 0 f 0 (by omega) (by omega)
theorem ct_X1_numberAt {f : Nat → Int} {n : Nat} {k : Int} (hs : zOr sh R o) (hn : n ≤ 5) (hk : -2147483648 ≤ k ∧ k ≤ 2147483647) : zE X mX1_numberAt 0 0 0 [zR o, zI k] [] sh (zod I o f n) L R (zEq [zI (onum f n k)] sh (zod I o f n) L R) := by
  obtain ⟨s0, s1, r0⟩ := id hs
  have z1 := zwi_r k 0 ((n : Int) - 1)
  refine z_iload1 1 dX1_numberAt_0 rfl ?_
  refine z_iconst 2 dX1_numberAt_1 rfl ?_
  refine z_aload0 3 dX1_numberAt_2 rfl ?_
  refine z_getIx 6 dX1_numberAt_3 fl_RX1_15 (by assumption) (zod_n _ _ _ _) rfl ?_
  refine z_iconst 7 dX1_numberAt_6 rfl ?_
  refine z_isub 8 dX1_numberAt_7 rfl ?_
  refine z_xSN3 11 dX1_numberAt_8 lk_X1_numberAt_27 (ct_X6_within (by omega) (by omega) (by omega)) rfl (Nat.le_of_ble_eq_true rfl) (Nat.le_of_ble_eq_true rfl) rfl ?_
  refine z_if_eq 23 14 dX1_numberAt_11 (by decide) rfl (by omega) (fun h11 => ?_) (fun h11 => ?_)
  · refine z_bipush 25 dX1_numberAt_23 (by decide) rfl ?_
    exact z_ireturn dX1_numberAt_25 rfl (⟨by unfold onum; first | rw [if_neg (zwi_eq0 h11)] | rw [if_pos h12], rfl, rfl, rfl, rfl⟩)
  · have h12 := zwi_ne0 h11
    refine z_aload0 15 dX1_numberAt_14 rfl ?_
    refine z_getR 18 dX1_numberAt_15 fl_RX1_9 (by assumption) (by assumption) rfl ?_
    refine z_iload1 19 dX1_numberAt_18 rfl ?_
    refine z_ialdx 20 (k.toNat) dX1_numberAt_19 (by assumption) (by omega) (by omega) (zod_f _ _ _ _ _) rfl ?_
    refine z_goto 25 dX1_numberAt_20 (by decide) ?_
    exact z_ireturn dX1_numberAt_25 rfl (⟨by unfold onum; first | rw [if_neg (zwi_eq0 h11)] | rw [if_pos h12], rfl, rfl, rfl, rfl⟩)
theorem ct_X1_become {p : Nat} {f : Nat → Int} {n : Int} (hs : zOr sh R o) (hp : zOr sh R p) (hop : o + 2 ≤ p ∨ p + 2 ≤ o) : zE X mX1_become 0 0 0 [zR o, zR p] [] sh (zod I o f n) L R (zEq [] sh (zod I o (zcp (I (p + 1)) f 0 0 5) (I p 1)) L R) := by
  obtain ⟨s0, s1, r0⟩ := id hs
  obtain ⟨t0, t1, q0⟩ := id hp
  have hc := ct_X6_copyRow (X := X) (I := zod I o f n) (L := L) (R := R) t1 s1 (by omega)
  rw [zod_oR _ _ _ _ (by omega), zod_fR, zod_row] at hc
  refine z_aload1 1 dX1_become_0 rfl ?_
  refine z_getR 4 dX1_become_1 fl_RX1_9 (by assumption) (by assumption) rfl ?_
  refine z_aload0 5 dX1_become_4 rfl ?_
  refine z_getR 8 dX1_become_5 fl_RX1_9 (by assumption) (by assumption) rfl ?_
  refine z_xSNv2 11 dX1_become_8 lk_X1_become_31 (hc) rfl (Nat.le_of_ble_eq_true rfl) (Nat.le_of_ble_eq_true rfl) rfl ?_
  refine z_aload0 12 dX1_become_11 rfl ?_
  refine z_aload1 13 dX1_become_12 rfl ?_
  refine z_getIx 16 dX1_become_13 fl_RX1_15 (by assumption) (zod_o _ _ _ _ (by omega) _) rfl ?_
  refine z_putIx 19 dX1_become_16 fp_RX1_15 (by assumption) (zod_upn _ _ _ _ _) rfl ?_
  exact z_return dX1_become_19 rfl (⟨rfl, rfl, rfl, rfl, rfl⟩)
theorem ct_X1_swap {f : Nat → Int} {n : Int} {i j : Nat} (hs : zOr sh R o) (hi : i < 5) (hj : j < 5) : zE X mX1_swap 0 0 0 [zR o, zI (i : Int), zI (j : Int), zX] [] sh (zod I o f n) L R (zEq [] sh (zod I o (swp f i j) n) L R) := by
  obtain ⟨s0, s1, r0⟩ := id hs
  refine z_aload0 1 dX1_swap_0 rfl ?_
  refine z_getR 4 dX1_swap_1 fl_RX1_9 (by assumption) (by assumption) rfl ?_
  refine z_iload1 5 dX1_swap_4 rfl ?_
  refine z_ialdx 6 (i) dX1_swap_5 (by assumption) (by omega) (by omega) (zod_f _ _ _ _ _) rfl ?_
  refine z_istore3 7 dX1_swap_6 (Nat.le_of_ble_eq_true rfl) rfl rfl ?_
  refine z_aload0 8 dX1_swap_7 rfl ?_
  refine z_getR 11 dX1_swap_8 fl_RX1_9 (by assumption) (by assumption) rfl ?_
  refine z_iload1 12 dX1_swap_11 rfl ?_
  refine z_aload0 13 dX1_swap_12 rfl ?_
  refine z_getR 16 dX1_swap_13 fl_RX1_9 (by assumption) (by assumption) rfl ?_
  refine z_iload2 17 dX1_swap_16 rfl ?_
  refine z_ialdx 18 (j) dX1_swap_17 (by assumption) (by omega) (by omega) (zod_f _ _ _ _ _) rfl ?_
  refine z_iastx 19 (i) dX1_swap_18 (by assumption) (by omega) (by omega) (zod_upf _ _ _ _ _ _) rfl ?_
  refine z_aload0 20 dX1_swap_19 rfl ?_
  refine z_getR 23 dX1_swap_20 fl_RX1_9 (by assumption) (by assumption) rfl ?_
  refine z_iload2 24 dX1_swap_23 rfl ?_
  refine z_iload3 25 dX1_swap_24 rfl ?_
  refine z_iastx 26 (j) dX1_swap_25 (by assumption) (by omega) (by omega) (zod_upf _ _ _ _ _ _) rfl ?_
  exact z_return dX1_swap_26 rfl (⟨rfl, rfl, rfl, rfl, rfl⟩)
theorem lp_X1_lastAbove {f : Nat → Int} {n i : Nat} (hs : zOr sh R o) (hn : n ≤ 5) (hi : i < 5) (hf : ∀ q, q < 5 → 0 ≤ f q ∧ f q ≤ 4) : ∀ (m j last : Nat), j + m = n → zE X mX1_lastAbove 0 0 8 [zR o, zI (i : Int), zI (last : Int), zI (j : Int)] [] sh (zod I o f n) L R (zEq [zI (labl f i m j last : Nat)] sh (zod I o f n) L R)
  | 0, j, last, h => by
    obtain ⟨s0, s1, r0⟩ := id hs
    refine z_iload3 9 dX1_lastAbove_8 rfl ?_
    refine z_aload0 10 dX1_lastAbove_9 rfl ?_
    refine z_getIx 13 dX1_lastAbove_10 fl_RX1_15 (by assumption) (zod_n _ _ _ _) rfl ?_
    refine z_icmp_ge 39 16 dX1_lastAbove_13 (by decide) rfl (by omega) (by omega) (fun h13 => ?_) (fun hz => absurd hz (by omega))
    refine z_iload2 40 dX1_lastAbove_39 rfl ?_
    exact z_ireturn dX1_lastAbove_40 rfl (⟨rfl, rfl, rfl, rfl, rfl⟩)
  | m + 1, j, last, h => by
    obtain ⟨s0, s1, r0⟩ := id hs
    have g1 := hf i hi
    have g2 := hf j (by omega)
    refine z_iload3 9 dX1_lastAbove_8 rfl ?_
    refine z_aload0 10 dX1_lastAbove_9 rfl ?_
    refine z_getIx 13 dX1_lastAbove_10 fl_RX1_15 (by assumption) (zod_n _ _ _ _) rfl ?_
    refine z_icmp_ge 39 16 dX1_lastAbove_13 (by decide) rfl (by omega) (by omega) (fun hz => absurd hz (by omega)) (fun h13 => ?_)
    refine z_aload0 17 dX1_lastAbove_16 rfl ?_
    refine z_getR 20 dX1_lastAbove_17 fl_RX1_9 (by assumption) (by assumption) rfl ?_
    refine z_iload3 21 dX1_lastAbove_20 rfl ?_
    refine z_ialdx 22 (j) dX1_lastAbove_21 (by assumption) (by omega) (by omega) (zod_f _ _ _ _ _) rfl ?_
    refine z_aload0 23 dX1_lastAbove_22 rfl ?_
    refine z_getR 26 dX1_lastAbove_23 fl_RX1_9 (by assumption) (by assumption) rfl ?_
    refine z_iload1 27 dX1_lastAbove_26 rfl ?_
    refine z_ialdx 28 (i) dX1_lastAbove_27 (by assumption) (by omega) (by omega) (zod_f _ _ _ _ _) rfl ?_
    refine z_icmp_le 33 31 dX1_lastAbove_28 (by decide) rfl (by omega) (by omega) (fun h28 => ?_) (fun h28 => ?_)
    · refine z_iinc3 36 dX1_lastAbove_33 (Nat.le_of_ble_eq_true rfl) rfl rfl ?_
      refine z_goto 8 dX1_lastAbove_36 (by decide) ?_
      first | rw [show labl f i (m + 1) j last = labl f i m (j + 1) j by rw [labl, if_pos (by omega)]] | rw [show labl f i (m + 1) j last = labl f i m (j + 1) last by rw [labl, if_neg (by omega)]]
      exact lp_X1_lastAbove hs hn hi hf m (j + 1) _ (by omega)
    · refine z_iload3 32 dX1_lastAbove_31 rfl ?_
      refine z_istore2 33 dX1_lastAbove_32 (Nat.le_of_ble_eq_true rfl) rfl rfl ?_
      refine z_iinc3 36 dX1_lastAbove_33 (Nat.le_of_ble_eq_true rfl) rfl rfl ?_
      refine z_goto 8 dX1_lastAbove_36 (by decide) ?_
      first | rw [show labl f i (m + 1) j last = labl f i m (j + 1) j by rw [labl, if_pos (by omega)]] | rw [show labl f i (m + 1) j last = labl f i m (j + 1) last by rw [labl, if_neg (by omega)]]
      exact lp_X1_lastAbove hs hn hi hf m (j + 1) _ (by omega)
theorem ct_X1_lastAbove {f : Nat → Int} {n i : Nat} (hs : zOr sh R o) (hn : n ≤ 5) (hi : i + 1 < n) (hf : ∀ q, q < 5 → 0 ≤ f q ∧ f q ≤ 4) : zE X mX1_lastAbove 0 0 0 [zR o, zI (i : Int), zX, zX] [] sh (zod I o f n) L R (zEq [zI (labl f i (n - (i + 2)) (i + 2) (i + 1) : Nat)] sh (zod I o f n) L R) := by
  refine z_iload1 1 dX1_lastAbove_0 rfl ?_
  refine z_iconst 2 dX1_lastAbove_1 rfl ?_
  refine z_iadd 3 dX1_lastAbove_2 rfl ?_
  refine z_istore2 4 dX1_lastAbove_3 (Nat.le_of_ble_eq_true rfl) rfl rfl ?_
  refine z_iload1 5 dX1_lastAbove_4 rfl ?_
  refine z_iconst 6 dX1_lastAbove_5 rfl ?_
  refine z_iadd 7 dX1_lastAbove_6 rfl ?_
  refine z_istore3 8 dX1_lastAbove_7 (Nat.le_of_ble_eq_true rfl) rfl rfl ?_
  exact lp_X1_lastAbove hs hn (by omega) hf (n - (i + 2)) (i + 2) (i + 1) (by omega)
theorem lp_X1_turnRound {n i0 : Nat} (hs : zOr sh R o) : ∀ (m i t : Nat) (x : Int) (f : Nat → Int), t ≤ i + m → x = (t : Int) → t < 5 → i ≤ 100 → zE X mX1_turnRound 0 0 9 [zR o, zI (i0 : Int), zI x, zI (i : Int)] [] sh (zod I o f n) L R (zEq [] sh (zod I o (trd m i t f) n) L R)
  | 0, i, t, x, f, h, hx, ht, hi => by
    subst hx
    refine z_iload3 10 dX1_turnRound_9 rfl ?_
    refine z_iload2 11 dX1_turnRound_10 rfl ?_
    refine z_icmp_ge 29 14 dX1_turnRound_11 (by decide) rfl (by omega) (by omega) (fun h11 => ?_) (fun hz => absurd hz (by omega))
    exact z_return dX1_turnRound_29 rfl (⟨rfl, rfl, rfl, rfl, rfl⟩)
  | m + 1, i, t, x, f, h, hx, ht, hi => by
    subst hx
    obtain ⟨s0, s1, r0⟩ := id hs
    refine z_iload3 10 dX1_turnRound_9 rfl ?_
    refine z_iload2 11 dX1_turnRound_10 rfl ?_
    refine z_icmp_ge 29 14 dX1_turnRound_11 (by decide) rfl (by omega) (by omega) (fun h11 => ?_) (fun h11 => ?_)
    · exact z_return dX1_turnRound_29 rfl (⟨rfl, rfl, by rw [trd, if_neg (by omega)], rfl, rfl⟩)
    · refine z_aload0 15 dX1_turnRound_14 rfl ?_
      refine z_iload3 16 dX1_turnRound_15 rfl ?_
      refine z_iload2 17 dX1_turnRound_16 rfl ?_
      refine z_xVv2 20 dX1_turnRound_17 lk_X1_turnRound_39 (ct_X1_swap hs (by omega) (by omega)) rfl (Nat.le_of_ble_eq_true rfl) (Nat.le_of_ble_eq_true rfl) (by assumption) rfl rfl ?_
      refine z_iinc2 23 dX1_turnRound_20 (Nat.le_of_ble_eq_true rfl) rfl rfl ?_
      refine z_iinc3 26 dX1_turnRound_23 (Nat.le_of_ble_eq_true rfl) rfl rfl ?_
      refine z_goto 9 dX1_turnRound_26 (by decide) ?_
      rw [show trd (m + 1) i t f = trd m (i + 1) (t - 1) (swp f i t) by rw [trd, if_pos (by omega)]]
      exact lp_X1_turnRound hs m (i + 1) (t - 1) _ _ (by omega) (by omega) (by omega) (by omega)
theorem ct_X1_turnRound {n i0 : Nat} {f : Nat → Int} (hs : zOr sh R o) (h1 : 1 ≤ n) (hn : n ≤ 5) (hi : i0 ≤ 100) : zE X mX1_turnRound 0 0 0 [zR o, zI (i0 : Int), zX, zX] [] sh (zod I o f n) L R (zEq [] sh (zod I o (trd 5 i0 (n - 1) f) n) L R) := by
  obtain ⟨s0, s1, r0⟩ := id hs
  refine z_aload0 1 dX1_turnRound_0 rfl ?_
  refine z_getIx 4 dX1_turnRound_1 fl_RX1_15 (by assumption) (zod_n _ _ _ _) rfl ?_
  refine z_iconst 5 dX1_turnRound_4 rfl ?_
  refine z_isub 6 dX1_turnRound_5 rfl ?_
  refine z_istore2 7 dX1_turnRound_6 (Nat.le_of_ble_eq_true rfl) rfl rfl ?_
  refine z_iload1 8 dX1_turnRound_7 rfl ?_
  refine z_istore3 9 dX1_turnRound_8 (Nat.le_of_ble_eq_true rfl) rfl rfl ?_
  exact lp_X1_turnRound hs 5 i0 (n - 1) _ _ (by omega) (by omega) (by omega) hi
theorem lp_X1_advance {n : Nat} {f : Nat → Int} (hs : zOr sh R o) (hn : n ≤ 5) (hf : ∀ q, q < 5 → 0 ≤ f q ∧ f q ≤ 4) : ∀ (k : Nat) (x : Int), k + 1 ≤ n ∨ k = 0 → (k = 0 ∧ -5 ≤ x ∧ x < 0) ∨ (0 < k ∧ x = (k : Int) - 1) → zE X mX1_advance 0 0 7 [zR o, zI x] [] sh (zod I o f n) L R (zEq [zI (adr (advf f n k))] sh (zod I o ((advf f n k).getD f) n) L R)
  | 0, x, h, hx => by
    refine z_iload1 8 dX1_advance_7 rfl ?_
    refine z_if_lt 53 11 dX1_advance_8 (by decide) rfl (by omega) (fun h8 => ?_) (fun hz => absurd hz (by omega))
    refine z_iconst 54 dX1_advance_53 rfl ?_
    exact z_zreturn dX1_advance_54 rfl (by omega) (⟨rfl, rfl, rfl, rfl, rfl⟩)
  | k + 1, x, h, hx => by
    have hx2 : x = (k : Int) := by omega
    subst hx2
    obtain ⟨s0, s1, r0⟩ := id hs
    have g1 := hf k (by omega)
    have g2 := hf (k + 1) (by omega)
    refine z_iload1 8 dX1_advance_7 rfl ?_
    refine z_if_lt 53 11 dX1_advance_8 (by decide) rfl (by omega) (fun hz => absurd hz (by omega)) (fun h8 => ?_)
    refine z_aload0 12 dX1_advance_11 rfl ?_
    refine z_getR 15 dX1_advance_12 fl_RX1_9 (by assumption) (by assumption) rfl ?_
    refine z_iload1 16 dX1_advance_15 rfl ?_
    refine z_ialdx 17 (k) dX1_advance_16 (by assumption) (by omega) (by omega) (zod_f _ _ _ _ _) rfl ?_
    refine z_aload0 18 dX1_advance_17 rfl ?_
    refine z_getR 21 dX1_advance_18 fl_RX1_9 (by assumption) (by assumption) rfl ?_
    refine z_iload1 22 dX1_advance_21 rfl ?_
    refine z_iconst 23 dX1_advance_22 rfl ?_
    refine z_iadd 24 dX1_advance_23 rfl ?_
    refine z_ialdx 25 ((k + 1)) dX1_advance_24 (by assumption) (by omega) (by omega) (zod_f _ _ _ _ _) rfl ?_
    refine z_icmp_ge 47 28 dX1_advance_25 (by decide) rfl (by omega) (by omega) (fun h25 => ?_) (fun h25 => ?_)
    · refine z_iinc1 50 dX1_advance_47 (Nat.le_of_ble_eq_true rfl) rfl rfl ?_
      refine z_goto 7 dX1_advance_50 (by decide) ?_
      rw [show advf f n (k + 1) = advf f n k by rw [advf, if_neg (by omega)]]
      exact lp_X1_advance hs hn hf k _ (by omega) (by omega)
    · refine z_aload0 29 dX1_advance_28 rfl ?_
      refine z_iload1 30 dX1_advance_29 rfl ?_
      refine z_aload0 31 dX1_advance_30 rfl ?_
      refine z_iload1 32 dX1_advance_31 rfl ?_
      refine z_xV1 35 dX1_advance_32 lk_X1_advance_35 (ct_X1_lastAbove hs hn (by omega) hf) rfl (Nat.le_of_ble_eq_true rfl) (Nat.le_of_ble_eq_true rfl) (by assumption) rfl rfl ?_
      refine z_xVv2 38 dX1_advance_35 lk_X1_advance_39 (ct_X1_swap hs (by omega) (by have := labl_r f k (n - (k + 2)) (k + 2) (k + 1) n (by omega) (by omega); omega)) rfl (Nat.le_of_ble_eq_true rfl) (Nat.le_of_ble_eq_true rfl) (by assumption) rfl rfl ?_
      refine z_aload0 39 dX1_advance_38 rfl ?_
      refine z_iload1 40 dX1_advance_39 rfl ?_
      refine z_iconst 41 dX1_advance_40 rfl ?_
      refine z_iadd 42 dX1_advance_41 rfl ?_
      refine z_xVv1 45 dX1_advance_42 lk_X1_advance_43 (ct_X1_turnRound (i0 := k + 1) hs (by omega) hn (by omega)) rfl (Nat.le_of_ble_eq_true rfl) (Nat.le_of_ble_eq_true rfl) (by assumption) rfl rfl ?_
      refine z_iconst 46 dX1_advance_45 rfl ?_
      exact z_zreturn dX1_advance_46 rfl (by omega) (⟨by rw [advf, if_pos h25]; rfl, rfl, by rw [advf, if_pos h25]; rfl, rfl, rfl⟩)
theorem ct_X1_advance {n : Nat} {f : Nat → Int} (hs : zOr sh R o) (hn : n ≤ 5) (hf : ∀ q, q < 5 → 0 ≤ f q ∧ f q ≤ 4) : zE X mX1_advance 0 0 0 [zR o, zX] [] sh (zod I o f n) L R (zEq [zI (adr (advf f n (n - 1)))] sh (zod I o ((advf f n (n - 1)).getD f) n) L R) := by
  obtain ⟨s0, s1, r0⟩ := id hs
  refine z_aload0 1 dX1_advance_0 rfl ?_
  refine z_getIx 4 dX1_advance_1 fl_RX1_15 (by assumption) (zod_n _ _ _ _) rfl ?_
  refine z_iconst 5 dX1_advance_4 rfl ?_
  refine z_isub 6 dX1_advance_5 rfl ?_
  refine z_istore1 7 dX1_advance_6 (Nat.le_of_ble_eq_true rfl) rfl rfl ?_
  exact lp_X1_advance hs hn hf (n - 1) _ (by omega) (by omega)
end ORDER
