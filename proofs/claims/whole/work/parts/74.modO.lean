/-! ===== the reference: in which order ===== -/
def digs (m : Nat) : Nat → Nat → List Nat
  | 0, _ => []
  | k + 1, x => digs m k (x / m) ++ [x % m]
theorem digs_len (m : Nat) : ∀ k x, (digs m k x).length = k
  | 0, _ => rfl
  | k + 1, x => by unfold digs; simp [digs_len m k]
def metN (m : Nat) : Nat → Nat → Nat → Nat
  | 0, _, s => s
  | k + 1, x, s => metN m k (x / m) (s ||| (1 <<< (x % m)))
def metI (m : Nat) : Nat → Nat → Int → Int
  | 0, _, s => s
  | k + 1, x, s => metI m k (x / m) (zor s (zshl 1 ((x % m : Nat) : Int)))
def isOr (m x : Nat) : Bool := metN m m x 0 == 2 ^ m - 1
def oww (m : Nat) (tp : Nat → Int) : Nat → Nat → (Nat → Int) → (Nat → Int)
  | 0, _, O => O
  | k + 1, x, O => oww m tp k (x / m) (fun j => if j = k then tp (x % m) else O j)
theorem oww_at (m : Nat) (tp : Nat → Int) : ∀ (k x : Nat) (O : Nat → Int) (j : Nat), oww m tp k x O j = if j < k then tp ((digs m k x).getD j 0) else O j
  | 0, x, O, j => by rw [if_neg (by omega)]; rfl
  | k + 1, x, O, j => by
    unfold oww digs
    rw [oww_at m tp k]
    have hl := digs_len m k (x / m)
    by_cases h : j < k
    · rw [if_pos h, if_pos (by omega), List.getD_eq_getElem?_getD, List.getD_eq_getElem?_getD, List.getElem?_append_left (by omega)]
    · rw [if_neg h]
      by_cases h2 : j = k
      · subst h2
        rw [if_pos rfl, if_pos (by omega), List.getD_eq_getElem?_getD, List.getElem?_append_right (by omega), hl, Nat.sub_self]
        rfl
      · rw [if_neg h2, if_neg (by omega)]
theorem zor_n {a d : Nat} (ha : a < 32) (hd : d < 5) : zor (a : Int) (zshl 1 (d : Int)) = ((a ||| (1 <<< d) : Nat) : Int) ∧ (a ||| (1 <<< d)) < 32 := by
  have key : ∀ (a : Fin 32) (c : Fin 5), zor (a.val : Int) (zshl 1 (c.val : Int)) = ((a.val ||| (1 <<< c.val) : Nat) : Int) ∧ (a.val ||| (1 <<< c.val)) < 32 := by decide +kernel
  exact key ⟨a, ha⟩ ⟨d, hd⟩
theorem metI_n {m : Nat} (hm : m ≤ 5) : ∀ (k x s : Nat), s < 32 → (0 < m ∨ k = 0) → metI m k x (s : Int) = (metN m k x s : Int) ∧ metN m k x s < 32
  | 0, x, s, hs, _ => ⟨rfl, hs⟩
  | k + 1, x, s, hs, h0 => by
    have hd : x % m < 5 := by
      have := Nat.mod_lt x (show 0 < m by omega)
      omega
    have h := zor_n hs hd
    unfold metI metN
    rw [h.1]
    exact metI_n hm k (x / m) _ h.2 (by omega)
theorem prml_f : ∀ m : Fin 6, ((List.range' 0 (m.val ^ m.val)).filter (fun x => isOr m.val x)).map (digs m.val m.val) = prml m.val := by decide +kernel
def nodupB : List Nat → Bool
  | [] => true
  | i :: l => l.all (fun j => decide (i ≠ j)) && nodupB l
theorem prml_nd : ∀ m : Fin 6, (prml m.val).all nodupB = true := by decide +kernel
theorem zshl_m : ∀ m : Fin 6, zshl 1 (m.val : Int) - 1 = ((2 ^ m.val - 1 : Nat) : Int) := by decide +kernel
def mof (m : Nat) (v : List Nat → Int) : Nat → Nat → Int → List Nat → Int × List Nat
  | 0, _, c, b => (c, b)
  | n + 1, x, c, b => if isOr m x = true then (if c < v (digs m m x) then mof m v n (x + 1) (v (digs m m x)) (digs m m x) else mof m v n (x + 1) c b) else mof m v n (x + 1) c b
theorem mof_o (m : Nat) (v : List Nat → Int) : ∀ (n x : Nat) (c : Int) (b : List Nat), mof m v n x c b = ofold v (((List.range' x n).filter (fun x => isOr m x)).map (digs m m)) c b
  | 0, x, c, b => rfl
  | n + 1, x, c, b => by
    unfold mof
    rw [List.range'_succ, List.filter_cons]
    by_cases h : isOr m x = true
    · rw [if_pos h, if_pos h, List.map_cons]
      unfold ofold
      rw [mof_o m v n, mof_o m v n]
    · rw [if_neg h, if_neg h, mof_o m v n]
theorem isOr_mem {m n x : Nat} (hx : x < n) (h : isOr m x = true) : digs m m x ∈ ((List.range' 0 n).filter (fun x => isOr m x)).map (digs m m) := List.mem_map_of_mem (List.mem_filter.mpr ⟨by rw [List.mem_range'_1]; omega, h⟩)
theorem lft_30 {S : zT} {p : Nat} (h : S 6 p = 30) (t : Nat) : lft S t 6 p = 30 := by
  unfold lft
  split
  · exact h
  · rw [zup6_at]
    split
    · rfl
    · exact h
theorem sdn_30 (w : Nat → Int) {p : Nat} : ∀ (m t : Nat) (S : zT), S 6 p = 30 → sdn w m t S 6 p = 30
  | 0, t, S, h => h
  | m + 1, t, S, h => by
    unfold sdn
    have := lft_30 h t
    split
    · exact this
    · exact sdn_30 w m (t + 1) _ (by rw [zup_row _ _ (by decide)]; exact this)
theorem send_30 {S : zT} {p q : Nat} (hpq : p ≠ q) (h : S 6 p = 30) : send S q 6 p = 30 := by
  unfold send
  rw [zup_row _ _ (by decide), zup6_at, if_neg hpq]
  exact sdn_30 _ 10 0 S h
theorem osq_c {tp : Nat → Int} : ∀ (l : List Nat) (S S' : zT), zQe S S' → (∀ i ∈ l, ((tp i).toNat : Int) < S 0 6) → zQe (osq tp l S) (osq tp l S')
  | [], S, S', h, _ => h
  | i :: l, S, S', h, hl => by
    unfold osq
    exact osq_c l _ _ (send_c h (hl i (by simp))) (fun j hj => by rw [send_06 _ _ 6 (by decide)]; exact hl j (by simp [hj]))
section MODO
variable {X : zXs} {sh : zH} {I L : zI2} {R : zR2} {A : zA}
theorem pcn_s {x : Int} (h : 1 ≤ x ∧ x ≤ 31) : (0 ≤ zand x (x - 1) ∧ zand x (x - 1) < x) ∧ pcn (zand x (x - 1)) + 1 = pcn x := by
  have key : ∀ n : Fin 31, (0 ≤ zand ((n.val : Int) + 1) ((n.val : Int) + 1 - 1) ∧ zand ((n.val : Int) + 1) ((n.val : Int) + 1 - 1) < (n.val : Int) + 1) ∧ pcn (zand ((n.val : Int) + 1) ((n.val : Int) + 1 - 1)) + 1 = pcn ((n.val : Int) + 1) := by decide +kernel
  have k := key ⟨(x - 1).toNat, by omega⟩
  have e : (((x - 1).toNat : Nat) : Int) + 1 = x := by omega
  simp only [e] at k
  exact k
theorem lp_X7_many4 {z0 : Int} : ∀ (k : Nat) (x n : Int), (0 ≤ x ∧ x ≤ 31) → x ≤ (k : Int) → zE X mX7_many 0 0 4 [zI z0, zI n, zI x] [] sh I L R (zEq [zI (n + pcn x)] sh I L R)
  | 0, x, n, hx, hk => by
    have e : x = 0 := by omega
    subst e
    refine z_iload2 5 dX7_many_4 rfl ?_
    refine z_if_eq 20 8 dX7_many_5 (by decide) rfl (by omega) (fun h5 => ?_) (fun hz => absurd hz (by omega))
    refine z_iload1 21 dX7_many_20 rfl ?_
    exact z_ireturn dX7_many_21 rfl (⟨by rw [show n + pcn 0 = n from Int.add_zero n], rfl, rfl, rfl, rfl⟩)
  | k + 1, x, n, hx, hk => by
    by_cases h0 : x = 0
    · subst h0
      refine z_iload2 5 dX7_many_4 rfl ?_
      refine z_if_eq 20 8 dX7_many_5 (by decide) rfl (by omega) (fun h5 => ?_) (fun hz => absurd hz (by omega))
      refine z_iload1 21 dX7_many_20 rfl ?_
      exact z_ireturn dX7_many_21 rfl (⟨by rw [show n + pcn 0 = n from Int.add_zero n], rfl, rfl, rfl, rfl⟩)
    · have hs := pcn_s (x := x) (by omega)
      refine z_iload2 5 dX7_many_4 rfl ?_
      refine z_if_eq 20 8 dX7_many_5 (by decide) rfl (by omega) (fun hz => absurd hz (by omega)) (fun h5 => ?_)
      refine z_iinc1 11 dX7_many_8 (Nat.le_of_ble_eq_true rfl) rfl rfl ?_
      refine z_iload2 12 dX7_many_11 rfl ?_
      refine z_iload2 13 dX7_many_12 rfl ?_
      refine z_iconst 14 dX7_many_13 rfl ?_
      refine z_isub 15 dX7_many_14 rfl ?_
      refine z_iand 16 dX7_many_15 rfl ?_
      refine z_istore2 17 dX7_many_16 (Nat.le_of_ble_eq_true rfl) rfl rfl ?_
      refine z_goto 4 dX7_many_17 (by decide) ?_
      have k2 := lp_X7_many4 (z0 := z0) k (zand x (x - 1)) (n + 1) (by omega) (by omega)
      rw [show n + 1 + pcn (zand x (x - 1)) = n + pcn x by omega] at k2
      exact k2
theorem ct_X7_many {x : Int} (hx : 0 ≤ x ∧ x ≤ 31) : zE X mX7_many 0 0 0 [zI x, zX, zX] [] sh I L R (zEq [zI (pcn x)] sh I L R) := by
  have k := lp_X7_many4 (X := X) (sh := sh) (I := I) (L := L) (R := R) (z0 := x) 31 x 0 hx (by omega)
  rw [Int.zero_add] at k
  refine z_iconst 1 dX7_many_0 rfl ?_
  refine z_istore1 2 dX7_many_1 (Nat.le_of_ble_eq_true rfl) rfl rfl ?_
  refine z_iload0 3 dX7_many_2 rfl ?_
  refine z_istore2 4 dX7_many_3 (Nat.le_of_ble_eq_true rfl) rfl rfl ?_
  exact k
theorem lp_X7_isOrder {m : Nat} {x0 : Int} {tp : Nat → Int} (hM : zMs sh R) (hm : m ≤ 5) (ht : ∀ j, j < m → I 165 j = tp j) : ∀ (k x s : Nat) (z : Int) (O : Nat → Int), z = (k : Int) - 1 → k ≤ m → s < 32 → x ≤ 3125 → zE X mX7_isOrder 0 0 10 [zR 157, zI x0, zI (m : Int), zI (x : Int), zI (s : Int), zI z] [] sh (zrow I 166 O) L R (zEq [zI (if metN m k x s = 2 ^ m - 1 then 1 else 0)] sh (zrow I 166 (oww m tp k x O)) L R)
  | 0, x, s, z, O, hz, hk, hs, hx => by
    subst hz
    have hzm := zshl_m ⟨m, by omega⟩
    have h2 : 2 ^ m ≤ 32 := Nat.pow_le_pow_right (n := 2) (by decide) (show m ≤ 5 from hm)
    have h1 : 1 ≤ 2 ^ m := Nat.one_le_two_pow
    simp only at hzm
    show zE X mX7_isOrder 0 0 10 _ [] sh (zrow I 166 O) L R (zEq [zI (if s = 2 ^ m - 1 then 1 else 0)] sh (zrow I 166 O) L R)
    refine z_iload5 12 dX7_isOrder_10 rfl ?_
    refine z_if_lt 50 15 dX7_isOrder_12 (by decide) rfl (by omega) (fun h12 => ?_) (fun hz => absurd hz (by omega))
    refine z_iload4 52 dX7_isOrder_50 rfl ?_
    refine z_iconst 53 dX7_isOrder_52 rfl ?_
    refine z_iload2 54 dX7_isOrder_53 rfl ?_
    refine z_ishl 55 dX7_isOrder_54 rfl ?_
    refine z_iconst 56 dX7_isOrder_55 rfl ?_
    refine z_isub 57 dX7_isOrder_56 rfl ?_
    rw [hzm]
    refine z_icmp_ne 64 60 dX7_isOrder_57 (by decide) rfl (by omega) (by omega) (fun h57 => ?_) (fun h57 => ?_)
    · refine z_iconst 65 dX7_isOrder_64 rfl ?_
      exact z_zreturn dX7_isOrder_65 rfl (by omega) (⟨by first | rw [if_pos (by omega)] | rw [if_neg (by omega)], rfl, rfl, rfl, rfl⟩)
    · refine z_iconst 61 dX7_isOrder_60 rfl ?_
      refine z_goto 65 dX7_isOrder_61 (by decide) ?_
      exact z_zreturn dX7_isOrder_65 rfl (by omega) (⟨by first | rw [if_pos (by omega)] | rw [if_neg (by omega)], rfl, rfl, rfl, rfl⟩)
  | k + 1, x, s, z, O, hz, hk, hs, hx => by
    obtain ⟨⟨s0, s1, s2, s3, s4, s5, s6, s7, s8, s9, s10, s11, s12, s13, s14, s15⟩, r0, r1, r2, r3, r4, r5, r6, r7, r8, r9, r10, r11, r12, r13, r14⟩ := id hM
    have hz2 : z = (k : Int) := by omega
    subst hz2
    have hd : x % m < m := Nat.mod_lt x (by omega)
    have hn := zor_n (a := s) (d := x % m) hs (by omega)
    have em : (x : Int) % (m : Int) = ((x % m : Nat) : Int) := rfl
    have ed : (x : Int) / (m : Int) = ((x / m : Nat) : Int) := rfl
    have hdl : x / m ≤ x := Nat.div_le_self x m
    have htt : zrow I 166 O 165 (x % m) = tp (x % m) := by rw [zrow_o _ _ (by decide), ht _ hd]
    have ih := lp_X7_isOrder (x0 := x0) hM hm ht k (x / m) (s ||| (1 <<< (x % m))) ((k : Int) - 1) (fun j => if j = k then tp (x % m) else O j) rfl (by omega) hn.2 (by omega)
    rw [← hn.1] at ih
    refine z_iload5 12 dX7_isOrder_10 rfl ?_
    refine z_if_lt 50 15 dX7_isOrder_12 (by decide) rfl (by omega) (fun hz => absurd hz (by omega)) (fun h12 => ?_)
    refine z_aload0 16 dX7_isOrder_15 rfl ?_
    refine z_getR 19 dX7_isOrder_16 fl_RX7_34 (by assumption) (by assumption) rfl ?_
    refine z_iload5 21 dX7_isOrder_19 rfl ?_
    refine z_aload0 22 dX7_isOrder_21 rfl ?_
    refine z_getR 25 dX7_isOrder_22 fl_RX7_31 (by assumption) (by assumption) rfl ?_
    refine z_iload3 26 dX7_isOrder_25 rfl ?_
    refine z_iload2 27 dX7_isOrder_26 rfl ?_
    refine z_irem 28 dX7_isOrder_27 (by omega) (by omega) rfl ?_
    refine z_ialdx 29 (x % m) dX7_isOrder_28 (by assumption) (by omega) (by omega) (htt) rfl ?_
    refine z_iastx 30 (k) dX7_isOrder_29 (by assumption) (by omega) (by omega) (zrow_up _ _ _ _ _) rfl ?_
    refine z_iload4 32 dX7_isOrder_30 rfl ?_
    refine z_iconst 33 dX7_isOrder_32 rfl ?_
    refine z_iload3 34 dX7_isOrder_33 rfl ?_
    refine z_iload2 35 dX7_isOrder_34 rfl ?_
    refine z_irem 36 dX7_isOrder_35 (by omega) (by omega) rfl ?_
    refine z_ishl 37 dX7_isOrder_36 rfl ?_
    refine z_ior 38 dX7_isOrder_37 rfl ?_
    refine z_istore4 40 dX7_isOrder_38 (Nat.le_of_ble_eq_true rfl) rfl rfl ?_
    refine z_iload3 41 dX7_isOrder_40 rfl ?_
    refine z_iload2 42 dX7_isOrder_41 rfl ?_
    refine z_idiv 43 dX7_isOrder_42 (by omega) (by omega) rfl ?_
    refine z_istore3 44 dX7_isOrder_43 (Nat.le_of_ble_eq_true rfl) rfl rfl ?_
    refine z_iinc5 47 dX7_isOrder_44 (Nat.le_of_ble_eq_true rfl) rfl rfl ?_
    refine z_goto 10 dX7_isOrder_47 (by decide) ?_
    exact ih
theorem ct_X7_isOrder {m x : Nat} {tp : Nat → Int} (hM : zMs sh R) (hm : m ≤ 5) (ht : ∀ j, j < m → I 165 j = tp j) (hx : x ≤ 3125) : zE X mX7_isOrder 0 0 0 [zR 157, zI (x : Int), zI (m : Int), zX, zX, zX] [] sh I L R (zEq [zI (if isOr m x = true then 1 else 0)] sh (zrow I 166 (oww m tp m x (I 166))) L R) := by
  have k := lp_X7_isOrder (X := X) (L := L) (x0 := (x : Int)) hM hm ht m x 0 ((m : Int) - 1) (I 166) rfl (Nat.le_refl m) (by decide) hx
  rw [zrow_self] at k
  have e : (if metN m m x 0 = 2 ^ m - 1 then (1 : Int) else 0) = if isOr m x = true then 1 else 0 := by
    unfold isOr
    by_cases h : metN m m x 0 = 2 ^ m - 1
    · rw [if_pos h, if_pos (by rw [h]; exact beq_self_eq_true _)]
    · rw [if_neg h, if_neg (fun z => h (eq_of_beq z))]
  rw [e] at k
  refine z_iload1 1 dX7_isOrder_0 rfl ?_
  refine z_istore3 2 dX7_isOrder_1 (Nat.le_of_ble_eq_true rfl) rfl rfl ?_
  refine z_iconst 3 dX7_isOrder_2 rfl ?_
  refine z_istore4 5 dX7_isOrder_3 (Nat.le_of_ble_eq_true rfl) rfl rfl ?_
  refine z_iload2 6 dX7_isOrder_5 rfl ?_
  refine z_iconst 7 dX7_isOrder_6 rfl ?_
  refine z_isub 8 dX7_isOrder_7 rfl ?_
  refine z_istore5 10 dX7_isOrder_8 (Nat.le_of_ble_eq_true rfl) rfl rfl ?_
  exact k
end MODO
