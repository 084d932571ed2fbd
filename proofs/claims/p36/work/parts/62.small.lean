/-! ===== the law's own row of 43: a picture of a slide; its small methods ===== -/
def wpk (N : Nat → Int) (S : zT) : Nat → Int := fun j => if j = 0 then S 0 6 else if j = 1 then S 0 7 else if j = 2 then N 2 else if j < 13 then S 1 (j - 3) else if j < 23 then S 2 (j - 13) else if j < 43 then S (3 + (j - 23) % 4) ((j - 23) / 4) else N j
theorem wpk_r (N : Nat → Int) (S : zT) {t : Nat} (h : t < 10) : wpk N S (3 + t) = S 1 t := by
  unfold wpk
  rw [if_neg (by omega), if_neg (by omega), if_neg (by omega), if_pos (by omega), show 3 + t - 3 = t by omega]
theorem wpk_b (N : Nat → Int) (S : zT) {t : Nat} (h : t < 10) : wpk N S (13 + t) = S 2 t := by
  unfold wpk
  rw [if_neg (by omega), if_neg (by omega), if_neg (by omega), if_neg (by omega), if_pos (by omega), show 13 + t - 13 = t by omega]
theorem wpk_k (N : Nat → Int) (S : zT) {r w : Nat} (h : r < 5) (hw : w < 4) : wpk N S (23 + 4 * r + w) = S (3 + w) r := by
  unfold wpk
  rw [if_neg (by omega), if_neg (by omega), if_neg (by omega), if_neg (by omega), if_neg (by omega), if_pos (by omega), show 3 + (23 + 4 * r + w - 23) % 4 = 3 + w by omega, show (23 + 4 * r + w - 23) / 4 = r by omega]
/-- a place of the row and its place in the picture -/
def wix (k i j : Nat) : Prop := (k = 0 ∧ i = 0 ∧ j = 6) ∨ (k = 1 ∧ i = 0 ∧ j = 7) ∨ (k = 3 + j ∧ i = 1 ∧ j < 10) ∨ (k = 13 + j ∧ i = 2 ∧ j < 10) ∨ (3 ≤ i ∧ i < 7 ∧ j < 5 ∧ k = 23 + 4 * j + (i - 3))
theorem wpk_up (N : Nat → Int) (S : zT) {k i j : Nat} (h : wix k i j) (v : Int) : (fun q => if q = k then v else wpk N S q) = wpk N (zup S i j v) := by
  funext q
  have key : ∀ a c, (q = k → a = i ∧ c = j) → (¬ q = k → ¬ (a = i ∧ c = j)) → (if q = k then v else S a c) = zup S i j v a c := by
    intro a c h1 h2
    by_cases hq : q = k
    · obtain ⟨rfl, rfl⟩ := h1 hq
      rw [if_pos hq, zup_at]
    · rw [if_neg hq, zup_ne _ _ (h2 hq)]
  unfold wix at h
  show (if q = k then v else wpk N S q) = wpk N (zup S i j v) q
  unfold wpk
  by_cases h0 : q = 0
  · rw [if_pos h0, if_pos h0]; exact key _ _ (by omega) (by omega)
  · rw [if_neg h0, if_neg h0]
    by_cases h1 : q = 1
    · rw [if_pos h1, if_pos h1]; exact key _ _ (by omega) (by omega)
    · rw [if_neg h1, if_neg h1]
      by_cases h2 : q = 2
      · rw [if_pos h2, if_pos h2, if_neg (by omega)]
      · rw [if_neg h2, if_neg h2]
        by_cases h3 : q < 13
        · rw [if_pos h3, if_pos h3]; exact key _ _ (by omega) (by omega)
        · rw [if_neg h3, if_neg h3]
          by_cases h4 : q < 23
          · rw [if_pos h4, if_pos h4]; exact key _ _ (by omega) (by omega)
          · rw [if_neg h4, if_neg h4]
            by_cases h5 : q < 43
            · rw [if_pos h5, if_pos h5]; exact key _ _ (by omega) (by omega)
            · rw [if_neg h5, if_neg h5, if_neg (by omega)]
/-- the memory with the row told as a picture -/
def wN (I : zI2) (N : Nat → Int) (S : zT) : zI2 := zrow I 157 (wpk N S)
theorem wN_at (I : zI2) (N : Nat → Int) (S : zT) (k : Nat) : wN I N S 157 k = wpk N S k := zrow_at _ _ _ _
theorem wN_0 (I : zI2) (N : Nat → Int) (S : zT) : wN I N S 157 0 = S 0 6 := wN_at _ _ _ _
theorem wN_1 (I : zI2) (N : Nat → Int) (S : zT) : wN I N S 157 1 = S 0 7 := wN_at _ _ _ _
theorem wN_r (I : zI2) (N : Nat → Int) (S : zT) {t : Nat} (h : t < 10) : wN I N S 157 (3 + t) = S 1 t := (wN_at _ _ _ _).trans (wpk_r _ _ h)
theorem wN_b (I : zI2) (N : Nat → Int) (S : zT) {t : Nat} (h : t < 10) : wN I N S 157 (13 + t) = S 2 t := (wN_at _ _ _ _).trans (wpk_b _ _ h)
theorem wN_k (I : zI2) (N : Nat → Int) (S : zT) {r w : Nat} (h : r < 5) (hw : w < 4) : wN I N S 157 (23 + 4 * r + w) = S (3 + w) r := (wN_at _ _ _ _).trans (wpk_k _ _ h hw)
theorem wN_3 (I : zI2) (N : Nat → Int) (S : zT) {r : Nat} (h : r < 5) : wN I N S 157 (23 + 4 * r) = S 3 r := wN_k I N S (w := 0) h (by decide)
theorem wN_4 (I : zI2) (N : Nat → Int) (S : zT) {r : Nat} (h : r < 5) : wN I N S 157 (24 + 4 * r) = S 4 r := by
  rw [show 24 + 4 * r = 23 + 4 * r + 1 by omega]; exact wN_k I N S h (by decide)
theorem wN_5 (I : zI2) (N : Nat → Int) (S : zT) {r : Nat} (h : r < 5) : wN I N S 157 (25 + 4 * r) = S 5 r := by
  rw [show 25 + 4 * r = 23 + 4 * r + 2 by omega]; exact wN_k I N S h (by decide)
theorem wN_6 (I : zI2) (N : Nat → Int) (S : zT) {r : Nat} (h : r < 5) : wN I N S 157 (26 + 4 * r) = S 6 r := by
  rw [show 26 + 4 * r = 23 + 4 * r + 3 by omega]; exact wN_k I N S h (by decide)
theorem wN_o (I : zI2) (N : Nat → Int) (S : zT) {a : Nat} (h : a ≠ 157) : wN I N S a = I a := zrow_oR _ _ h
theorem wN_up (I : zI2) (N : Nat → Int) (S : zT) {k i j : Nat} (h : wix k i j) (v : Int) : zup (wN I N S) 157 k v = wN I N (zup S i j v) := by
  unfold wN
  rw [zrow_up, wpk_up N S h]
theorem zrow_upo (I : zI2) {a b : Nat} (h : a ≠ b) (f : Nat → Int) (j : Nat) (v : Int) : zup (zrow I a f) b j v = zrow (zup I b j v) a f := by
  funext x y
  unfold zup zrow
  by_cases hx : x = a
  · subst hx
    rw [if_neg (fun q => h q.1), if_pos rfl, if_pos rfl]
  · rw [if_neg hx, if_neg hx]
theorem wN_upo (I : zI2) (N : Nat → Int) (S : zT) {b : Nat} (h : b ≠ 157) (j : Nat) (v : Int) : zup (wN I N S) b j v = wN (zup I b j v) N S := zrow_upo I (Ne.symm h) _ _ _
theorem wN_self {I : zI2} {N : Nat → Int} {S : zT} (h : I 157 = wpk N S) : wN I N S = I := by
  unfold wN
  rw [← h, zrow_self]
def pcl (X : zXs) (i : Nat) : Int := zand (if i < X.1 then X.2 i else 15485957 * (i : Int) + 107) 2147483647
theorem pcl_r (X : zXs) (i : Nat) : 0 ≤ pcl X i ∧ pcl X i ≤ 2147483647 := by
  unfold pcl
  rw [zand_31]
  omega
def psrt (v : Int) : Int := if v = 0 then 112 else if v = 1 then 115 else if v = 2 then 99 else if v = 3 then 110 else 107
def psz (a : Nat) : Nat → Nat → Int → Int
  | 0, _, x => x
  | m + 1, k, x => psz a m (k + 1) (x + bti a k)
theorem psz_pcn {x : Int} (h : 0 ≤ x ∧ x ≤ 31) : psz x.toNat 5 0 0 = pcn x := by
  have key : ∀ n : Fin 32, psz n.val 5 0 0 = pcn (n.val : Int) := by decide +kernel
  have k := key ⟨x.toNat, by omega⟩
  rw [show (((⟨x.toNat, by omega⟩ : Fin 32).val : Nat) : Int) = x by show ((x.toNat : Nat) : Int) = x; omega] at k
  exact k
section PSM
variable {X : zXs} {sh : zH} {I L : zI2} {R : zR2} {N : Nat → Int} {S : zT}
theorem ct_L_cell {i : Nat} (hX : X.1 ≤ 260) (hj : ∀ j, -2147483648 ≤ X.2 j ∧ X.2 j ≤ 2147483647) (hi : i ≤ 100) : zE X mL_cell 0 0 0 [zS, zI (i : Int)] [] sh I L R (zEq [zI (pcl X i)] sh I L R) := by
  refine z_iload1 1 dL_cell_0 rfl ?_
  refine z_aloadS0 2 dL_cell_1 rfl ?_
  refine z_slen 3 dL_cell_2 rfl ?_
  refine z_icmp_ge 12 6 dL_cell_3 (by decide) rfl (by omega) (by omega) (fun h3 => ?_) (fun h3 => ?_)
  · refine z_ldc 14 dL_cell_12 kc_RL_7 rfl ?_
    refine z_iload1 15 dL_cell_14 rfl ?_
    refine z_imul 16 dL_cell_15 rfl ?_
    refine z_bipush 18 dL_cell_16 (by decide) rfl ?_
    refine z_iadd 19 dL_cell_18 rfl ?_
    refine z_ldc 21 dL_cell_19 kc_RL_8 rfl ?_
    refine z_iand 22 dL_cell_21 rfl ?_
    exact z_ireturn dL_cell_22 rfl (⟨by unfold pcl; first | rw [if_pos (by omega)] | rw [if_neg (by omega)], rfl, rfl, rfl, rfl⟩)
  · refine z_aloadS0 7 dL_cell_6 rfl ?_
    refine z_iload1 8 dL_cell_7 rfl ?_
    refine z_sldN 9 (i) dL_cell_8 (by omega) (by omega) rfl ?_
    refine z_goto 19 dL_cell_9 (by decide) ?_
    refine z_ldc 21 dL_cell_19 kc_RL_8 rfl ?_
    refine z_iand 22 dL_cell_21 rfl ?_
    exact z_ireturn dL_cell_22 rfl (⟨by unfold pcl; first | rw [if_pos (by omega)] | rw [if_neg (by omega)], rfl, rfl, rfl, rfl⟩)
theorem ct_L_sort {v : Int} (hv : 0 ≤ v ∧ v ≤ 4) : zE X mL_sort 0 0 0 [zI v] [] sh I L R (zEq [zI (psrt v)] sh I L R) := by
  refine z_iload0 1 dL_sort_0 rfl ?_
  refine z_if_ne 9 4 dL_sort_1 (by decide) rfl (by omega) (fun h1 => ?_) (fun h1 => ?_)
  · refine z_iload0 10 dL_sort_9 rfl ?_
    refine z_iconst 11 dL_sort_10 rfl ?_
    refine z_icmp_ne 19 14 dL_sort_11 (by decide) rfl (by omega) (by omega) (fun h11 => ?_) (fun h11 => ?_)
    · refine z_iload0 20 dL_sort_19 rfl ?_
      refine z_iconst 21 dL_sort_20 rfl ?_
      refine z_icmp_ne 29 24 dL_sort_21 (by decide) rfl (by omega) (by omega) (fun h21 => ?_) (fun h21 => ?_)
      · refine z_iload0 30 dL_sort_29 rfl ?_
        refine z_iconst 31 dL_sort_30 rfl ?_
        refine z_icmp_ne 39 34 dL_sort_31 (by decide) rfl (by omega) (by omega) (fun h31 => ?_) (fun h31 => ?_)
        · refine z_bipush 41 dL_sort_39 (by decide) rfl ?_
          exact z_ireturn dL_sort_41 rfl (⟨by unfold psrt; first | rw [if_pos (by omega)] | rw [if_neg (by omega), if_pos (by omega)] | rw [if_neg (by omega), if_neg (by omega), if_pos (by omega)] | rw [if_neg (by omega), if_neg (by omega), if_neg (by omega), if_pos (by omega)] | rw [if_neg (by omega), if_neg (by omega), if_neg (by omega), if_neg (by omega)], rfl, rfl, rfl, rfl⟩)
        · refine z_bipush 36 dL_sort_34 (by decide) rfl ?_
          refine z_goto 41 dL_sort_36 (by decide) ?_
          exact z_ireturn dL_sort_41 rfl (⟨by unfold psrt; first | rw [if_pos (by omega)] | rw [if_neg (by omega), if_pos (by omega)] | rw [if_neg (by omega), if_neg (by omega), if_pos (by omega)] | rw [if_neg (by omega), if_neg (by omega), if_neg (by omega), if_pos (by omega)] | rw [if_neg (by omega), if_neg (by omega), if_neg (by omega), if_neg (by omega)], rfl, rfl, rfl, rfl⟩)
      · refine z_bipush 26 dL_sort_24 (by decide) rfl ?_
        refine z_goto 41 dL_sort_26 (by decide) ?_
        exact z_ireturn dL_sort_41 rfl (⟨by unfold psrt; first | rw [if_pos (by omega)] | rw [if_neg (by omega), if_pos (by omega)] | rw [if_neg (by omega), if_neg (by omega), if_pos (by omega)] | rw [if_neg (by omega), if_neg (by omega), if_neg (by omega), if_pos (by omega)] | rw [if_neg (by omega), if_neg (by omega), if_neg (by omega), if_neg (by omega)], rfl, rfl, rfl, rfl⟩)
    · refine z_bipush 16 dL_sort_14 (by decide) rfl ?_
      refine z_goto 41 dL_sort_16 (by decide) ?_
      exact z_ireturn dL_sort_41 rfl (⟨by unfold psrt; first | rw [if_pos (by omega)] | rw [if_neg (by omega), if_pos (by omega)] | rw [if_neg (by omega), if_neg (by omega), if_pos (by omega)] | rw [if_neg (by omega), if_neg (by omega), if_neg (by omega), if_pos (by omega)] | rw [if_neg (by omega), if_neg (by omega), if_neg (by omega), if_neg (by omega)], rfl, rfl, rfl, rfl⟩)
  · refine z_bipush 6 dL_sort_4 (by decide) rfl ?_
    refine z_goto 41 dL_sort_6 (by decide) ?_
    exact z_ireturn dL_sort_41 rfl (⟨by unfold psrt; first | rw [if_pos (by omega)] | rw [if_neg (by omega), if_pos (by omega)] | rw [if_neg (by omega), if_neg (by omega), if_pos (by omega)] | rw [if_neg (by omega), if_neg (by omega), if_neg (by omega), if_pos (by omega)] | rw [if_neg (by omega), if_neg (by omega), if_neg (by omega), if_neg (by omega)], rfl, rfl, rfl, rfl⟩)
theorem lp_L_size {a : Nat} (ha : a < 2 ^ 31) : ∀ (m k : Nat) (x : Int), k + m = 5 → zE X mL_size 0 0 4 [zI (a : Int), zI x, zI (k : Int)] [] sh I L R (zEq [zI (psz a m k x)] sh I L R)
  | 0, k, x, h => by
    refine z_iload2 5 dL_size_4 rfl ?_
    refine z_iconst 6 dL_size_5 rfl ?_
    refine z_icmp_ge 23 9 dL_size_6 (by decide) rfl (by omega) (by omega) (fun h6 => ?_) (fun hz => absurd hz (by omega))
    refine z_iload1 24 dL_size_23 rfl ?_
    exact z_ireturn dL_size_24 rfl (⟨rfl, rfl, rfl, rfl, rfl⟩)
  | m + 1, k, x, h => by
    refine z_iload2 5 dL_size_4 rfl ?_
    refine z_iconst 6 dL_size_5 rfl ?_
    refine z_icmp_ge 23 9 dL_size_6 (by decide) rfl (by omega) (by omega) (fun hz => absurd hz (by omega)) (fun h6 => ?_)
    refine z_iload1 10 dL_size_9 rfl ?_
    refine z_iload0 11 dL_size_10 rfl ?_
    refine z_iload2 12 dL_size_11 rfl ?_
    refine z_ishr 13 dL_size_12 rfl ?_
    refine z_iconst 14 dL_size_13 rfl ?_
    refine z_iand 15 dL_size_14 rfl ?_
    rw [zb_bit ha (by omega)]
    refine z_iadd 16 dL_size_15 rfl ?_
    refine z_istore1 17 dL_size_16 (Nat.le_of_ble_eq_true rfl) rfl rfl ?_
    refine z_iinc2 20 dL_size_17 (Nat.le_of_ble_eq_true rfl) rfl rfl ?_
    refine z_goto 4 dL_size_20 (by decide) ?_
    exact lp_L_size ha m (k + 1) _ (by omega)
theorem ct_L_size {x : Int} (hx : 0 ≤ x ∧ x ≤ 31) : zE X mL_size 0 0 0 [zI x, zX, zX] [] sh I L R (zEq [zI (pcn x)] sh I L R) := by
  rw [← psz_pcn hx]
  obtain ⟨a, rfl⟩ : ∃ a : Nat, x = (a : Int) := ⟨x.toNat, by omega⟩
  rw [Int.toNat_natCast]
  refine z_iconst 1 dL_size_0 rfl ?_
  refine z_istore1 2 dL_size_1 (Nat.le_of_ble_eq_true rfl) rfl rfl ?_
  refine z_iconst 3 dL_size_2 rfl ?_
  refine z_istore2 4 dL_size_3 (Nat.le_of_ble_eq_true rfl) rfl rfl ?_
  exact lp_L_size (by omega) 5 0 0 rfl
theorem lp_L_stuck {t : Nat} (hs : sh[157]? = some (20, 43)) (hr : zSr S) (ht : t < 10) : ∀ (m r : Nat), r + m = (S 0 6).toNat → zE X mL_stuck 0 0 2 [zR 157, zI (t : Int), zI (r : Int)] [] sh (wN I N S) L R (zEq [zI (zfs (S 6) (10 + (t : Int)) m r)] sh (wN I N S) L R)
  | 0, r, h => by
    have h6 := hr.1
    refine z_iload2 3 dL_stuck_2 rfl ?_
    refine z_aload0 4 dL_stuck_3 rfl ?_
    refine z_iconst 5 dL_stuck_4 rfl ?_
    refine z_ialdx 6 (0) dL_stuck_5 (by assumption) (by omega) (by omega) (wN_0 _ _ _) rfl ?_
    refine z_icmp_ge 32 9 dL_stuck_6 (by decide) rfl (by omega) (by omega) (fun h6 => ?_) (fun hz => absurd hz (by omega))
    refine z_bipush 34 dL_stuck_32 (by decide) rfl ?_
    exact z_ireturn dL_stuck_34 rfl (⟨rfl, rfl, rfl, rfl, rfl⟩)
  | m + 1, r, h => by
    have h6 := hr.1
    have hp := hr.2.2.2.2.2.2 r (by omega)
    refine z_iload2 3 dL_stuck_2 rfl ?_
    refine z_aload0 4 dL_stuck_3 rfl ?_
    refine z_iconst 5 dL_stuck_4 rfl ?_
    refine z_ialdx 6 (0) dL_stuck_5 (by assumption) (by omega) (by omega) (wN_0 _ _ _) rfl ?_
    refine z_icmp_ge 32 9 dL_stuck_6 (by decide) rfl (by omega) (by omega) (fun hz => absurd hz (by omega)) (fun h6 => ?_)
    refine z_aload0 10 dL_stuck_9 rfl ?_
    refine z_bipush 12 dL_stuck_10 (by decide) rfl ?_
    refine z_iconst 13 dL_stuck_12 rfl ?_
    refine z_iload2 14 dL_stuck_13 rfl ?_
    refine z_imul 15 dL_stuck_14 rfl ?_
    refine z_iadd 16 dL_stuck_15 rfl ?_
    refine z_ialdx 17 (26 + 4 * r) dL_stuck_16 (by assumption) (by omega) (by omega) (wN_6 _ _ _ (by omega)) rfl ?_
    refine z_bipush 19 dL_stuck_17 (by decide) rfl ?_
    refine z_iload1 20 dL_stuck_19 rfl ?_
    refine z_iadd 21 dL_stuck_20 rfl ?_
    refine z_icmp_ne 26 24 dL_stuck_21 (by decide) rfl (by omega) (by omega) (fun h21 => ?_) (fun h21 => ?_)
    · refine z_iinc2 29 dL_stuck_26 (Nat.le_of_ble_eq_true rfl) rfl rfl ?_
      refine z_goto 2 dL_stuck_29 (by decide) ?_
      rw [show zfs (S 6) (10 + (t : Int)) (m + 1) r = zfs (S 6) (10 + (t : Int)) m (r + 1) by rw [zfs, if_neg (by omega)]]
      exact lp_L_stuck hs hr ht m (r + 1) (by omega)
    · refine z_iload2 25 dL_stuck_24 rfl ?_
      exact z_ireturn dL_stuck_25 rfl (⟨by rw [zfs, if_pos (by omega)], rfl, rfl, rfl, rfl⟩)
theorem ct_L_stuck {t : Nat} (hs : sh[157]? = some (20, 43)) (hr : zSr S) (ht : t < 10) : zE X mL_stuck 0 0 0 [zR 157, zI (t : Int), zX] [] sh (wN I N S) L R (zEq [zI (sst S t)] sh (wN I N S) L R) := by
  have h6 := hr.1
  refine z_iconst 1 dL_stuck_0 rfl ?_
  refine z_istore2 2 dL_stuck_1 (Nat.le_of_ble_eq_true rfl) rfl rfl ?_
  exact lp_L_stuck hs hr ht (S 0 6).toNat 0 (by omega)
theorem ct_L_gain {r t : Nat} {v : Int} (hs : sh[157]? = some (20, 43)) (hr : zSr S) (h5 : r < 5) (ht : t < 10) (hv : -2147483648 ≤ v ∧ v ≤ 2147483647) : zE X mL_gain 0 0 0 [zR 157, zI (r : Int), zI (t : Int), zI v, zX, zX, zX] [] sh (wN I N S) L R (zEq [zI (sgn S r t v)] sh (wN I N S) L R) := by
  have g3 := hr.2.2.2.1 r h5
  have g4 := hr.2.2.2.2.1 r h5
  have g2 := hr.2.2.1 t ht
  have e1 : zand (t : Int) 1 = ((t % 2 : Nat) : Int) := by rw [show (1 : Int) = ((1 : Nat) : Int) from rfl, zb_and (by omega), Nat.and_one_is_mod]
  refine z_aload0 1 dL_gain_0 rfl ?_
  refine z_bipush 3 dL_gain_1 (by decide) rfl ?_
  refine z_iconst 4 dL_gain_3 rfl ?_
  refine z_iload1 5 dL_gain_4 rfl ?_
  refine z_imul 6 dL_gain_5 rfl ?_
  refine z_iadd 7 dL_gain_6 rfl ?_
  refine z_ialdx 8 (23 + 4 * r) dL_gain_7 (by assumption) (by omega) (by omega) (wN_3 _ _ _ h5) rfl ?_
  refine z_istore4 10 dL_gain_8 (Nat.le_of_ble_eq_true rfl) rfl rfl ?_
  refine z_iconst 11 dL_gain_10 rfl ?_
  refine z_aload0 12 dL_gain_11 rfl ?_
  refine z_bipush 14 dL_gain_12 (by decide) rfl ?_
  refine z_iconst 15 dL_gain_14 rfl ?_
  refine z_iload1 16 dL_gain_15 rfl ?_
  refine z_imul 17 dL_gain_16 rfl ?_
  refine z_iadd 18 dL_gain_17 rfl ?_
  refine z_ialdx 19 (24 + 4 * r) dL_gain_18 (by assumption) (by omega) (by omega) (wN_4 _ _ _ h5) rfl ?_
  refine z_iconst 20 dL_gain_19 rfl ?_
  refine z_idiv 21 dL_gain_20 (by omega) (by omega) rfl ?_
  refine z_iadd 22 dL_gain_21 rfl ?_
  refine z_istore5 24 dL_gain_22 (Nat.le_of_ble_eq_true rfl) rfl rfl ?_
  refine z_iload3 25 dL_gain_24 rfl ?_
  refine z_bipush 27 dL_gain_25 (by decide) rfl ?_
  refine z_icmp_ge 34 30 dL_gain_27 (by decide) rfl (by omega) (by omega) (fun h27 => ?_) (fun h27 => ?_)
  · refine z_iconst 35 dL_gain_34 rfl ?_
    refine z_istore6 37 dL_gain_35 (Nat.le_of_ble_eq_true rfl) rfl rfl ?_
    refine z_iload4 39 dL_gain_37 rfl ?_
    refine z_if_ne 46 42 dL_gain_39 (by decide) rfl (by omega) (fun h39 => ?_) (fun h39 => ?_)
    · refine z_iload4 48 dL_gain_46 rfl ?_
      refine z_iconst 49 dL_gain_48 rfl ?_
      refine z_icmp_ne 57 52 dL_gain_49 (by decide) rfl (by omega) (by omega) (fun h49 => ?_) (fun h49 => ?_)
      · refine z_iload4 59 dL_gain_57 rfl ?_
        refine z_iconst 60 dL_gain_59 rfl ?_
        refine z_icmp_ne 68 63 dL_gain_60 (by decide) rfl (by omega) (by omega) (fun h60 => ?_) (fun h60 => ?_)
        · refine z_iload4 70 dL_gain_68 rfl ?_
          refine z_iconst 71 dL_gain_70 rfl ?_
          refine z_icmp_ne 93 74 dL_gain_71 (by decide) rfl (by omega) (by omega) (fun h71 => ?_) (fun h71 => ?_)
          · refine z_iload6 95 dL_gain_93 rfl ?_
            refine z_aload0 96 dL_gain_95 rfl ?_
            refine z_bipush 98 dL_gain_96 (by decide) rfl ?_
            refine z_iload2 99 dL_gain_98 rfl ?_
            refine z_iadd 100 dL_gain_99 rfl ?_
            refine z_ialdx 101 (13 + t) dL_gain_100 (by assumption) (by omega) (by omega) (wN_b _ _ _ ht) rfl ?_
            refine z_iadd 102 dL_gain_101 rfl ?_
            refine z_aload0 103 dL_gain_102 rfl ?_
            refine z_bipush 105 dL_gain_103 (by decide) rfl ?_
            refine z_iload2 106 dL_gain_105 rfl ?_
            refine z_iadd 107 dL_gain_106 rfl ?_
            refine z_ialdx 108 (13 + t) dL_gain_107 (by assumption) (by omega) (by omega) (wN_b _ _ _ ht) rfl ?_
            refine z_iadd 109 dL_gain_108 rfl ?_
            exact z_ireturn dL_gain_109 rfl (⟨by unfold sgn sgo cgo; first | rw [if_neg (by omega), if_neg (by omega), if_neg (by omega), if_neg (by omega)] | rw [if_pos (by omega)] | (rw [if_neg (by omega), if_pos (by omega)]; first | rw [if_pos (by omega)] | rw [if_neg (by omega)]) | (rw [if_neg (by omega), if_neg (by omega), if_pos (by omega)]; first | rw [if_pos (by omega)] | rw [if_neg (by omega)]) | (rw [if_neg (by omega), if_neg (by omega), if_neg (by omega), if_pos (by omega)]; first | rw [if_pos (by omega), Int.two_mul, Int.add_assoc] | rw [if_neg (by omega), Int.two_mul, Int.add_assoc]), rfl, rfl, rfl, rfl⟩)
          · refine z_iload2 75 dL_gain_74 rfl ?_
            refine z_iconst 76 dL_gain_75 rfl ?_
            refine z_iand 77 dL_gain_76 rfl ?_
            rw [e1]
            refine z_iconst 78 dL_gain_77 rfl ?_
            refine z_icmp_ne 88 81 dL_gain_78 (by decide) rfl (by omega) (by omega) (fun h78 => ?_) (fun h78 => ?_)
            · refine z_iload5 90 dL_gain_88 rfl ?_
              refine z_goto 109 dL_gain_90 (by decide) ?_
              exact z_ireturn dL_gain_109 rfl (⟨by unfold sgn sgo cgo; first | rw [if_neg (by omega), if_neg (by omega), if_neg (by omega), if_neg (by omega)] | rw [if_pos (by omega)] | (rw [if_neg (by omega), if_pos (by omega)]; first | rw [if_pos (by omega)] | rw [if_neg (by omega)]) | (rw [if_neg (by omega), if_neg (by omega), if_pos (by omega)]; first | rw [if_pos (by omega)] | rw [if_neg (by omega)]) | (rw [if_neg (by omega), if_neg (by omega), if_neg (by omega), if_pos (by omega)]; first | rw [if_pos (by omega), Int.two_mul, Int.add_assoc] | rw [if_neg (by omega), Int.two_mul, Int.add_assoc]), rfl, rfl, rfl, rfl⟩)
            · refine z_iload5 83 dL_gain_81 rfl ?_
              refine z_iconst 84 dL_gain_83 rfl ?_
              refine z_idiv 85 dL_gain_84 (by omega) (by omega) rfl ?_
              refine z_goto 109 dL_gain_85 (by decide) ?_
              exact z_ireturn dL_gain_109 rfl (⟨by unfold sgn sgo cgo; first | rw [if_neg (by omega), if_neg (by omega), if_neg (by omega), if_neg (by omega)] | rw [if_pos (by omega)] | (rw [if_neg (by omega), if_pos (by omega)]; first | rw [if_pos (by omega)] | rw [if_neg (by omega)]) | (rw [if_neg (by omega), if_neg (by omega), if_pos (by omega)]; first | rw [if_pos (by omega)] | rw [if_neg (by omega)]) | (rw [if_neg (by omega), if_neg (by omega), if_neg (by omega), if_pos (by omega)]; first | rw [if_pos (by omega), Int.two_mul, Int.add_assoc] | rw [if_neg (by omega), Int.two_mul, Int.add_assoc]), rfl, rfl, rfl, rfl⟩)
        · refine z_iload6 65 dL_gain_63 rfl ?_
          refine z_goto 109 dL_gain_65 (by decide) ?_
          exact z_ireturn dL_gain_109 rfl (⟨by unfold sgn sgo cgo; first | rw [if_neg (by omega), if_neg (by omega), if_neg (by omega), if_neg (by omega)] | rw [if_pos (by omega)] | (rw [if_neg (by omega), if_pos (by omega)]; first | rw [if_pos (by omega)] | rw [if_neg (by omega)]) | (rw [if_neg (by omega), if_neg (by omega), if_pos (by omega)]; first | rw [if_pos (by omega)] | rw [if_neg (by omega)]) | (rw [if_neg (by omega), if_neg (by omega), if_neg (by omega), if_pos (by omega)]; first | rw [if_pos (by omega), Int.two_mul, Int.add_assoc] | rw [if_neg (by omega), Int.two_mul, Int.add_assoc]), rfl, rfl, rfl, rfl⟩)
      · refine z_iload5 54 dL_gain_52 rfl ?_
        refine z_goto 109 dL_gain_54 (by decide) ?_
        exact z_ireturn dL_gain_109 rfl (⟨by unfold sgn sgo cgo; first | rw [if_neg (by omega), if_neg (by omega), if_neg (by omega), if_neg (by omega)] | rw [if_pos (by omega)] | (rw [if_neg (by omega), if_pos (by omega)]; first | rw [if_pos (by omega)] | rw [if_neg (by omega)]) | (rw [if_neg (by omega), if_neg (by omega), if_pos (by omega)]; first | rw [if_pos (by omega)] | rw [if_neg (by omega)]) | (rw [if_neg (by omega), if_neg (by omega), if_neg (by omega), if_pos (by omega)]; first | rw [if_pos (by omega), Int.two_mul, Int.add_assoc] | rw [if_neg (by omega), Int.two_mul, Int.add_assoc]), rfl, rfl, rfl, rfl⟩)
    · refine z_iconst 43 dL_gain_42 rfl ?_
      refine z_goto 109 dL_gain_43 (by decide) ?_
      exact z_ireturn dL_gain_109 rfl (⟨by unfold sgn sgo cgo; first | rw [if_neg (by omega), if_neg (by omega), if_neg (by omega), if_neg (by omega)] | rw [if_pos (by omega)] | (rw [if_neg (by omega), if_pos (by omega)]; first | rw [if_pos (by omega)] | rw [if_neg (by omega)]) | (rw [if_neg (by omega), if_neg (by omega), if_pos (by omega)]; first | rw [if_pos (by omega)] | rw [if_neg (by omega)]) | (rw [if_neg (by omega), if_neg (by omega), if_neg (by omega), if_pos (by omega)]; first | rw [if_pos (by omega), Int.two_mul, Int.add_assoc] | rw [if_neg (by omega), Int.two_mul, Int.add_assoc]), rfl, rfl, rfl, rfl⟩)
  · refine z_iconst 31 dL_gain_30 rfl ?_
    refine z_goto 35 dL_gain_31 (by decide) ?_
    refine z_istore6 37 dL_gain_35 (Nat.le_of_ble_eq_true rfl) rfl rfl ?_
    refine z_iload4 39 dL_gain_37 rfl ?_
    refine z_if_ne 46 42 dL_gain_39 (by decide) rfl (by omega) (fun h39 => ?_) (fun h39 => ?_)
    · refine z_iload4 48 dL_gain_46 rfl ?_
      refine z_iconst 49 dL_gain_48 rfl ?_
      refine z_icmp_ne 57 52 dL_gain_49 (by decide) rfl (by omega) (by omega) (fun h49 => ?_) (fun h49 => ?_)
      · refine z_iload4 59 dL_gain_57 rfl ?_
        refine z_iconst 60 dL_gain_59 rfl ?_
        refine z_icmp_ne 68 63 dL_gain_60 (by decide) rfl (by omega) (by omega) (fun h60 => ?_) (fun h60 => ?_)
        · refine z_iload4 70 dL_gain_68 rfl ?_
          refine z_iconst 71 dL_gain_70 rfl ?_
          refine z_icmp_ne 93 74 dL_gain_71 (by decide) rfl (by omega) (by omega) (fun h71 => ?_) (fun h71 => ?_)
          · refine z_iload6 95 dL_gain_93 rfl ?_
            refine z_aload0 96 dL_gain_95 rfl ?_
            refine z_bipush 98 dL_gain_96 (by decide) rfl ?_
            refine z_iload2 99 dL_gain_98 rfl ?_
            refine z_iadd 100 dL_gain_99 rfl ?_
            refine z_ialdx 101 (13 + t) dL_gain_100 (by assumption) (by omega) (by omega) (wN_b _ _ _ ht) rfl ?_
            refine z_iadd 102 dL_gain_101 rfl ?_
            refine z_aload0 103 dL_gain_102 rfl ?_
            refine z_bipush 105 dL_gain_103 (by decide) rfl ?_
            refine z_iload2 106 dL_gain_105 rfl ?_
            refine z_iadd 107 dL_gain_106 rfl ?_
            refine z_ialdx 108 (13 + t) dL_gain_107 (by assumption) (by omega) (by omega) (wN_b _ _ _ ht) rfl ?_
            refine z_iadd 109 dL_gain_108 rfl ?_
            exact z_ireturn dL_gain_109 rfl (⟨by unfold sgn sgo cgo; first | rw [if_neg (by omega), if_neg (by omega), if_neg (by omega), if_neg (by omega)] | rw [if_pos (by omega)] | (rw [if_neg (by omega), if_pos (by omega)]; first | rw [if_pos (by omega)] | rw [if_neg (by omega)]) | (rw [if_neg (by omega), if_neg (by omega), if_pos (by omega)]; first | rw [if_pos (by omega)] | rw [if_neg (by omega)]) | (rw [if_neg (by omega), if_neg (by omega), if_neg (by omega), if_pos (by omega)]; first | rw [if_pos (by omega), Int.two_mul, Int.add_assoc] | rw [if_neg (by omega), Int.two_mul, Int.add_assoc]), rfl, rfl, rfl, rfl⟩)
          · refine z_iload2 75 dL_gain_74 rfl ?_
            refine z_iconst 76 dL_gain_75 rfl ?_
            refine z_iand 77 dL_gain_76 rfl ?_
            rw [e1]
            refine z_iconst 78 dL_gain_77 rfl ?_
            refine z_icmp_ne 88 81 dL_gain_78 (by decide) rfl (by omega) (by omega) (fun h78 => ?_) (fun h78 => ?_)
            · refine z_iload5 90 dL_gain_88 rfl ?_
              refine z_goto 109 dL_gain_90 (by decide) ?_
              exact z_ireturn dL_gain_109 rfl (⟨by unfold sgn sgo cgo; first | rw [if_neg (by omega), if_neg (by omega), if_neg (by omega), if_neg (by omega)] | rw [if_pos (by omega)] | (rw [if_neg (by omega), if_pos (by omega)]; first | rw [if_pos (by omega)] | rw [if_neg (by omega)]) | (rw [if_neg (by omega), if_neg (by omega), if_pos (by omega)]; first | rw [if_pos (by omega)] | rw [if_neg (by omega)]) | (rw [if_neg (by omega), if_neg (by omega), if_neg (by omega), if_pos (by omega)]; first | rw [if_pos (by omega), Int.two_mul, Int.add_assoc] | rw [if_neg (by omega), Int.two_mul, Int.add_assoc]), rfl, rfl, rfl, rfl⟩)
            · refine z_iload5 83 dL_gain_81 rfl ?_
              refine z_iconst 84 dL_gain_83 rfl ?_
              refine z_idiv 85 dL_gain_84 (by omega) (by omega) rfl ?_
              refine z_goto 109 dL_gain_85 (by decide) ?_
              exact z_ireturn dL_gain_109 rfl (⟨by unfold sgn sgo cgo; first | rw [if_neg (by omega), if_neg (by omega), if_neg (by omega), if_neg (by omega)] | rw [if_pos (by omega)] | (rw [if_neg (by omega), if_pos (by omega)]; first | rw [if_pos (by omega)] | rw [if_neg (by omega)]) | (rw [if_neg (by omega), if_neg (by omega), if_pos (by omega)]; first | rw [if_pos (by omega)] | rw [if_neg (by omega)]) | (rw [if_neg (by omega), if_neg (by omega), if_neg (by omega), if_pos (by omega)]; first | rw [if_pos (by omega), Int.two_mul, Int.add_assoc] | rw [if_neg (by omega), Int.two_mul, Int.add_assoc]), rfl, rfl, rfl, rfl⟩)
        · refine z_iload6 65 dL_gain_63 rfl ?_
          refine z_goto 109 dL_gain_65 (by decide) ?_
          exact z_ireturn dL_gain_109 rfl (⟨by unfold sgn sgo cgo; first | rw [if_neg (by omega), if_neg (by omega), if_neg (by omega), if_neg (by omega)] | rw [if_pos (by omega)] | (rw [if_neg (by omega), if_pos (by omega)]; first | rw [if_pos (by omega)] | rw [if_neg (by omega)]) | (rw [if_neg (by omega), if_neg (by omega), if_pos (by omega)]; first | rw [if_pos (by omega)] | rw [if_neg (by omega)]) | (rw [if_neg (by omega), if_neg (by omega), if_neg (by omega), if_pos (by omega)]; first | rw [if_pos (by omega), Int.two_mul, Int.add_assoc] | rw [if_neg (by omega), Int.two_mul, Int.add_assoc]), rfl, rfl, rfl, rfl⟩)
      · refine z_iload5 54 dL_gain_52 rfl ?_
        refine z_goto 109 dL_gain_54 (by decide) ?_
        exact z_ireturn dL_gain_109 rfl (⟨by unfold sgn sgo cgo; first | rw [if_neg (by omega), if_neg (by omega), if_neg (by omega), if_neg (by omega)] | rw [if_pos (by omega)] | (rw [if_neg (by omega), if_pos (by omega)]; first | rw [if_pos (by omega)] | rw [if_neg (by omega)]) | (rw [if_neg (by omega), if_neg (by omega), if_pos (by omega)]; first | rw [if_pos (by omega)] | rw [if_neg (by omega)]) | (rw [if_neg (by omega), if_neg (by omega), if_neg (by omega), if_pos (by omega)]; first | rw [if_pos (by omega), Int.two_mul, Int.add_assoc] | rw [if_neg (by omega), Int.two_mul, Int.add_assoc]), rfl, rfl, rfl, rfl⟩)
    · refine z_iconst 43 dL_gain_42 rfl ?_
      refine z_goto 109 dL_gain_43 (by decide) ?_
      exact z_ireturn dL_gain_109 rfl (⟨by unfold sgn sgo cgo; first | rw [if_neg (by omega), if_neg (by omega), if_neg (by omega), if_neg (by omega)] | rw [if_pos (by omega)] | (rw [if_neg (by omega), if_pos (by omega)]; first | rw [if_pos (by omega)] | rw [if_neg (by omega)]) | (rw [if_neg (by omega), if_neg (by omega), if_pos (by omega)]; first | rw [if_pos (by omega)] | rw [if_neg (by omega)]) | (rw [if_neg (by omega), if_neg (by omega), if_neg (by omega), if_pos (by omega)]; first | rw [if_pos (by omega), Int.two_mul, Int.add_assoc] | rw [if_neg (by omega), Int.two_mul, Int.add_assoc]), rfl, rfl, rfl, rfl⟩)
end PSM
