/-! ===== a Tape at place p: its object (0 letters, 1 length, 2 place), its row of 70 behind it ===== -/
def zTp (sh : zH) (R : zR2) (p : Nat) : Prop := sh[p]? = some (5, 3) ∧ sh[p + 1]? = some (20, 70) ∧ R p 0 = some (p + 1)
/-- T: the letters, n: how many -/
def zTr (I : zI2) (p : Nat) (T : Nat → Int) (n : Nat) : Prop := I p 1 = (n : Int) ∧ n ≤ 70 ∧ I (p + 1) = T ∧ ∀ j, j < 70 → 0 ≤ T j ∧ T j ≤ 126
def ztk (I : zI2) (p k : Nat) : zI2 := zup I p 2 (k : Int)
theorem ztk_k (I : zI2) (p k : Nat) : ztk I p k p 2 = (k : Int) := zup_at _ _ _ _
theorem ztk_1 (I : zI2) (p k : Nat) : ztk I p k p 1 = I p 1 := zup_ne _ _ (by omega)
theorem ztk_o (I : zI2) (p k : Nat) {a : Nat} (h : a ≠ p) : ztk I p k a = I a := zup_row _ _ h
theorem ztk_up (I : zI2) (p k k' : Nat) {v : Int} (hv : v = (k' : Int)) : zup (ztk I p k) p 2 v = ztk I p k' := by
  subst hv
  funext a c
  unfold ztk zup
  split <;> rfl
theorem ztk_sl (I : zI2) (p k b : Nat) (S : zT) (hp : p < b ∨ b + 7 ≤ p) : ztk (zsl I b S) p k = zsl (ztk I p k) b S := zsl_upo I b S hp 2 _
theorem ztk_slu (I : zI2) (p k b : Nat) (S : zT) (hp : p < b ∨ b + 7 ≤ p) {i : Nat} (hi : i < 7) (j : Nat) (v : Int) : zup (ztk (zsl I b S) p k) (b + i) j v = ztk (zsl I b (zup S i j v)) p k := by
  rw [ztk_sl _ _ _ _ _ hp, zsl_up _ _ _ hi, ← ztk_sl _ _ _ _ _ hp]
theorem ztk_slu0 (I : zI2) (p k b : Nat) (S : zT) (hp : p < b ∨ b + 7 ≤ p) (j : Nat) (v : Int) : zup (ztk (zsl I b S) p k) b j v = ztk (zsl I b (zup S 0 j v)) p k := ztk_slu I p k b S hp (i := 0) (by decide) j v
theorem zTr_sl {I : zI2} {p : Nat} {T : Nat → Int} {n : Nat} (h : zTr I p T n) {b : Nat} (S : zT) (hp : p + 2 ≤ b ∨ b + 7 ≤ p) : zTr (zsl I b S) p T n := by
  refine ⟨?_, h.2.1, ?_, h.2.2.2⟩
  · rw [zsl_o I b S (by omega)]; exact h.1
  · rw [zsl_oR I b S (by omega)]; exact h.2.2.1
def tat (T : Nat → Int) (n k : Nat) : Int := if k < n then T k else -1
def tsk (T : Nat → Int) (n : Nat) : Nat → Nat → Nat
  | 0, k => k
  | m + 1, k => if T k = 32 then tsk T n m (k + 1) else k
/-- the place of the next letter -/
def tnl (T : Nat → Int) (n k : Nat) : Nat := tsk T n (n - k) k
theorem tsk_r (T : Nat → Int) (n : Nat) : ∀ m k, k + m = n → k ≤ tsk T n m k ∧ tsk T n m k ≤ n
  | 0, k, h => by unfold tsk; omega
  | m + 1, k, h => by
    unfold tsk
    split
    · have := tsk_r T n m (k + 1) (by omega)
      omega
    · omega
theorem tnl_r (T : Nat → Int) (n k : Nat) (h : k ≤ n) : k ≤ tnl T n k ∧ tnl T n k ≤ n := tsk_r T n (n - k) k (by omega)
def tdg (T : Nat → Int) (n : Nat) (lo hi : Int) (k : Nat) : Int × Nat := if lo ≤ tat T n (tnl T n k) ∧ tat T n (tnl T n k) ≤ hi then (tat T n (tnl T n k) - 48, tnl T n k + 1) else (-4, tnl T n k)
theorem tat_lt {T : Nat → Int} {n k : Nat} (h : 0 ≤ tat T n k) : k < n := by
  unfold tat at h
  split at h
  · assumption
  · omega
theorem tat_r {T : Nat → Int} {n k : Nat} (hT : ∀ j, j < 70 → 0 ≤ T j ∧ T j ≤ 126) (hn : n ≤ 70) : -1 ≤ tat T n k ∧ tat T n k ≤ 126 := by
  unfold tat
  split
  · have := hT k (by omega); omega
  · omega
theorem tdg_r {T : Nat → Int} {n k : Nat} {lo hi : Int} (h : k ≤ n) (hlo : 0 ≤ lo) : k ≤ (tdg T n lo hi k).2 ∧ (tdg T n lo hi k).2 ≤ n ∧ ((tdg T n lo hi k).1 = -4 ∨ (lo - 48 ≤ (tdg T n lo hi k).1 ∧ (tdg T n lo hi k).1 ≤ hi - 48)) := by
  have h1 := tnl_r T n k h
  unfold tdg
  split
  · rename_i h2
    have h3 := tat_lt (T := T) (n := n) (k := tnl T n k) (by omega)
    refine ⟨?_, ?_, Or.inr ⟨?_, ?_⟩⟩
    · show k ≤ tnl T n k + 1; omega
    · show tnl T n k + 1 ≤ n; omega
    · show lo - 48 ≤ tat T n (tnl T n k) - 48; omega
    · show tat T n (tnl T n k) - 48 ≤ hi - 48; omega
  · exact ⟨h1.1, h1.2, Or.inl rfl⟩
def thv (T : Nat → Int) (n k : Nat) : Int × Nat :=
  if (tdg T n 48 57 k).1 = -4 then (-4, (tdg T n 48 57 k).2)
  else if 48 ≤ tat T n (tdg T n 48 57 k).2 ∧ tat T n (tdg T n 48 57 k).2 ≤ 57 then
    (if 1 ≤ 10 * (tdg T n 48 57 k).1 + tat T n (tdg T n 48 57 k).2 - 48 ∧ 10 * (tdg T n 48 57 k).1 + tat T n (tdg T n 48 57 k).2 - 48 ≤ 20 then (10 * (tdg T n 48 57 k).1 + tat T n (tdg T n 48 57 k).2 - 48, (tdg T n 48 57 k).2 + 1) else (-4, (tdg T n 48 57 k).2 - 1))
  else if 1 ≤ (tdg T n 48 57 k).1 ∧ (tdg T n 48 57 k).1 ≤ 20 then ((tdg T n 48 57 k).1, (tdg T n 48 57 k).2) else (-4, (tdg T n 48 57 k).2 - 1)
/-- HEAVY as it is read, a digit a step: f where it begins, v what is read, k where it goes on -/
def thl (T : Nat → Int) (n f : Nat) : Nat → Int → Nat → Int × Nat
  | 0, v, k => if 1 ≤ v ∧ v ≤ 20 then (v, k) else (-4, f)
  | m + 1, v, k => if 48 ≤ tat T n k ∧ tat T n k ≤ 57 then thl T n f m (10 * v + tat T n k - 48) (k + 1) else if 1 ≤ v ∧ v ≤ 20 then (v, k) else (-4, f)
theorem thl_thv (T : Nat → Int) (n k : Nat) : thl T n (tnl T n k) 2 0 (tnl T n k) = thv T n k := by
  unfold thv tdg
  by_cases h : 48 ≤ tat T n (tnl T n k) ∧ tat T n (tnl T n k) ≤ 57
  · rw [thl, if_pos h, if_pos h, if_neg (show ¬ tat T n (tnl T n k) - 48 = -4 by omega), show (10 * 0 + tat T n (tnl T n k) - 48 : Int) = tat T n (tnl T n k) - 48 by omega]
    by_cases h2 : 48 ≤ tat T n (tnl T n k + 1) ∧ tat T n (tnl T n k + 1) ≤ 57
    · rw [thl, if_pos h2, if_pos h2, thl]
      rfl
    · rw [thl, if_neg h2, if_neg h2]
      rfl
  · rw [thl, if_neg h, if_neg h, if_pos rfl, if_neg (by omega)]
def tkd (x : Int) : Int := if x = 112 then 0 else if x = 115 then 1 else if x = 99 then 2 else if x = 110 then 3 else if x = 107 then 4 else -4
section TAPE
variable {X : zXs} {sh : zH} {I L : zI2} {R : zR2} {p n : Nat} {T : Nat → Int}
theorem ct_X5_clear (hs : zTp sh R p) : zE X mX5_clear 0 0 0 [zR p] [] sh I L R (zEq [] sh (zup I p 1 0) L R) := by
  obtain ⟨s0, s1, r0⟩ := id hs
  refine z_aload0 1 dX5_clear_0 rfl ?_
  refine z_iconst 2 dX5_clear_1 rfl ?_
  refine z_putI 5 dX5_clear_2 fp_RX5_15 (by assumption) rfl ?_
  exact z_return dX5_clear_5 rfl (⟨rfl, rfl, rfl, rfl, rfl⟩)
theorem ct_X5_append {x : Int} (hs : zTp sh R p) (hI : I p 1 = (n : Int)) (hn : n < 70) : zE X mX5_append 0 0 0 [zR p, zI x] [] sh I L R (zEq [zI ((n : Int) + 1)] sh (zup (zup I (p + 1) n x) p 1 ((n : Int) + 1)) L R) := by
  obtain ⟨s0, s1, r0⟩ := id hs
  refine z_aload0 1 dX5_append_0 rfl ?_
  refine z_getIx 4 dX5_append_1 fl_RX5_15 (by assumption) (hI) rfl ?_
  refine z_aload0 5 dX5_append_4 rfl ?_
  refine z_getR 8 dX5_append_5 fl_RX5_9 (by assumption) (by assumption) rfl ?_
  refine z_alen 9 dX5_append_8 (by assumption) (by decide) rfl ?_
  refine z_icmp_lt 15 12 dX5_append_9 (by decide) rfl (by omega) (by omega) (fun h9 => ?_) (fun hz => absurd hz (by omega))
  refine z_aload0 16 dX5_append_15 rfl ?_
  refine z_getR 19 dX5_append_16 fl_RX5_9 (by assumption) (by assumption) rfl ?_
  refine z_aload0 20 dX5_append_19 rfl ?_
  refine z_getIx 23 dX5_append_20 fl_RX5_15 (by assumption) (hI) rfl ?_
  refine z_iload1 24 dX5_append_23 rfl ?_
  refine z_iastN 25 (n) dX5_append_24 (by assumption) (by omega) (by omega) rfl ?_
  refine z_aload0 26 dX5_append_25 rfl ?_
  refine z_dup 27 dX5_append_26 rfl rfl ?_
  refine z_getIx 30 dX5_append_27 fl_RX5_15 (by assumption) ((zup_ne _ _ (by omega)).trans hI) rfl ?_
  refine z_iconst 31 dX5_append_30 rfl ?_
  refine z_iadd 32 dX5_append_31 rfl ?_
  refine z_putI 35 dX5_append_32 fp_RX5_15 (by assumption) rfl ?_
  refine z_aload0 36 dX5_append_35 rfl ?_
  refine z_getIx 39 dX5_append_36 fl_RX5_15 (by assumption) (zup_at _ _ _ _) rfl ?_
  exact z_ireturn dX5_append_39 rfl (⟨rfl, rfl, rfl, rfl, rfl⟩)
theorem ct_X5_append_full {x : Int} (hs : zTp sh R p) (hI : I p 1 = 70) : zE X mX5_append 0 0 0 [zR p, zI x] [] sh I L R (zEq [zI (-3)] sh I L R) := by
  obtain ⟨s0, s1, r0⟩ := id hs
  refine z_aload0 1 dX5_append_0 rfl ?_
  refine z_getIx 4 dX5_append_1 fl_RX5_15 (by assumption) (hI) rfl ?_
  refine z_aload0 5 dX5_append_4 rfl ?_
  refine z_getR 8 dX5_append_5 fl_RX5_9 (by assumption) (by assumption) rfl ?_
  refine z_alen 9 dX5_append_8 (by assumption) (by decide) rfl ?_
  refine z_icmp_lt 15 12 dX5_append_9 (by decide) rfl (by omega) (by omega) (fun hz => absurd hz (by omega)) (fun h9 => ?_)
  refine z_bipush 14 dX5_append_12 (by decide) rfl ?_
  exact z_ireturn dX5_append_14 rfl (⟨rfl, rfl, rfl, rfl, rfl⟩)
theorem ct_X5_letterHere {k : Nat} (hs : zTp sh R p) (ht : zTr I p T n) (hk : k ≤ 1000) : zE X mX5_letterHere 0 0 0 [zR p] [] sh (ztk I p k) L R (zEq [zI (tat T n k)] sh (ztk I p k) L R) := by
  obtain ⟨s0, s1, r0⟩ := id hs
  obtain ⟨t1, t2, t3, t4⟩ := id ht
  refine z_aload0 1 dX5_letterHere_0 rfl ?_
  refine z_getIx 4 dX5_letterHere_1 fl_RX5_19 (by assumption) (ztk_k _ _ _) rfl ?_
  refine z_aload0 5 dX5_letterHere_4 rfl ?_
  refine z_getIx 8 dX5_letterHere_5 fl_RX5_15 (by assumption) ((ztk_1 _ _ _).trans t1) rfl ?_
  refine z_icmp_ge 23 11 dX5_letterHere_8 (by decide) rfl (by omega) (by omega) (fun h8 => ?_) (fun h8 => ?_)
  · refine z_iconst 24 dX5_letterHere_23 rfl ?_
    exact z_ireturn dX5_letterHere_24 rfl (⟨by unfold tat; first | rw [if_pos (by omega)] | rw [if_neg (by omega)], rfl, rfl, rfl, rfl⟩)
  · refine z_aload0 12 dX5_letterHere_11 rfl ?_
    refine z_getR 15 dX5_letterHere_12 fl_RX5_9 (by assumption) (by assumption) rfl ?_
    refine z_aload0 16 dX5_letterHere_15 rfl ?_
    refine z_getIx 19 dX5_letterHere_16 fl_RX5_19 (by assumption) (ztk_k _ _ _) rfl ?_
    refine z_ialdx 20 (k) dX5_letterHere_19 (by assumption) (by omega) (by omega) ((congrFun ((ztk_o _ _ _ (by omega)).trans t3) _)) rfl ?_
    refine z_goto 24 dX5_letterHere_20 (by decide) ?_
    exact z_ireturn dX5_letterHere_24 rfl (⟨by unfold tat; first | rw [if_pos (by omega)] | rw [if_neg (by omega)], rfl, rfl, rfl, rfl⟩)
theorem lp_X5_skipBlanks (hs : zTp sh R p) (ht : zTr I p T n) : ∀ (m k : Nat), k + m = n → zE X mX5_skipBlanks 0 0 0 [zR p] [] sh (ztk I p k) L R (zEq [] sh (ztk I p (tsk T n m k)) L R)
  | 0, k, h => by
    obtain ⟨s0, s1, r0⟩ := id hs
    obtain ⟨t1, t2, t3, t4⟩ := id ht
    refine z_aload0 1 dX5_skipBlanks_0 rfl ?_
    refine z_getIx 4 dX5_skipBlanks_1 fl_RX5_19 (by assumption) (ztk_k _ _ _) rfl ?_
    refine z_aload0 5 dX5_skipBlanks_4 rfl ?_
    refine z_getIx 8 dX5_skipBlanks_5 fl_RX5_15 (by assumption) ((ztk_1 _ _ _).trans t1) rfl ?_
    refine z_icmp_ge 38 11 dX5_skipBlanks_8 (by decide) rfl (by omega) (by omega) (fun h8 => ?_) (fun hz => absurd hz (by omega))
    exact z_return dX5_skipBlanks_38 rfl (⟨rfl, rfl, rfl, rfl, rfl⟩)
  | m + 1, k, h => by
    obtain ⟨s0, s1, r0⟩ := id hs
    obtain ⟨t1, t2, t3, t4⟩ := id ht
    have hk := t4 k (by omega)
    refine z_aload0 1 dX5_skipBlanks_0 rfl ?_
    refine z_getIx 4 dX5_skipBlanks_1 fl_RX5_19 (by assumption) (ztk_k _ _ _) rfl ?_
    refine z_aload0 5 dX5_skipBlanks_4 rfl ?_
    refine z_getIx 8 dX5_skipBlanks_5 fl_RX5_15 (by assumption) ((ztk_1 _ _ _).trans t1) rfl ?_
    refine z_icmp_ge 38 11 dX5_skipBlanks_8 (by decide) rfl (by omega) (by omega) (fun hz => absurd hz (by omega)) (fun h8 => ?_)
    refine z_aload0 12 dX5_skipBlanks_11 rfl ?_
    refine z_getR 15 dX5_skipBlanks_12 fl_RX5_9 (by assumption) (by assumption) rfl ?_
    refine z_aload0 16 dX5_skipBlanks_15 rfl ?_
    refine z_getIx 19 dX5_skipBlanks_16 fl_RX5_19 (by assumption) (ztk_k _ _ _) rfl ?_
    refine z_ialdx 20 (k) dX5_skipBlanks_19 (by assumption) (by omega) (by omega) ((congrFun ((ztk_o _ _ _ (by omega)).trans t3) _)) rfl ?_
    refine z_bipush 22 dX5_skipBlanks_20 (by decide) rfl ?_
    refine z_icmp_ne 38 25 dX5_skipBlanks_22 (by decide) rfl (by omega) (by omega) (fun h22 => ?_) (fun h22 => ?_)
    · rw [show tsk T n (m + 1) k = k by rw [tsk, if_neg h22]]
      exact z_return dX5_skipBlanks_38 rfl (⟨rfl, rfl, rfl, rfl, rfl⟩)
    · refine z_aload0 26 dX5_skipBlanks_25 rfl ?_
      refine z_dup 27 dX5_skipBlanks_26 rfl rfl ?_
      refine z_getIx 30 dX5_skipBlanks_27 fl_RX5_19 (by assumption) (ztk_k _ _ _) rfl ?_
      refine z_iconst 31 dX5_skipBlanks_30 rfl ?_
      refine z_iadd 32 dX5_skipBlanks_31 rfl ?_
      refine z_putIx 35 dX5_skipBlanks_32 fp_RX5_19 (by assumption) (ztk_up _ _ _ (k + 1) (by omega)) rfl ?_
      refine z_goto 0 dX5_skipBlanks_35 (by decide) ?_
      rw [show tsk T n (m + 1) k = tsk T n m (k + 1) by rw [tsk, if_pos h22]]
      exact lp_X5_skipBlanks hs ht m (k + 1) (by omega)
theorem ct_X5_skipBlanks {k : Nat} (hs : zTp sh R p) (ht : zTr I p T n) (hk : k ≤ n) : zE X mX5_skipBlanks 0 0 0 [zR p] [] sh (ztk I p k) L R (zEq [] sh (ztk I p (tnl T n k)) L R) := lp_X5_skipBlanks hs ht (n - k) k (by omega)
theorem ct_X5_nextLetter {k : Nat} (hs : zTp sh R p) (ht : zTr I p T n) (hk : k ≤ n) : zE X mX5_nextLetter 0 0 0 [zR p] [] sh (ztk I p k) L R (zEq [zI (tat T n (tnl T n k))] sh (ztk I p (tnl T n k)) L R) := by
  obtain ⟨s0, s1, r0⟩ := id hs
  have hk1 := tnl_r T n k hk
  have t2 := ht.2.1
  refine z_aload0 1 dX5_nextLetter_0 rfl ?_
  refine z_xVv0 4 dX5_nextLetter_1 lk_X5_nextLetter_65 (ct_X5_skipBlanks hs ht hk) rfl (Nat.le_of_ble_eq_true rfl) (Nat.le_of_ble_eq_true rfl) (by assumption) rfl rfl ?_
  refine z_aload0 5 dX5_nextLetter_4 rfl ?_
  refine z_xV0 8 dX5_nextLetter_5 lk_X5_nextLetter_68 (ct_X5_letterHere hs ht (by omega)) rfl (Nat.le_of_ble_eq_true rfl) (Nat.le_of_ble_eq_true rfl) (by assumption) rfl rfl ?_
  exact z_ireturn dX5_nextLetter_8 rfl (⟨rfl, rfl, rfl, rfl, rfl⟩)
theorem ct_X5_readDigit {k : Nat} {lo hi : Int} (hs : zTp sh R p) (ht : zTr I p T n) (hk : k ≤ n) (hlo : 0 ≤ lo ∧ lo ≤ 1000) (hhi : 0 ≤ hi ∧ hi ≤ 1000) : zE X mX5_readDigit 0 0 0 [zR p, zI lo, zI hi, zX] [] sh (ztk I p k) L R (zEq [zI (tdg T n lo hi k).1] sh (ztk I p (tdg T n lo hi k).2) L R) := by
  obtain ⟨s0, s1, r0⟩ := id hs
  obtain ⟨t1, t2, t3, t4⟩ := id ht
  have ha := tat_r (k := tnl T n k) t4 t2
  have hz := zwi_r (tat T n (tnl T n k)) lo hi
  refine z_aload0 1 dX5_readDigit_0 rfl ?_
  refine z_xV0 4 dX5_readDigit_1 lk_X5_readDigit_37 (ct_X5_nextLetter hs ht hk) rfl (Nat.le_of_ble_eq_true rfl) (Nat.le_of_ble_eq_true rfl) (by assumption) rfl rfl ?_
  refine z_istore3 5 dX5_readDigit_4 (Nat.le_of_ble_eq_true rfl) rfl rfl ?_
  refine z_iload3 6 dX5_readDigit_5 rfl ?_
  refine z_iload1 7 dX5_readDigit_6 rfl ?_
  refine z_iload2 8 dX5_readDigit_7 rfl ?_
  refine z_xSN3 11 dX5_readDigit_8 lk_X5_readDigit_71 (ct_X6_within (by omega) (by omega) (by omega)) rfl (Nat.le_of_ble_eq_true rfl) (Nat.le_of_ble_eq_true rfl) rfl ?_
  refine z_if_ne 17 14 dX5_readDigit_11 (by decide) rfl (by omega) (fun h11 => ?_) (fun h11 => ?_)
  · refine z_aload0 18 dX5_readDigit_17 rfl ?_
    refine z_dup 19 dX5_readDigit_18 rfl rfl ?_
    refine z_getIx 22 dX5_readDigit_19 fl_RX5_19 (by assumption) (ztk_k _ _ _) rfl ?_
    refine z_iconst 23 dX5_readDigit_22 rfl ?_
    refine z_iadd 24 dX5_readDigit_23 rfl ?_
    refine z_putIx 27 dX5_readDigit_24 fp_RX5_19 (by assumption) (ztk_up _ _ _ (tnl T n k + 1) (by omega)) rfl ?_
    refine z_iload3 28 dX5_readDigit_27 rfl ?_
    refine z_bipush 30 dX5_readDigit_28 (by decide) rfl ?_
    refine z_isub 31 dX5_readDigit_30 rfl ?_
    exact z_ireturn dX5_readDigit_31 rfl (⟨by unfold tdg; rw [if_pos (zwi_ne0 h11)], rfl, by unfold tdg; rw [if_pos (zwi_ne0 h11)], rfl, rfl⟩)
  · refine z_bipush 16 dX5_readDigit_14 (by decide) rfl ?_
    exact z_ireturn dX5_readDigit_16 rfl (⟨by unfold tdg; rw [if_neg (zwi_eq0 h11)], rfl, by unfold tdg; rw [if_neg (zwi_eq0 h11)], rfl, rfl⟩)
theorem ct_X5_kindOf {x : Int} (hx : -2147483648 ≤ x ∧ x ≤ 2147483647) : zE X mX5_kindOf 0 0 0 [zI x] [] sh I L R (zEq [zI (tkd x)] sh I L R) := by
  by_cases h0 : x = 112
  · subst h0
    refine z_iload0 1 dX5_kindOf_0 rfl ?_
    refine z_lksw 52 (off := 51) dX5_kindOf_1 (by omega) (by decide) (by decide) (by decide) ?_
    refine z_iconst 53 dX5_kindOf_52 rfl ?_
    exact z_ireturn dX5_kindOf_53 rfl (⟨rfl, rfl, rfl, rfl, rfl⟩)
  by_cases h1 : x = 115
  · subst h1
    refine z_iload0 1 dX5_kindOf_0 rfl ?_
    refine z_lksw 54 (off := 53) dX5_kindOf_1 (by omega) (by decide) (by decide) (by decide) ?_
    refine z_iconst 55 dX5_kindOf_54 rfl ?_
    exact z_ireturn dX5_kindOf_55 rfl (⟨rfl, rfl, rfl, rfl, rfl⟩)
  by_cases h2 : x = 99
  · subst h2
    refine z_iload0 1 dX5_kindOf_0 rfl ?_
    refine z_lksw 56 (off := 55) dX5_kindOf_1 (by omega) (by decide) (by decide) (by decide) ?_
    refine z_iconst 57 dX5_kindOf_56 rfl ?_
    exact z_ireturn dX5_kindOf_57 rfl (⟨rfl, rfl, rfl, rfl, rfl⟩)
  by_cases h3 : x = 110
  · subst h3
    refine z_iload0 1 dX5_kindOf_0 rfl ?_
    refine z_lksw 58 (off := 57) dX5_kindOf_1 (by omega) (by decide) (by decide) (by decide) ?_
    refine z_iconst 59 dX5_kindOf_58 rfl ?_
    exact z_ireturn dX5_kindOf_59 rfl (⟨rfl, rfl, rfl, rfl, rfl⟩)
  by_cases h4 : x = 107
  · subst h4
    refine z_iload0 1 dX5_kindOf_0 rfl ?_
    refine z_lksw 60 (off := 59) dX5_kindOf_1 (by omega) (by decide) (by decide) (by decide) ?_
    refine z_iconst 61 dX5_kindOf_60 rfl ?_
    exact z_ireturn dX5_kindOf_61 rfl (⟨rfl, rfl, rfl, rfl, rfl⟩)
  have hk : Op.lookupswitch.offset [(99, 55), (107, 59), (110, 57), (112, 51), (115, 53)] 61 x = 61 := by
    rw [Op.lookupswitch.offset_cons, if_neg (by omega), Op.lookupswitch.offset_cons, if_neg (by omega), Op.lookupswitch.offset_cons, if_neg (by omega), Op.lookupswitch.offset_cons, if_neg (by omega), Op.lookupswitch.offset_cons, if_neg (by omega)]
    rfl
  have ht : tkd x = -4 := by unfold tkd; rw [if_neg h0, if_neg h1, if_neg h2, if_neg h3, if_neg h4]
  rw [ht]
  refine z_iload0 1 dX5_kindOf_0 rfl ?_
  refine z_lksw 62 (off := 61) dX5_kindOf_1 (by omega) (by decide) (hk) (by decide) ?_
  refine z_bipush 64 dX5_kindOf_62 (by decide) rfl ?_
  exact z_ireturn dX5_kindOf_64 rfl (⟨rfl, rfl, rfl, rfl, rfl⟩)
theorem lp_X5_readHeavy (hs : zTp sh R p) (ht : zTr I p T n) (f : Nat) (hf : f ≤ n) : ∀ (m d k : Nat) (v : Int), d + m = 2 → k ≤ n → 0 ≤ v ∧ v ≤ 99 ∧ (d = 0 ∧ v = 0 ∨ d = 1 ∧ v ≤ 9 ∨ d = 2) → zE X mX5_readHeavy 0 0 13 [zR p, zI (f : Int), zI v, zI (d : Int)] [] sh (ztk I p k) L R (zEq [zI (thl T n f m v k).1] sh (ztk I p (thl T n f m v k).2) L R)
  | 0, d, k, v, h, hk, hv => by
    obtain ⟨s0, s1, r0⟩ := id hs
    have hz := zwi_r v 1 20
    refine z_iload3 14 dX5_readHeavy_13 rfl ?_
    refine z_iconst 15 dX5_readHeavy_14 rfl ?_
    refine z_icmp_ge 61 18 dX5_readHeavy_15 (by decide) rfl (by omega) (by omega) (fun h15 => ?_) (fun hz => absurd hz (by omega))
    refine z_iload2 62 dX5_readHeavy_61 rfl ?_
    refine z_iconst 63 dX5_readHeavy_62 rfl ?_
    refine z_bipush 65 dX5_readHeavy_63 (by decide) rfl ?_
    refine z_xSN3 68 dX5_readHeavy_65 lk_X5_readHeavy_71 (ct_X6_within (by omega) (by omega) (by omega)) rfl (Nat.le_of_ble_eq_true rfl) (Nat.le_of_ble_eq_true rfl) rfl ?_
    refine z_if_ne 79 71 dX5_readHeavy_68 (by decide) rfl (by omega) (fun h68 => ?_) (fun h68 => ?_)
    · refine z_iload2 80 dX5_readHeavy_79 rfl ?_
      exact z_ireturn dX5_readHeavy_80 rfl (⟨by rw [thl, if_pos (zwi_ne0 h68)], rfl, by rw [thl, if_pos (zwi_ne0 h68)], rfl, rfl⟩)
    · refine z_aload0 72 dX5_readHeavy_71 rfl ?_
      refine z_iload1 73 dX5_readHeavy_72 rfl ?_
      refine z_putIx 76 dX5_readHeavy_73 fp_RX5_19 (by assumption) (ztk_up _ _ _ f (by omega)) rfl ?_
      refine z_bipush 78 dX5_readHeavy_76 (by decide) rfl ?_
      exact z_ireturn dX5_readHeavy_78 rfl (⟨by rw [thl, if_neg (zwi_eq0 h68)], rfl, by rw [thl, if_neg (zwi_eq0 h68)], rfl, rfl⟩)
  | m + 1, d, k, v, h, hk, hv => by
    obtain ⟨s0, s1, r0⟩ := id hs
    obtain ⟨t1, t2, t3, t4⟩ := id ht
    have ha := tat_r (k := k) t4 t2
    have hz0 := zwi_r (tat T n k) 48 57
    have hz := zwi_r v 1 20
    refine z_iload3 14 dX5_readHeavy_13 rfl ?_
    refine z_iconst 15 dX5_readHeavy_14 rfl ?_
    refine z_icmp_ge 61 18 dX5_readHeavy_15 (by decide) rfl (by omega) (by omega) (fun hz => absurd hz (by omega)) (fun h15 => ?_)
    refine z_aload0 19 dX5_readHeavy_18 rfl ?_
    refine z_xV0 22 dX5_readHeavy_19 lk_X5_readHeavy_68 (ct_X5_letterHere hs ht (by omega)) rfl (Nat.le_of_ble_eq_true rfl) (Nat.le_of_ble_eq_true rfl) (by assumption) rfl rfl ?_
    refine z_bipush 24 dX5_readHeavy_22 (by decide) rfl ?_
    refine z_bipush 26 dX5_readHeavy_24 (by decide) rfl ?_
    refine z_xSN3 29 dX5_readHeavy_26 lk_X5_readHeavy_71 (ct_X6_within (by omega) (by omega) (by omega)) rfl (Nat.le_of_ble_eq_true rfl) (Nat.le_of_ble_eq_true rfl) rfl ?_
    refine z_if_eq 61 32 dX5_readHeavy_29 (by decide) rfl (by omega) (fun h29 => ?_) (fun h29 => ?_)
    · refine z_iload2 62 dX5_readHeavy_61 rfl ?_
      refine z_iconst 63 dX5_readHeavy_62 rfl ?_
      refine z_bipush 65 dX5_readHeavy_63 (by decide) rfl ?_
      refine z_xSN3 68 dX5_readHeavy_65 lk_X5_readHeavy_71 (ct_X6_within (by omega) (by omega) (by omega)) rfl (Nat.le_of_ble_eq_true rfl) (Nat.le_of_ble_eq_true rfl) rfl ?_
      refine z_if_ne 79 71 dX5_readHeavy_68 (by decide) rfl (by omega) (fun h68 => ?_) (fun h68 => ?_)
      · refine z_iload2 80 dX5_readHeavy_79 rfl ?_
        exact z_ireturn dX5_readHeavy_80 rfl (⟨by rw [thl, if_neg (zwi_eq0 h29), if_pos (zwi_ne0 h68)], rfl, by rw [thl, if_neg (zwi_eq0 h29), if_pos (zwi_ne0 h68)], rfl, rfl⟩)
      · refine z_aload0 72 dX5_readHeavy_71 rfl ?_
        refine z_iload1 73 dX5_readHeavy_72 rfl ?_
        refine z_putIx 76 dX5_readHeavy_73 fp_RX5_19 (by assumption) (ztk_up _ _ _ f (by omega)) rfl ?_
        refine z_bipush 78 dX5_readHeavy_76 (by decide) rfl ?_
        exact z_ireturn dX5_readHeavy_78 rfl (⟨by rw [thl, if_neg (zwi_eq0 h29), if_neg (zwi_eq0 h68)], rfl, by rw [thl, if_neg (zwi_eq0 h29), if_neg (zwi_eq0 h68)], rfl, rfl⟩)
    · have h29b := tat_lt (T := T) (n := n) (k := k) (by have := zwi_ne0 h29; omega)
      refine z_bipush 34 dX5_readHeavy_32 (by decide) rfl ?_
      refine z_iload2 35 dX5_readHeavy_34 rfl ?_
      refine z_imul 36 dX5_readHeavy_35 rfl ?_
      refine z_aload0 37 dX5_readHeavy_36 rfl ?_
      refine z_xV0 40 dX5_readHeavy_37 lk_X5_readHeavy_68 (ct_X5_letterHere hs ht (by omega)) rfl (Nat.le_of_ble_eq_true rfl) (Nat.le_of_ble_eq_true rfl) (by assumption) rfl rfl ?_
      refine z_iadd 41 dX5_readHeavy_40 rfl ?_
      refine z_bipush 43 dX5_readHeavy_41 (by decide) rfl ?_
      refine z_isub 44 dX5_readHeavy_43 rfl ?_
      refine z_istore2 45 dX5_readHeavy_44 (Nat.le_of_ble_eq_true rfl) rfl rfl ?_
      refine z_aload0 46 dX5_readHeavy_45 rfl ?_
      refine z_dup 47 dX5_readHeavy_46 rfl rfl ?_
      refine z_getIx 50 dX5_readHeavy_47 fl_RX5_19 (by assumption) (ztk_k _ _ _) rfl ?_
      refine z_iconst 51 dX5_readHeavy_50 rfl ?_
      refine z_iadd 52 dX5_readHeavy_51 rfl ?_
      refine z_putIx 55 dX5_readHeavy_52 fp_RX5_19 (by assumption) (ztk_up _ _ _ (k + 1) (by omega)) rfl ?_
      refine z_iinc3 58 dX5_readHeavy_55 (Nat.le_of_ble_eq_true rfl) rfl rfl ?_
      refine z_goto 13 dX5_readHeavy_58 (by decide) ?_
      rw [show thl T n f (m + 1) v k = thl T n f m (10 * v + tat T n k - 48) (k + 1) by rw [thl, if_pos (zwi_ne0 h29)]]
      exact lp_X5_readHeavy hs ht f hf m (d + 1) (k + 1) _ (by omega) (by omega) (by have := zwi_ne0 h29; omega)
theorem ct_X5_readHeavy {k : Nat} (hs : zTp sh R p) (ht : zTr I p T n) (hk : k ≤ n) : zE X mX5_readHeavy 0 0 0 [zR p, zX, zX, zX] [] sh (ztk I p k) L R (zEq [zI (thv T n k).1] sh (ztk I p (thv T n k).2) L R) := by
  obtain ⟨s0, s1, r0⟩ := id hs
  have hk1 := tnl_r T n k hk
  rw [← thl_thv]
  refine z_aload0 1 dX5_readHeavy_0 rfl ?_
  refine z_xVv0 4 dX5_readHeavy_1 lk_X5_readHeavy_65 (ct_X5_skipBlanks hs ht hk) rfl (Nat.le_of_ble_eq_true rfl) (Nat.le_of_ble_eq_true rfl) (by assumption) rfl rfl ?_
  refine z_aload0 5 dX5_readHeavy_4 rfl ?_
  refine z_getIx 8 dX5_readHeavy_5 fl_RX5_19 (by assumption) (ztk_k _ _ _) rfl ?_
  refine z_istore1 9 dX5_readHeavy_8 (Nat.le_of_ble_eq_true rfl) rfl rfl ?_
  refine z_iconst 10 dX5_readHeavy_9 rfl ?_
  refine z_istore2 11 dX5_readHeavy_10 (Nat.le_of_ble_eq_true rfl) rfl rfl ?_
  refine z_iconst 12 dX5_readHeavy_11 rfl ?_
  refine z_istore3 13 dX5_readHeavy_12 (Nat.le_of_ble_eq_true rfl) rfl rfl ?_
  exact lp_X5_readHeavy hs ht (tnl T n k) hk1.2 2 0 (tnl T n k) 0 rfl hk1.2 (by omega)
end TAPE
theorem thv_r {T : Nat → Int} {n k : Nat} (hT : ∀ j, j < 70 → 0 ≤ T j ∧ T j ≤ 126) (hn : n ≤ 70) (h : k ≤ n) : (thv T n k).2 ≤ n ∧ ((thv T n k).1 = -4 ∨ (1 ≤ (thv T n k).1 ∧ (thv T n k).1 ≤ 20)) := by
  have hd := tdg_r (T := T) (n := n) (k := k) (lo := 48) (hi := 57) h (by omega)
  have ha := tat_r (n := n) (k := (tdg T n 48 57 k).2) hT hn
  have hl := fun q => tat_lt (T := T) (n := n) (k := (tdg T n 48 57 k).2) q
  unfold thv
  generalize tdg T n 48 57 k = d at hd ha hl ⊢
  repeat' split
  · exact ⟨hd.2.1, Or.inl rfl⟩
  · rename_i h1 h2 h3
    exact ⟨hl (by omega), Or.inr h3⟩
  · exact ⟨by show d.2 - 1 ≤ n; omega, Or.inl rfl⟩
  · rename_i h1 h2 h3
    exact ⟨hd.2.1, Or.inr h3⟩
  · exact ⟨by show d.2 - 1 ≤ n; omega, Or.inl rfl⟩
/-- the LEAN of a rider, where one is told -/
def tle (T : Nat → Int) (n k : Nat) : Int × Nat := if tat T n (tnl T n k) = 60 then tdg T n 48 55 (tnl T n k + 1) else (0, tnl T n k)
theorem tle_r {T : Nat → Int} {n k : Nat} (h : k ≤ n) : (tle T n k).2 ≤ n ∧ ((tle T n k).1 = -4 ∨ (0 ≤ (tle T n k).1 ∧ (tle T n k).1 ≤ 7)) := by
  have h1 := tnl_r T n k h
  unfold tle
  split
  · rename_i h2
    have h3 := tat_lt (T := T) (n := n) (k := tnl T n k) (by omega)
    have hd := tdg_r (T := T) (n := n) (k := tnl T n k + 1) (lo := 48) (hi := 55) (by omega) (by omega)
    exact ⟨hd.2.1, by omega⟩
  · exact ⟨h1.2, Or.inr ⟨Int.le_refl 0, by show (0 : Int) ≤ 7; omega⟩⟩
theorem tkd_r (x : Int) : tkd x = -4 ∨ (0 ≤ tkd x ∧ tkd x ≤ 4 ∧ 0 ≤ x) := by
  unfold tkd
  repeat' split
  all_goals omega
def trr (T : Nat → Int) (n r k : Nat) (S : zT) : Int × (Nat × zT) :=
  if tkd (tat T n (tnl T n k)) = -4 then (0, tnl T n k, S)
  else if (thv T n (tnl T n k + 1)).1 = -4 then (0, (thv T n (tnl T n k + 1)).2, S)
  else if (tle T n (thv T n (tnl T n k + 1)).2).1 = -4 then (0, (tle T n (thv T n (tnl T n k + 1)).2).2, S)
  else (1, (tle T n (thv T n (tnl T n k + 1)).2).2, sad S r (tkd (tat T n (tnl T n k))) (thv T n (tnl T n k + 1)).1 (tle T n (thv T n (tnl T n k + 1)).2).1)
section TAPE2
variable {X : zXs} {sh : zH} {I L : zI2} {R : zR2} {p n b : Nat} {T : Nat → Int} {S : zT}
theorem ct_addR {r k : Nat} {q1 q2 q3 : Int} (hb : zSl sh R b) (hn : S 0 6 = (r : Int)) (h5 : r < 5) (hp : p < b ∨ b + 7 ≤ p) : zE X mX4_addRider 0 0 0 [zR b, zI q1, zI q2, zI q3, zX] [] sh (ztk (zsl I b S) p k) L R (zEq [zI (r : Int)] sh (ztk (zsl I b (sad S r q1 q2 q3)) p k) L R) := by
  rw [ztk_sl _ _ _ _ _ hp, ztk_sl _ _ _ _ _ hp]
  exact ct_X4_addRider hb hn h5
theorem tl_X5_readRider {r e2 : Nat} {q1 d e1 : Int} {e : Int × Nat} (hs : zTp sh R p) (hb : zSl sh R b) (hpb : p + 2 ≤ b ∨ b + 7 ≤ p) (he1 : e1 = e.1) (he2 : e2 = e.2) (he : e.2 ≤ n ∧ (e.1 = -4 ∨ (0 ≤ e.1 ∧ e.1 ≤ 7))) (hr : S 0 6 = (r : Int)) (h5 : r < 5) : zE X mX5_readRider 0 0 71 [zR p, zR b, zI q1, zI d, zI e1] [] sh (ztk (zsl I b S) p e2) L R (zEq [zI (if e.1 = -4 then ((0 : Int), e.2, S) else (1, e.2, sad S r q1 d e.1)).1] sh (ztk (zsl I b (if e.1 = -4 then ((0 : Int), e.2, S) else (1, e.2, sad S r q1 d e.1)).2.2) p (if e.1 = -4 then ((0 : Int), e.2, S) else (1, e.2, sad S r q1 d e.1)).2.1) L R) := by
  subst he1
  subst he2
  have hb0 := hb.1.1
  refine z_iload4 73 dX5_readRider_71 rfl ?_
  refine z_bipush 75 dX5_readRider_73 (by decide) rfl ?_
  refine z_icmp_eq 95 78 dX5_readRider_75 (by decide) rfl (by omega) (by omega) (fun h75 => ?_) (fun h75 => ?_)
  · refine z_iconst 96 dX5_readRider_95 rfl ?_
    exact z_zreturn dX5_readRider_96 rfl (by omega) (⟨by first | rw [if_pos h75] | rw [if_neg h75], rfl, by first | rw [if_pos h75] | rw [if_neg h75], rfl, rfl⟩)
  · refine z_aload1 79 dX5_readRider_78 rfl ?_
    refine z_iload2 80 dX5_readRider_79 rfl ?_
    refine z_iload3 81 dX5_readRider_80 rfl ?_
    refine z_iload4 83 dX5_readRider_81 rfl ?_
    refine z_xV3 86 dX5_readRider_83 lk_X5_readRider_61 (ct_addR hb hr h5 (by omega)) rfl (Nat.le_of_ble_eq_true rfl) (Nat.le_of_ble_eq_true rfl) (by assumption) rfl rfl ?_
    refine z_bipush 88 dX5_readRider_86 (by decide) rfl ?_
    refine z_icmp_eq 95 91 dX5_readRider_88 (by decide) rfl (by omega) (by omega) (fun hz => absurd hz (by omega)) (fun h88 => ?_)
    refine z_iconst 92 dX5_readRider_91 rfl ?_
    refine z_goto 96 dX5_readRider_92 (by decide) ?_
    exact z_zreturn dX5_readRider_96 rfl (by omega) (⟨by first | rw [if_pos h75] | rw [if_neg h75], rfl, by first | rw [if_pos h75] | rw [if_neg h75], rfl, rfl⟩)
theorem ct_X5_readRider {r k : Nat} (hs : zTp sh R p) (ht : zTr I p T n) (hb : zSl sh R b) (hpb : p + 2 ≤ b ∨ b + 7 ≤ p) (hk : k ≤ n) (hr : S 0 6 = (r : Int)) (h5 : r < 5) : zE X mX5_readRider 0 0 0 [zR p, zR b, zX, zX, zX] [] sh (ztk (zsl I b S) p k) L R (zEq [zI (trr T n r k S).1] sh (ztk (zsl I b (trr T n r k S).2.2) p (trr T n r k S).2.1) L R) := by
  have ht2 := zTr_sl ht S hpb
  obtain ⟨s0, s1, r0⟩ := id hs
  obtain ⟨t1, t2, t3, t4⟩ := id ht2
  have hb0 := hb.1.1
  have hk1 := tnl_r T n k hk
  have ha := tat_r (k := tnl T n k) t4 t2
  have hkr := tkd_r (tat T n (tnl T n k))
  have hkl := fun q => tat_lt (T := T) (n := n) (k := tnl T n k) q
  unfold trr
  have hc1 := ct_X5_nextLetter (X := X) (L := L) hs ht2 hk
  generalize tnl T n k = k1 at hk1 ha hkr hkl hc1 ⊢
  generalize tat T n k1 = x1 at ha hkr hkl hc1 ⊢
  have hc2 := ct_X5_kindOf (X := X) (sh := sh) (I := ztk (zsl I b S) p k1) (L := L) (R := R) (x := x1) (by omega)
  generalize tkd x1 = q1 at hkr hc2 ⊢
  refine z_aload0 1 dX5_readRider_0 rfl ?_
  refine z_xV0 4 dX5_readRider_1 lk_X5_readRider_37 (hc1) rfl (Nat.le_of_ble_eq_true rfl) (Nat.le_of_ble_eq_true rfl) (by assumption) rfl rfl ?_
  refine z_xS1 7 dX5_readRider_4 lk_X5_readRider_54 (hc2) rfl (Nat.le_of_ble_eq_true rfl) (Nat.le_of_ble_eq_true rfl) rfl ?_
  refine z_istore2 8 dX5_readRider_7 (Nat.le_of_ble_eq_true rfl) rfl rfl ?_
  refine z_iload2 9 dX5_readRider_8 rfl ?_
  refine z_bipush 11 dX5_readRider_9 (by decide) rfl ?_
  refine z_icmp_ne 16 14 dX5_readRider_11 (by decide) rfl (by omega) (by omega) (fun h11 => ?_) (fun h11 => ?_)
  · refine z_aload0 17 dX5_readRider_16 rfl ?_
    refine z_dup 18 dX5_readRider_17 rfl rfl ?_
    refine z_getIx 21 dX5_readRider_18 fl_RX5_19 (by assumption) (ztk_k _ _ _) rfl ?_
    refine z_iconst 22 dX5_readRider_21 rfl ?_
    refine z_iadd 23 dX5_readRider_22 rfl ?_
    refine z_putIx 26 dX5_readRider_23 fp_RX5_19 (by assumption) (ztk_up _ _ _ (k1 + 1) (by omega)) rfl ?_
    have hk2 : k1 + 1 ≤ n := hkl (by omega)
    have hvr := thv_r (T := T) (n := n) (k := k1 + 1) t4 t2 hk2
    have hc3 := ct_X5_readHeavy (X := X) (L := L) hs ht2 hk2
    generalize thv T n (k1 + 1) = d at hvr hc3 ⊢
    refine z_aload0 27 dX5_readRider_26 rfl ?_
    refine z_xV0 30 dX5_readRider_27 lk_X5_readRider_58 (hc3) rfl (Nat.le_of_ble_eq_true rfl) (Nat.le_of_ble_eq_true rfl) (by assumption) rfl rfl ?_
    refine z_istore3 31 dX5_readRider_30 (Nat.le_of_ble_eq_true rfl) rfl rfl ?_
    refine z_iload3 32 dX5_readRider_31 rfl ?_
    refine z_bipush 34 dX5_readRider_32 (by decide) rfl ?_
    refine z_icmp_ne 39 37 dX5_readRider_34 (by decide) rfl (by omega) (by omega) (fun h34 => ?_) (fun h34 => ?_)
    · refine z_iconst 40 dX5_readRider_39 rfl ?_
      refine z_istore4 42 dX5_readRider_40 (Nat.le_of_ble_eq_true rfl) rfl rfl ?_
      have hl := tle_r (T := T) (n := n) (k := d.2) hvr.1
      have hk3 := tnl_r T n d.2 hvr.1
      have ha3 := tat_r (k := tnl T n d.2) t4 t2
      have hl3 := fun q => tat_lt (T := T) (n := n) (k := tnl T n d.2) q
      refine z_aload0 43 dX5_readRider_42 rfl ?_
      refine z_xV0 46 dX5_readRider_43 lk_X5_readRider_37 (ct_X5_nextLetter hs ht2 hvr.1) rfl (Nat.le_of_ble_eq_true rfl) (Nat.le_of_ble_eq_true rfl) (by assumption) rfl rfl ?_
      refine z_bipush 48 dX5_readRider_46 (by decide) rfl ?_
      refine z_icmp_ne 71 51 dX5_readRider_48 (by decide) rfl (by omega) (by omega) (fun h48 => ?_) (fun h48 => ?_)
      · rw [if_neg h11, if_neg h34]
        first | exact tl_X5_readRider hs hb hpb (by unfold tle; rw [if_pos h48]) (by unfold tle; rw [if_pos h48]) hl hr h5 | exact tl_X5_readRider hs hb hpb (by unfold tle; rw [if_neg h48]) (by unfold tle; rw [if_neg h48]) hl hr h5
      · refine z_aload0 52 dX5_readRider_51 rfl ?_
        refine z_dup 53 dX5_readRider_52 rfl rfl ?_
        refine z_getIx 56 dX5_readRider_53 fl_RX5_19 (by assumption) (ztk_k _ _ _) rfl ?_
        refine z_iconst 57 dX5_readRider_56 rfl ?_
        refine z_iadd 58 dX5_readRider_57 rfl ?_
        refine z_putIx 61 dX5_readRider_58 fp_RX5_19 (by assumption) (ztk_up _ _ _ (tnl T n d.2 + 1) (by omega)) rfl ?_
        refine z_aload0 62 dX5_readRider_61 rfl ?_
        refine z_bipush 64 dX5_readRider_62 (by decide) rfl ?_
        refine z_bipush 66 dX5_readRider_64 (by decide) rfl ?_
        refine z_xV2 69 dX5_readRider_66 lk_X5_readRider_41 (ct_X5_readDigit hs ht2 (hl3 (by omega)) (by omega) (by omega)) rfl (Nat.le_of_ble_eq_true rfl) (Nat.le_of_ble_eq_true rfl) (by assumption) rfl rfl ?_
        refine z_istore4 71 dX5_readRider_69 (Nat.le_of_ble_eq_true rfl) rfl rfl ?_
        rw [if_neg h11, if_neg h34]
        first | exact tl_X5_readRider hs hb hpb (by unfold tle; rw [if_pos h48]) (by unfold tle; rw [if_pos h48]) hl hr h5 | exact tl_X5_readRider hs hb hpb (by unfold tle; rw [if_neg h48]) (by unfold tle; rw [if_neg h48]) hl hr h5
    · refine z_iconst 38 dX5_readRider_37 rfl ?_
      exact z_zreturn dX5_readRider_38 rfl (by omega) (⟨by rw [if_neg h11, if_pos h34], rfl, by rw [if_neg h11, if_pos h34], rfl, rfl⟩)
  · refine z_iconst 15 dX5_readRider_14 rfl ?_
    exact z_zreturn dX5_readRider_15 rfl (by omega) (⟨by rw [if_pos h11], rfl, by rw [if_pos h11], rfl, rfl⟩)
end TAPE2
