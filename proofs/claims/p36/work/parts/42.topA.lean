/-! ===== calls on the object: riders, turns, the tape ===== -/
section CTI
variable {X : zXs} {sh : zH} {I L : zI2} {R : zR2} {b : Nat}
theorem cti_hasRider {r : Int} (hs : zSl sh R b) (hr : zSr (zvw I b)) (h1 : -2147483648 ≤ r ∧ r ≤ 2147483647) : zE X mX4_hasRider 0 0 0 [zR b, zI r] [] sh I L R (zEq [zI (zwi r 0 (zvw I b 0 6 - 1))] sh I L R) := by
  have h := ct_X4_hasRider (X := X) (I := I) (L := L) hs hr h1
  rw [zsl_self] at h
  exact h
theorem cti_stuckOn {t : Nat} (hs : zSl sh R b) (hr : zSr (zvw I b)) (ht : t < 10) : zE X mX4_stuckOn 0 0 0 [zR b, zI (t : Int), zX] [] sh I L R (zEq [zI (sst (zvw I b) t)] sh I L R) := by
  have h := ct_X4_stuckOn (X := X) (I := I) (L := L) hs hr ht
  rw [zsl_self] at h
  exact h
theorem cti_gained {r t : Nat} {v : Int} (hs : zSl sh R b) (hr : zSr (zvw I b)) (h5 : r < 5) (ht : t < 10) (hv : -2147483648 ≤ v ∧ v ≤ 2147483647) : zE X mX4_gained 0 0 0 [zR b, zI (r : Int), zI (t : Int), zI v, zX, zX] [] sh I L R (zEq [zI (sgn (zvw I b) r t v)] sh I L R) := by
  have h := ct_X4_gained (X := X) (I := I) (L := L) hs hr h5 ht hv
  rw [zsl_self] at h
  exact h
theorem cti_atTop (hs : zSl sh R b) (hr : zSr (zvw I b)) : zE X mX4_ridersAtTop 0 0 0 [zR b, zX, zX] [] sh I L R (zEq [zI (stop_ (zvw I b))] sh I L R) := by
  have h := ct_X4_ridersAtTop (X := X) (I := I) (L := L) hs hr
  rw [zsl_self] at h
  exact h
theorem cti_through (hs : zSl sh R b) (hr : zSr (zvw I b)) : zE X mX4_ridersThrough 0 0 0 [zR b, zX, zX] [] sh I L R (zEq [zI (sthr (zvw I b))] sh I L R) := by
  have h := ct_X4_ridersThrough (X := X) (I := I) (L := L) hs hr
  rw [zsl_self] at h
  exact h
theorem cti_taken (hs : zSl sh R b) (hr : zSr (zvw I b)) : zE X mX4_turnsTaken 0 0 0 [zR b, zX, zX] [] sh I L R (zEq [zI (stak (zvw I b))] sh I L R) := by
  have h := ct_X4_turnsTaken (X := X) (I := I) (L := L) hs hr
  rw [zsl_self] at h
  exact h
theorem cti_addRider {n : Nat} {k v l : Int} (hs : zSl sh R b) (hn : zvw I b 0 6 = (n : Int)) (h5 : n < 5) : zE X mX4_addRider 0 0 0 [zR b, zI k, zI v, zI l, zX] [] sh I L R (zEq [zI (n : Int)] sh (zsl I b (sad (zvw I b) n k v l)) L R) := by
  have h := ct_X4_addRider (X := X) (I := I) (L := L) (k := k) (h := v) (l := l) hs hn h5
  rw [zsl_self] at h
  exact h
theorem cti_addRider_full {k v l : Int} (hs : zSl sh R b) (hn : zvw I b 0 6 = 5) : zE X mX4_addRider 0 0 0 [zR b, zI k, zI v, zI l, zX] [] sh I L R (zEq [zI (-3)] sh I L R) := by
  have h := ct_X4_addRider_full (X := X) (I := I) (L := L) (k := k) (h := v) (l := l) hs hn
  rw [zsl_self] at h
  exact h
theorem zvx (I : zI2) (b : Nat) {i : Nat} (hi : i < 7) (j : Nat) : I (b + i) j = zvw I b i j := by rw [zvw_r _ _ hi]
theorem zvw_upi (I : zI2) (b : Nat) {i : Nat} (hi : i < 7) (j : Nat) (v : Int) : zvw (zup I (b + i) j v) b = zup (zvw I b) i j v := by
  funext a c
  unfold zvw zup
  by_cases h : a = i ∧ c = j
  · obtain ⟨rfl, rfl⟩ := h
    simp [hi]
  · rw [if_neg h]
    by_cases ha : a < 7
    · rw [if_pos ha]
      show _ = if a < 7 then I (b + a) c else 0
      rw [if_pos ha, if_neg (by omega)]
    · rw [if_neg ha]
      show _ = if a < 7 then I (b + a) c else 0
      rw [if_neg ha]
theorem zvw_upi0 (I : zI2) (b : Nat) (j : Nat) (v : Int) : zvw (zup I b j v) b = zup (zvw I b) 0 j v := zvw_upi I b (i := 0) (by decide) j v
theorem lp_X6_sum {a n : Nat} (ha : sh[a]? = some (20, n)) (hn : n ≤ 60000) : ∀ (m i : Nat) (x : Int), i + m = n → zE X mX6_sum 0 0 4 [zR a, zI x, zI (i : Int)] [] sh I L R (zEq [zI (rsm (I a) m i x)] sh I L R)
  | 0, i, x, h => by
    refine z_iload2 5 dX6_sum_4 rfl ?_
    refine z_aload0 6 dX6_sum_5 rfl ?_
    refine z_alen 7 dX6_sum_6 (by assumption) (by decide) rfl ?_
    refine z_icmp_ge 22 10 dX6_sum_7 (by decide) rfl (by omega) (by omega) (fun h7 => ?_) (fun hz => absurd hz (by omega))
    refine z_iload1 23 dX6_sum_22 rfl ?_
    exact z_ireturn dX6_sum_23 rfl (⟨rfl, rfl, rfl, rfl, rfl⟩)
  | m + 1, i, x, h => by
    refine z_iload2 5 dX6_sum_4 rfl ?_
    refine z_aload0 6 dX6_sum_5 rfl ?_
    refine z_alen 7 dX6_sum_6 (by assumption) (by decide) rfl ?_
    refine z_icmp_ge 22 10 dX6_sum_7 (by decide) rfl (by omega) (by omega) (fun hz => absurd hz (by omega)) (fun h7 => ?_)
    refine z_iload1 11 dX6_sum_10 rfl ?_
    refine z_aload0 12 dX6_sum_11 rfl ?_
    refine z_iload2 13 dX6_sum_12 rfl ?_
    refine z_ialdN 14 (i) dX6_sum_13 (by assumption) (by omega) (by omega) rfl ?_
    refine z_iadd 15 dX6_sum_14 rfl ?_
    refine z_istore1 16 dX6_sum_15 (Nat.le_of_ble_eq_true rfl) rfl rfl ?_
    refine z_iinc2 19 dX6_sum_16 (Nat.le_of_ble_eq_true rfl) rfl rfl ?_
    refine z_goto 4 dX6_sum_19 (by decide) ?_
    exact lp_X6_sum ha hn m (i + 1) _ (by omega)
theorem ct_X6_sum {a n : Nat} (ha : sh[a]? = some (20, n)) (hn : n ≤ 60000) : zE X mX6_sum 0 0 0 [zR a, zX, zX] [] sh I L R (zEq [zI (rsm (I a) n 0 0)] sh I L R) := by
  refine z_iconst 1 dX6_sum_0 rfl ?_
  refine z_istore1 2 dX6_sum_1 (Nat.le_of_ble_eq_true rfl) rfl rfl ?_
  refine z_iconst 3 dX6_sum_2 rfl ?_
  refine z_istore2 4 dX6_sum_3 (Nat.le_of_ble_eq_true rfl) rfl rfl ?_
  exact lp_X6_sum ha hn n 0 0 (by omega)
end CTI
theorem rsm_c {W W' : Nat → Int} : ∀ (m s : Nat) (x : Int), (∀ q, s ≤ q → q < s + m → W q = W' q) → rsm W m s x = rsm W' m s x
  | 0, s, x, _ => rfl
  | m + 1, s, x, h => by
    unfold rsm
    rw [h s (by omega) (by omega)]
    exact rsm_c m (s + 1) _ (fun q h1 h2 => h q (by omega) (by omega))
/-! what the calls answer, and what they leave -/
def oRider (A : zA) (k v l : Int) : Int × zA := if (0 ≤ k ∧ k ≤ 4) ∧ (1 ≤ v ∧ v ≤ 20) ∧ (0 ≤ l ∧ l ≤ 7) then (if A.1 0 6 = 5 then (-3, A) else (A.1 0 6, (sad A.1 (A.1 0 6).toNat k v l, [], A.2.2))) else (-1, A)
def zHas (A : zA) (r : Int) : Prop := 0 ≤ r ∧ r ≤ A.1 0 6 - 1
def oLean (A : zA) (r v : Int) : Int × zA := if (0 ≤ r ∧ r ≤ A.1 0 6 - 1) ∧ (0 ≤ v ∧ v ≤ 7) then (A.1 5 r.toNat, (zup A.1 5 r.toNat v, A.2)) else (-1, A)
def oOf (A : zA) (r w : Int) : Int := if 0 ≤ r ∧ r ≤ A.1 0 6 - 1 then (if w = 0 then A.1 3 r.toNat else if w = 1 then A.1 4 r.toNat else if w = 2 then A.1 5 r.toNat else if w = 3 then A.1 6 r.toNat else -1) else -1
def oAt (A : zA) (t w : Int) : Int := if 0 ≤ t ∧ t ≤ 9 then (if w = 0 then A.1 1 t.toNat else if w = 1 then A.1 2 t.toNat else if w = 2 then sst A.1 t.toNat else -1) else -1
def oGains (A : zA) (r t v : Int) : Int := if (0 ≤ r ∧ r ≤ A.1 0 6 - 1) ∧ (0 ≤ t ∧ t ≤ 9) ∧ (0 ≤ v ∧ v ≤ 30) then sgn A.1 r.toNat t.toNat v else -1
def oType (A : zA) (x : Int) : Int × zA := if 32 ≤ x ∧ x ≤ 126 then (if A.2.2.2.1.length = 70 then (-3, A) else ((A.2.2.2.1.length : Int) + 1, (A.1, A.2.1, A.2.2.1, A.2.2.2.1 ++ [x], A.2.2.2.2))) else (-1, A)
def oCount (A : zA) (w : Int) : Int := if w = 0 then A.1 0 6 else if w = 1 then A.1 0 7 else if w = 2 then stop_ A.1 else if w = 3 then sthr A.1 else if w = 4 then stak A.1 else if w = 5 then rsm (A.1 1) 10 0 0 else if w = 6 then rsm (A.1 2) 10 0 0 else if w = 7 then (A.2.1.length : Int) else -1
def oSeed (A : zA) (v : Int) : Int × zA := if v < 0 then (-1, A) else (A.1 0 8, (zup A.1 0 8 v, A.2))
section TOPA
variable {X : zXs} {sh : zH} {I L : zI2} {R : zR2} {P : Nat → Nat} {A : zA}
theorem op_X6_of {r w : Int} (h : zCA sh R P I L A) (hr : -2147483648 ≤ r ∧ r ≤ 2147483647) (hw : -2147483648 ≤ w ∧ w ≤ 2147483647) : zE X mX6_of 0 0 0 [zR 0, zI r, zI w] [] sh I L R (zOp sh I L R (zI (oOf A r w)) A) := by
  obtain ⟨hC, hNow, hTri, hHis, hKep, hTap, hShe, hOrd⟩ := id h
  obtain ⟨⟨c0, c1, c2, c3, c4, c5, c6, c7, c8, c9, c10, c11⟩, ⟨n1, n8, n73⟩, ⟨hh, hpm⟩, kh, tp, ⟨shs, shk⟩, spd, o1, o2, ra⟩ := id hC
  obtain ⟨⟨s0, s1, s2, s3, s4, s5, s6⟩, r0, r1, r2, r3, r4, r5⟩ := id n1
  have n80 := n8.1.1
  have hh0 := hh.1.1
  have e6 := hNow.2.1.1
  have hn5 := hNow.1.1.1
  have z1 := zwi_r r 0 (zvw I 1 0 6 - 1)
  refine z_aload0 1 dX6_of_0 rfl ?_
  refine z_getR 4 dX6_of_1 fl_RX6_10 (by assumption) (by assumption) rfl ?_
  refine z_iload1 5 dX6_of_4 rfl ?_
  refine z_xV1 8 dX6_of_5 lk_X6_of_82 (cti_hasRider n1 hNow.1.1 hr) rfl (Nat.le_of_ble_eq_true rfl) (Nat.le_of_ble_eq_true rfl) (by assumption) rfl rfl ?_
  refine z_if_ne 13 11 dX6_of_8 (by decide) rfl (by omega) (fun h8 => ?_) (fun h8 => ?_)
  · have g8 := zwi_ne0 h8
    obtain ⟨q, rfl⟩ : ∃ q : Nat, r = (q : Int) := ⟨r.toNat, by omega⟩
    have hq := hNow.2.2.2 q (by omega)
    have eo : oOf A q w = (if w = 0 then A.1 3 q else if w = 1 then A.1 4 q else if w = 2 then A.1 5 q else if w = 3 then A.1 6 q else -1) := by unfold oOf; rw [if_pos (by omega), Int.toNat_natCast]
    rw [eo]
    refine z_iload2 14 dX6_of_13 rfl ?_
    rcases (by omega : w = 0 ∨ w = 1 ∨ w = 2 ∨ w = 3 ∨ (w < 0 ∨ 3 < w)) with hk | hk | hk | hk | hk
    · first | rw [hk] | skip
      refine z_swIn 44 (off := 30) dX6_of_14 (by omega) (by omega) (by decide) (by decide) ?_
      refine z_aload0 45 dX6_of_44 rfl ?_
      refine z_getR 48 dX6_of_45 fl_RX6_10 (by assumption) (by assumption) rfl ?_
      refine z_getR 51 dX6_of_48 fl_RX6_89 (by assumption) (by assumption) rfl ?_
      refine z_iload1 52 dX6_of_51 rfl ?_
      refine z_ialdx 53 (q) dX6_of_52 (by assumption) (by omega) (by omega) (zvx I 1 (by decide) _) rfl ?_
      exact z_ireturn dX6_of_53 rfl (zOp_same h (by rw [if_pos rfl]; exact hq.1))
    · first | rw [hk] | skip
      refine z_swIn 54 (off := 40) dX6_of_14 (by omega) (by omega) (by decide) (by decide) ?_
      refine z_aload0 55 dX6_of_54 rfl ?_
      refine z_getR 58 dX6_of_55 fl_RX6_10 (by assumption) (by assumption) rfl ?_
      refine z_getR 61 dX6_of_58 fl_RX6_92 (by assumption) (by assumption) rfl ?_
      refine z_iload1 62 dX6_of_61 rfl ?_
      refine z_ialdx 63 (q) dX6_of_62 (by assumption) (by omega) (by omega) (zvx I 1 (by decide) _) rfl ?_
      exact z_ireturn dX6_of_63 rfl (zOp_same h (by rw [if_neg (by decide), if_pos rfl]; exact hq.2.1))
    · first | rw [hk] | skip
      refine z_swIn 64 (off := 50) dX6_of_14 (by omega) (by omega) (by decide) (by decide) ?_
      refine z_aload0 65 dX6_of_64 rfl ?_
      refine z_getR 68 dX6_of_65 fl_RX6_10 (by assumption) (by assumption) rfl ?_
      refine z_getR 71 dX6_of_68 fl_RX6_86 (by assumption) (by assumption) rfl ?_
      refine z_iload1 72 dX6_of_71 rfl ?_
      refine z_ialdx 73 (q) dX6_of_72 (by assumption) (by omega) (by omega) (zvx I 1 (by decide) _) rfl ?_
      exact z_ireturn dX6_of_73 rfl (zOp_same h (by rw [if_neg (by decide), if_neg (by decide), if_pos rfl]; exact hq.2.2.1))
    · first | rw [hk] | skip
      refine z_swIn 74 (off := 60) dX6_of_14 (by omega) (by omega) (by decide) (by decide) ?_
      refine z_aload0 75 dX6_of_74 rfl ?_
      refine z_getR 78 dX6_of_75 fl_RX6_10 (by assumption) (by assumption) rfl ?_
      refine z_getR 81 dX6_of_78 fl_RX6_95 (by assumption) (by assumption) rfl ?_
      refine z_iload1 82 dX6_of_81 rfl ?_
      refine z_ialdx 83 (q) dX6_of_82 (by assumption) (by omega) (by omega) (zvx I 1 (by decide) _) rfl ?_
      exact z_ireturn dX6_of_83 rfl (zOp_same h (by rw [if_neg (by decide), if_neg (by decide), if_neg (by decide), if_pos rfl]; exact hq.2.2.2))
    · first | rw [hk] | skip
      refine z_swOut 84 dX6_of_14 (by omega) (by omega) (by decide) ?_
      refine z_iconst 85 dX6_of_84 rfl ?_
      exact z_ireturn dX6_of_85 rfl (zOp_same h (by rw [if_neg (by omega), if_neg (by omega), if_neg (by omega), if_neg (by omega)]))
  · have g8 := zwi_eq0 h8
    refine z_iconst 12 dX6_of_11 rfl ?_
    exact z_ireturn dX6_of_12 rfl (zOp_same h (by unfold oOf; rw [if_neg (by omega)]))
theorem op_X6_at {t w : Int} (h : zCA sh R P I L A) (ht : -2147483648 ≤ t ∧ t ≤ 2147483647) (hw : -2147483648 ≤ w ∧ w ≤ 2147483647) : zE X mX6_at 0 0 0 [zR 0, zI t, zI w] [] sh I L R (zOp sh I L R (zI (oAt A t w)) A) := by
  obtain ⟨hC, hNow, hTri, hHis, hKep, hTap, hShe, hOrd⟩ := id h
  obtain ⟨⟨c0, c1, c2, c3, c4, c5, c6, c7, c8, c9, c10, c11⟩, ⟨n1, n8, n73⟩, ⟨hh, hpm⟩, kh, tp, ⟨shs, shk⟩, spd, o1, o2, ra⟩ := id hC
  obtain ⟨⟨s0, s1, s2, s3, s4, s5, s6⟩, r0, r1, r2, r3, r4, r5⟩ := id n1
  have n80 := n8.1.1
  have hh0 := hh.1.1
  have e6 := hNow.2.1.1
  have hn5 := hNow.1.1.1
  have z1 := zwi_r t 0 9
  refine z_iload1 1 dX6_at_0 rfl ?_
  refine z_xS1 4 dX6_at_1 lk_X6_at_98 (ct_X6_isTurn (by omega)) rfl (Nat.le_of_ble_eq_true rfl) (Nat.le_of_ble_eq_true rfl) rfl ?_
  refine z_if_ne 9 7 dX6_at_4 (by decide) rfl (by omega) (fun h4 => ?_) (fun h4 => ?_)
  · have g4 := zwi_ne0 h4
    obtain ⟨q, rfl⟩ : ∃ q : Nat, t = (q : Int) := ⟨t.toNat, by omega⟩
    have hq := hNow.2.2.1 q (by omega)
    have eo : oAt A q w = (if w = 0 then A.1 1 q else if w = 1 then A.1 2 q else if w = 2 then sst A.1 q else -1) := by unfold oAt; rw [if_pos (by omega), Int.toNat_natCast]
    rw [eo]
    refine z_iload2 10 dX6_at_9 rfl ?_
    rcases (by omega : w = 0 ∨ w = 1 ∨ w = 2 ∨ (w < 0 ∨ 2 < w)) with hk | hk | hk | hk
    · first | rw [hk] | skip
      refine z_swIn 36 (off := 26) dX6_at_10 (by omega) (by omega) (by decide) (by decide) ?_
      refine z_aload0 37 dX6_at_36 rfl ?_
      refine z_getR 40 dX6_at_37 fl_RX6_10 (by assumption) (by assumption) rfl ?_
      refine z_getR 43 dX6_at_40 fl_RX6_101 (by assumption) (by assumption) rfl ?_
      refine z_iload1 44 dX6_at_43 rfl ?_
      refine z_ialdx 45 (q) dX6_at_44 (by assumption) (by omega) (by omega) (zvx I 1 (by decide) _) rfl ?_
      exact z_ireturn dX6_at_45 rfl (zOp_same h (by rw [if_pos rfl]; exact hq.1))
    · first | rw [hk] | skip
      refine z_swIn 46 (off := 36) dX6_at_10 (by omega) (by omega) (by decide) (by decide) ?_
      refine z_aload0 47 dX6_at_46 rfl ?_
      refine z_getR 50 dX6_at_47 fl_RX6_10 (by assumption) (by assumption) rfl ?_
      refine z_getR 53 dX6_at_50 fl_RX6_104 (by assumption) (by assumption) rfl ?_
      refine z_iload1 54 dX6_at_53 rfl ?_
      refine z_ialdx 55 (q) dX6_at_54 (by assumption) (by omega) (by omega) (zvx I 1 (by decide) _) rfl ?_
      exact z_ireturn dX6_at_55 rfl (zOp_same h (by rw [if_neg (by decide), if_pos rfl]; exact hq.2))
    · first | rw [hk] | skip
      refine z_swIn 56 (off := 46) dX6_at_10 (by omega) (by omega) (by decide) (by decide) ?_
      refine z_aload0 57 dX6_at_56 rfl ?_
      refine z_getR 60 dX6_at_57 fl_RX6_10 (by assumption) (by assumption) rfl ?_
      refine z_iload1 61 dX6_at_60 rfl ?_
      refine z_xV1 64 dX6_at_61 lk_X6_at_107 (cti_stuckOn n1 hNow.1.1 (by omega)) rfl (Nat.le_of_ble_eq_true rfl) (Nat.le_of_ble_eq_true rfl) (by assumption) rfl rfl ?_
      exact z_ireturn dX6_at_64 rfl (zOp_same h (by rw [if_neg (by decide), if_neg (by decide), if_pos rfl]; exact sst_c hNow.2 q))
    · first | rw [hk] | skip
      refine z_swOut 65 dX6_at_10 (by omega) (by omega) (by decide) ?_
      refine z_iconst 66 dX6_at_65 rfl ?_
      exact z_ireturn dX6_at_66 rfl (zOp_same h (by rw [if_neg (by omega), if_neg (by omega), if_neg (by omega)]))
  · have g4 := zwi_eq0 h4
    refine z_iconst 8 dX6_at_7 rfl ?_
    exact z_ireturn dX6_at_8 rfl (zOp_same h (by unfold oAt; rw [if_neg (by omega)]))
theorem op_X6_gains {r t v : Int} (h : zCA sh R P I L A) (hr : -2147483648 ≤ r ∧ r ≤ 2147483647) (ht : -2147483648 ≤ t ∧ t ≤ 2147483647) (hv : -2147483648 ≤ v ∧ v ≤ 2147483647) : zE X mX6_gains 0 0 0 [zR 0, zI r, zI t, zI v] [] sh I L R (zOp sh I L R (zI (oGains A r t v)) A) := by
  obtain ⟨hC, hNow, hTri, hHis, hKep, hTap, hShe, hOrd⟩ := id h
  obtain ⟨⟨c0, c1, c2, c3, c4, c5, c6, c7, c8, c9, c10, c11⟩, ⟨n1, n8, n73⟩, ⟨hh, hpm⟩, kh, tp, ⟨shs, shk⟩, spd, o1, o2, ra⟩ := id hC
  obtain ⟨⟨s0, s1, s2, s3, s4, s5, s6⟩, r0, r1, r2, r3, r4, r5⟩ := id n1
  have n80 := n8.1.1
  have hh0 := hh.1.1
  have e6 := hNow.2.1.1
  have hn5 := hNow.1.1.1
  have z1 := zwi_r r 0 (zvw I 1 0 6 - 1)
  have z2 := zwi_r t 0 9
  have z3 := zwi_r v 0 30
  refine z_aload0 1 dX6_gains_0 rfl ?_
  refine z_getR 4 dX6_gains_1 fl_RX6_10 (by assumption) (by assumption) rfl ?_
  refine z_iload1 5 dX6_gains_4 rfl ?_
  refine z_xV1 8 dX6_gains_5 lk_X6_gains_82 (cti_hasRider n1 hNow.1.1 hr) rfl (Nat.le_of_ble_eq_true rfl) (Nat.le_of_ble_eq_true rfl) (by assumption) rfl rfl ?_
  refine z_if_eq 28 11 dX6_gains_8 (by decide) rfl (by omega) (fun h8 => ?_) (fun h8 => ?_)
  · have g8 := zwi_eq0 h8
    refine z_iconst 29 dX6_gains_28 rfl ?_
    exact z_ireturn dX6_gains_29 rfl (zOp_same h (by unfold oGains; rw [if_neg (by omega)]))
  · have g8 := zwi_ne0 h8
    refine z_iload2 12 dX6_gains_11 rfl ?_
    refine z_xS1 15 dX6_gains_12 lk_X6_gains_98 (ct_X6_isTurn (by omega)) rfl (Nat.le_of_ble_eq_true rfl) (Nat.le_of_ble_eq_true rfl) rfl ?_
    refine z_if_eq 28 18 dX6_gains_15 (by decide) rfl (by omega) (fun h15 => ?_) (fun h15 => ?_)
    · have g15 := zwi_eq0 h15
      refine z_iconst 29 dX6_gains_28 rfl ?_
      exact z_ireturn dX6_gains_29 rfl (zOp_same h (by unfold oGains; rw [if_neg (by omega)]))
    · have g15 := zwi_ne0 h15
      refine z_iload3 19 dX6_gains_18 rfl ?_
      refine z_iconst 20 dX6_gains_19 rfl ?_
      refine z_bipush 22 dX6_gains_20 (by decide) rfl ?_
      refine z_xS3 25 dX6_gains_22 lk_X6_gains_71 (ct_X6_within (by omega) (by omega) (by omega)) rfl (Nat.le_of_ble_eq_true rfl) (Nat.le_of_ble_eq_true rfl) rfl ?_
      refine z_if_ne 30 28 dX6_gains_25 (by decide) rfl (by omega) (fun h25 => ?_) (fun h25 => ?_)
      · have g25 := zwi_ne0 h25
        obtain ⟨q, rfl⟩ : ∃ q : Nat, r = (q : Int) := ⟨r.toNat, by omega⟩
        obtain ⟨p, rfl⟩ : ∃ q : Nat, t = (q : Int) := ⟨t.toNat, by omega⟩
        refine z_aload0 31 dX6_gains_30 rfl ?_
        refine z_getR 34 dX6_gains_31 fl_RX6_10 (by assumption) (by assumption) rfl ?_
        refine z_iload1 35 dX6_gains_34 rfl ?_
        refine z_iload2 36 dX6_gains_35 rfl ?_
        refine z_iload3 37 dX6_gains_36 rfl ?_
        refine z_xV3 40 dX6_gains_37 lk_X6_gains_111 (cti_gained n1 hNow.1.1 (by omega) (by omega) hv) rfl (Nat.le_of_ble_eq_true rfl) (Nat.le_of_ble_eq_true rfl) (by assumption) rfl rfl ?_
        exact z_ireturn dX6_gains_40 rfl (zOp_same h (by unfold oGains; rw [if_pos (by omega), Int.toNat_natCast, Int.toNat_natCast]; exact sgn_c hNow.2 (by omega) (by omega) v))
      · have g25 := zwi_eq0 h25
        refine z_iconst 29 dX6_gains_28 rfl ?_
        exact z_ireturn dX6_gains_29 rfl (zOp_same h (by unfold oGains; rw [if_neg (by omega)]))
theorem op_X6_count {w : Int} (h : zCA sh R P I L A) (hw : -2147483648 ≤ w ∧ w ≤ 2147483647) : zE X mX6_count 0 0 0 [zR 0, zI w] [] sh I L R (zOp sh I L R (zI (oCount A w)) A) := by
  obtain ⟨hC, hNow, hTri, hHis, hKep, hTap, hShe, hOrd⟩ := id h
  obtain ⟨⟨c0, c1, c2, c3, c4, c5, c6, c7, c8, c9, c10, c11⟩, ⟨n1, n8, n73⟩, ⟨hh, hpm⟩, kh, tp, ⟨shs, shk⟩, spd, o1, o2, ra⟩ := id hC
  obtain ⟨⟨s0, s1, s2, s3, s4, s5, s6⟩, r0, r1, r2, r3, r4, r5⟩ := id n1
  have n80 := n8.1.1
  have hh0 := hh.1.1
  have e6 := hNow.2.1.1
  have hn5 := hNow.1.1.1
  unfold oCount
  refine z_iload1 1 dX6_count_0 rfl ?_
  rcases (by omega : w = 0 ∨ w = 1 ∨ w = 2 ∨ w = 3 ∨ w = 4 ∨ w = 5 ∨ w = 6 ∨ w = 7 ∨ (w < 0 ∨ 7 < w)) with hk | hk | hk | hk | hk | hk | hk | hk | hk
  · first | rw [hk] | skip
    refine z_swIn 48 (off := 47) dX6_count_1 (by omega) (by omega) (by decide) (by decide) ?_
    refine z_aload0 49 dX6_count_48 rfl ?_
    refine z_getR 52 dX6_count_49 fl_RX6_10 (by assumption) (by assumption) rfl ?_
    refine z_getI 55 dX6_count_52 fl_RX6_134 (by assumption) rfl ?_
    exact z_ireturn dX6_count_55 rfl (zOp_same h (by rw [if_pos rfl]; exact e6))
  · first | rw [hk] | skip
    refine z_swIn 56 (off := 55) dX6_count_1 (by omega) (by omega) (by decide) (by decide) ?_
    refine z_aload0 57 dX6_count_56 rfl ?_
    refine z_getR 60 dX6_count_57 fl_RX6_10 (by assumption) (by assumption) rfl ?_
    refine z_getI 63 dX6_count_60 fl_RX6_137 (by assumption) rfl ?_
    exact z_ireturn dX6_count_63 rfl (zOp_same h (by rw [if_neg (by decide), if_pos rfl]; exact hNow.2.1.2.1))
  · first | rw [hk] | skip
    refine z_swIn 64 (off := 63) dX6_count_1 (by omega) (by omega) (by decide) (by decide) ?_
    refine z_aload0 65 dX6_count_64 rfl ?_
    refine z_getR 68 dX6_count_65 fl_RX6_10 (by assumption) (by assumption) rfl ?_
    refine z_xV0 71 dX6_count_68 lk_X6_count_140 (cti_atTop n1 hNow.1.1) rfl (Nat.le_of_ble_eq_true rfl) (Nat.le_of_ble_eq_true rfl) (by assumption) rfl rfl ?_
    exact z_ireturn dX6_count_71 rfl (zOp_same h (by rw [if_neg (by decide), if_neg (by decide), if_pos rfl]; exact stop_c hNow.2))
  · first | rw [hk] | skip
    refine z_swIn 72 (off := 71) dX6_count_1 (by omega) (by omega) (by decide) (by decide) ?_
    refine z_aload0 73 dX6_count_72 rfl ?_
    refine z_getR 76 dX6_count_73 fl_RX6_10 (by assumption) (by assumption) rfl ?_
    refine z_xV0 79 dX6_count_76 lk_X6_count_144 (cti_through n1 hNow.1.1) rfl (Nat.le_of_ble_eq_true rfl) (Nat.le_of_ble_eq_true rfl) (by assumption) rfl rfl ?_
    exact z_ireturn dX6_count_79 rfl (zOp_same h (by rw [if_neg (by decide), if_neg (by decide), if_neg (by decide), if_pos rfl]; exact sthr_c hNow.2))
  · first | rw [hk] | skip
    refine z_swIn 80 (off := 79) dX6_count_1 (by omega) (by omega) (by decide) (by decide) ?_
    refine z_aload0 81 dX6_count_80 rfl ?_
    refine z_getR 84 dX6_count_81 fl_RX6_10 (by assumption) (by assumption) rfl ?_
    refine z_xV0 87 dX6_count_84 lk_X6_count_147 (cti_taken n1 hNow.1.1) rfl (Nat.le_of_ble_eq_true rfl) (Nat.le_of_ble_eq_true rfl) (by assumption) rfl rfl ?_
    exact z_ireturn dX6_count_87 rfl (zOp_same h (by rw [if_neg (by decide), if_neg (by decide), if_neg (by decide), if_neg (by decide), if_pos rfl]; exact stak_c hNow.2))
  · first | rw [hk] | skip
    refine z_swIn 88 (off := 87) dX6_count_1 (by omega) (by omega) (by decide) (by decide) ?_
    refine z_aload0 89 dX6_count_88 rfl ?_
    refine z_getR 92 dX6_count_89 fl_RX6_10 (by assumption) (by assumption) rfl ?_
    refine z_getR 95 dX6_count_92 fl_RX6_101 (by assumption) (by assumption) rfl ?_
    refine z_xS1 98 dX6_count_95 lk_X6_count_150 (ct_X6_sum (a := 1 + 1) s1 (by omega)) rfl (Nat.le_of_ble_eq_true rfl) (Nat.le_of_ble_eq_true rfl) rfl ?_
    exact z_ireturn dX6_count_98 rfl (zOp_same h (by rw [if_neg (by decide), if_neg (by decide), if_neg (by decide), if_neg (by decide), if_neg (by decide), if_pos rfl]; exact rsm_c 10 0 0 (fun q _ hq => (hNow.2.2.1 q (by omega)).1)))
  · first | rw [hk] | skip
    refine z_swIn 99 (off := 98) dX6_count_1 (by omega) (by omega) (by decide) (by decide) ?_
    refine z_aload0 100 dX6_count_99 rfl ?_
    refine z_getR 103 dX6_count_100 fl_RX6_10 (by assumption) (by assumption) rfl ?_
    refine z_getR 106 dX6_count_103 fl_RX6_104 (by assumption) (by assumption) rfl ?_
    refine z_xS1 109 dX6_count_106 lk_X6_count_150 (ct_X6_sum (a := 1 + 2) s2 (by omega)) rfl (Nat.le_of_ble_eq_true rfl) (Nat.le_of_ble_eq_true rfl) rfl ?_
    exact z_ireturn dX6_count_109 rfl (zOp_same h (by rw [if_neg (by decide), if_neg (by decide), if_neg (by decide), if_neg (by decide), if_neg (by decide), if_neg (by decide), if_pos rfl]; exact rsm_c 10 0 0 (fun q _ hq => (hNow.2.2.1 q (by omega)).2)))
  · first | rw [hk] | skip
    refine z_swIn 110 (off := 109) dX6_count_1 (by omega) (by omega) (by decide) (by decide) ?_
    refine z_aload0 111 dX6_count_110 rfl ?_
    refine z_getR 114 dX6_count_111 fl_RX6_22 (by assumption) (by assumption) rfl ?_
    refine z_getI 117 dX6_count_114 fl_RX6_154 (by assumption) rfl ?_
    exact z_ireturn dX6_count_117 rfl (zOp_same h (by rw [if_neg (by decide), if_neg (by decide), if_neg (by decide), if_neg (by decide), if_neg (by decide), if_neg (by decide), if_neg (by decide), if_pos rfl]; exact hHis.1))
  · first | rw [hk] | skip
    refine z_swOut 118 dX6_count_1 (by omega) (by omega) (by decide) ?_
    refine z_iconst 119 dX6_count_118 rfl ?_
    exact z_ireturn dX6_count_119 rfl (zOp_same h (by rw [if_neg (by omega), if_neg (by omega), if_neg (by omega), if_neg (by omega), if_neg (by omega), if_neg (by omega), if_neg (by omega), if_neg (by omega)]))
theorem op_X6_seed {v : Int} (h : zCA sh R P I L A) (hv : -2147483648 ≤ v ∧ v ≤ 2147483647) : zE X mX6_seed 0 0 0 [zR 0, zI v, zX] [] sh I L R (zOp sh I L R (zI (oSeed A v).1) (oSeed A v).2) := by
  obtain ⟨hC, hNow, hTri, hHis, hKep, hTap, hShe, hOrd⟩ := id h
  obtain ⟨⟨c0, c1, c2, c3, c4, c5, c6, c7, c8, c9, c10, c11⟩, ⟨n1, n8, n73⟩, ⟨hh, hpm⟩, kh, tp, ⟨shs, shk⟩, spd, o1, o2, ra⟩ := id hC
  obtain ⟨⟨s0, s1, s2, s3, s4, s5, s6⟩, r0, r1, r2, r3, r4, r5⟩ := id n1
  have n80 := n8.1.1
  have hh0 := hh.1.1
  have e6 := hNow.2.1.1
  have hn5 := hNow.1.1.1
  refine z_iload1 1 dX6_seed_0 rfl ?_
  refine z_if_ge 6 4 dX6_seed_1 (by decide) rfl (by omega) (fun h1 => ?_) (fun h1 => ?_)
  · refine z_aload0 7 dX6_seed_6 rfl ?_
    refine z_getR 10 dX6_seed_7 fl_RX6_10 (by assumption) (by assumption) rfl ?_
    refine z_getI 13 dX6_seed_10 fl_RX6_127 (by assumption) rfl ?_
    refine z_istore2 14 dX6_seed_13 (Nat.le_of_ble_eq_true rfl) rfl rfl ?_
    refine z_aload0 15 dX6_seed_14 rfl ?_
    refine z_getR 18 dX6_seed_15 fl_RX6_10 (by assumption) (by assumption) rfl ?_
    refine z_iload1 19 dX6_seed_18 rfl ?_
    refine z_putI 22 dX6_seed_19 fp_RX6_127 (by assumption) rfl ?_
    refine z_iload2 23 dX6_seed_22 rfl ?_
    exact z_ireturn dX6_seed_23 rfl ((by
        rw [show oSeed A v = (A.1 0 8, (zup A.1 0 8 v, A.2)) by unfold oSeed; rw [if_neg (by omega)]]
        have hd : ∀ a, ¬ (1 ≤ a ∧ a < 8) → zup I 1 8 v a = I a := fun a ha => zup_row _ _ (by omega)
        exact ⟨by rw [← hNow.2.1.2.2]; rfl, rfl, ⟨P, hC, by unfold cNow; rw [zvw_upi0]; exact ⟨⟨zSr_up0 hNow.1.1 (Or.inl (by decide)), by rw [zup_ne _ _ (by omega)]; exact hNow.1.2.1, by rw [zup_at]; omega⟩, zQe_up hNow.2 (by omega) v⟩, cTri_of (fun a _ _ => hd a (by omega)) hTri, cHis_of hpm (fun a _ => hd a (by omega)) hHis, cKep_of (fun a _ => hd a (by omega)) hKep, cTap_of (fun a _ => hd a (by omega)) hTap, cShe_of (fun a _ _ => ⟨hd a (by omega), rfl⟩) hShe, cOrd_of (fun a _ => hd a (by omega)) hOrd⟩, fun a ha => ⟨hd a (by omega), rfl, rfl⟩⟩))
  · refine z_iconst 5 dX6_seed_4 rfl ?_
    exact z_ireturn dX6_seed_5 rfl ((by rw [show oSeed A v = (-1, A) by unfold oSeed; rw [if_pos (by omega)]]; exact zOp_same h rfl))
theorem op_X6_type {x : Int} (h : zCA sh R P I L A) (hx : -2147483648 ≤ x ∧ x ≤ 2147483647) : zE X mX6_type 0 0 0 [zR 0, zI x] [] sh I L R (zOp sh I L R (zI (oType A x).1) (oType A x).2) := by
  obtain ⟨hC, hNow, hTri, hHis, hKep, hTap, hShe, hOrd⟩ := id h
  obtain ⟨⟨c0, c1, c2, c3, c4, c5, c6, c7, c8, c9, c10, c11⟩, ⟨n1, n8, n73⟩, ⟨hh, hpm⟩, kh, tp, ⟨shs, shk⟩, spd, o1, o2, ra⟩ := id hC
  obtain ⟨⟨s0, s1, s2, s3, s4, s5, s6⟩, r0, r1, r2, r3, r4, r5⟩ := id n1
  have n80 := n8.1.1
  have hh0 := hh.1.1
  have e6 := hNow.2.1.1
  have hn5 := hNow.1.1.1
  have z1 := zwi_r x 32 126
  have tp0 := tp.1
  have ht1 := hTap.1
  have ht2 := hTap.2.1
  by_cases hf : A.2.2.2.1.length = 70
  · refine z_iload1 1 dX6_type_0 rfl ?_
    refine z_bipush 3 dX6_type_1 (by decide) rfl ?_
    refine z_bipush 5 dX6_type_3 (by decide) rfl ?_
    refine z_xS3 8 dX6_type_5 lk_X6_type_71 (ct_X6_within (by omega) (by omega) (by omega)) rfl (Nat.le_of_ble_eq_true rfl) (Nat.le_of_ble_eq_true rfl) rfl ?_
    refine z_if_ne 13 11 dX6_type_8 (by decide) rfl (by omega) (fun h8 => ?_) (fun h8 => ?_)
    · have g8 := zwi_ne0 h8
      refine z_aload0 14 dX6_type_13 rfl ?_
      refine z_getR 17 dX6_type_14 fl_RX6_39 (by assumption) (by assumption) rfl ?_
      refine z_iload1 18 dX6_type_17 rfl ?_
      refine z_xV1 21 dX6_type_18 lk_X6_type_114 (ct_X5_append_full tp (by omega)) rfl (Nat.le_of_ble_eq_true rfl) (Nat.le_of_ble_eq_true rfl) (by assumption) rfl rfl ?_
      exact z_ireturn dX6_type_21 rfl ((by rw [show oType A x = (-3, A) by unfold oType; rw [if_pos (by omega), if_pos hf]]; exact zOp_same h rfl))
    · have g8 := zwi_eq0 h8
      refine z_iconst 12 dX6_type_11 rfl ?_
      exact z_ireturn dX6_type_12 rfl ((by rw [show oType A x = (-1, A) by unfold oType; rw [if_neg (by omega)]]; exact zOp_same h rfl))
  · refine z_iload1 1 dX6_type_0 rfl ?_
    refine z_bipush 3 dX6_type_1 (by decide) rfl ?_
    refine z_bipush 5 dX6_type_3 (by decide) rfl ?_
    refine z_xS3 8 dX6_type_5 lk_X6_type_71 (ct_X6_within (by omega) (by omega) (by omega)) rfl (Nat.le_of_ble_eq_true rfl) (Nat.le_of_ble_eq_true rfl) rfl ?_
    refine z_if_ne 13 11 dX6_type_8 (by decide) rfl (by omega) (fun h8 => ?_) (fun h8 => ?_)
    · have g8 := zwi_ne0 h8
      refine z_aload0 14 dX6_type_13 rfl ?_
      refine z_getR 17 dX6_type_14 fl_RX6_39 (by assumption) (by assumption) rfl ?_
      refine z_iload1 18 dX6_type_17 rfl ?_
      refine z_xV1 21 dX6_type_18 lk_X6_type_114 (ct_X5_append tp ht1 (by omega)) rfl (Nat.le_of_ble_eq_true rfl) (Nat.le_of_ble_eq_true rfl) (by assumption) rfl rfl ?_
      exact z_ireturn dX6_type_21 rfl ((by
          rw [show oType A x = ((A.2.2.2.1.length : Int) + 1, (A.1, A.2.1, A.2.2.1, A.2.2.2.1 ++ [x], A.2.2.2.2)) by unfold oType; rw [if_pos (by omega), if_neg hf]]
          have hd : ∀ a, ¬ (a = 138 ∨ a = 139) → zup (zup I (138 + 1) A.2.2.2.1.length x) 138 1 ((A.2.2.2.1.length : Int) + 1) a = I a := fun a ha => by rw [zup_row _ _ (by omega), zup_row _ _ (by omega)]
          have h9 : ∀ j, zup (zup I (138 + 1) A.2.2.2.1.length x) 138 1 ((A.2.2.2.1.length : Int) + 1) 139 j = if j = A.2.2.2.1.length then x else I 139 j := fun j => by
            rw [zup_ne _ _ (by omega)]
            unfold zup
            by_cases hj : j = A.2.2.2.1.length
            · rw [if_pos ⟨rfl, hj⟩, if_pos hj]
            · rw [if_neg (fun z => hj z.2), if_neg hj]
          refine ⟨rfl, rfl, ⟨P, hC, cNow_of (fun a _ _ => hd a (by omega)) hNow, cTri_of (fun a _ _ => hd a (by omega)) hTri, cHis_of hpm (fun a _ => hd a (by omega)) hHis, cKep_of (fun a _ => hd a (by omega)) hKep, ⟨?_, ?_, fun j hj => ?_, fun j y hy => ?_⟩, cShe_of (fun a _ _ => ⟨hd a (by omega), rfl⟩) hShe, cOrd_of (fun a _ => hd a (by omega)) hOrd⟩, fun a ha => ⟨hd a (by omega), rfl, rfl⟩⟩
          · rw [zup_at]; simp
          · simp; omega
          · rw [h9]; split; omega; exact hTap.2.2.1 j hj
          · rw [h9]
            by_cases hj : j < A.2.2.2.1.length
            · rw [if_neg (by omega)]
              exact hTap.2.2.2 j y (by rw [← hy]; exact (List.getElem?_append_left hj).symm)
            · have hl := (List.getElem?_eq_some_iff.mp hy).1
              simp at hl
              have hj2 : j = A.2.2.2.1.length := by omega
              subst hj2
              rw [if_pos rfl]
              simpa using hy))
    · have g8 := zwi_eq0 h8
      refine z_iconst 12 dX6_type_11 rfl ?_
      exact z_ireturn dX6_type_12 rfl ((by rw [show oType A x = (-1, A) by unfold oType; rw [if_neg (by omega)]]; exact zOp_same h rfl))
end TOPA
