/-! ===== calls on the object: riders, turns, the tape ===== -/
section CTI
variable {X : zXs} {sh : zH} {I L : zI2} {R : zR2} {b : Nat}
theorem cti_hasRider {r : Int} (hs : zSl sh R b) (hr : zSr (zvw I b)) (h1 : -2147483648 ≤ r ∧ r ≤ 2147483647) : zE X mX4_hasRider 0 0 0 [zR b, zI r] [] sh I L R (zEq [zI (zwi r 0 (zvw I b 0 6 - 1))] sh I L R) := by
  have h := ct_X4_hasRider (X := X) (I := I) (L := L) hs hr h1
  rw [zsl_self] at h
  exact h
theorem cti_stuckOn {t : Nat} (hs : zSl sh R b) (hr : zSr (zvw I b)) (ht : t < 10) : zE X mX4_stuckOn 0 0 0 [zR b, zI (t : Int), zX] [] sh I L R (zEq [zI (sst (zvw I b) t)] sh I L R) := by
  have h := ct_X4_stuckOn (X := X) (I := I) (L := L) hs hr ht
  rw [zsl_self] at h
  exact h
theorem cti_gained {r t : Nat} {v : Int} (hs : zSl sh R b) (hr : zSr (zvw I b)) (h5 : r < 5) (ht : t < 10) (hv : -2147483648 ≤ v ∧ v ≤ 2147483647) : zE X mX4_gained 0 0 0 [zR b, zI (r : Int), zI (t : Int), zI v] [] sh I L R (zEq [zI (sgn (zvw I b) r t v)] sh I L R) := by
  have h := ct_X4_gained (X := X) (I := I) (L := L) hs hr h5 ht hv
  rw [zsl_self] at h
  exact h
theorem cti_atTop (hs : zSl sh R b) (hr : zSr (zvw I b)) : zE X mX4_ridersAtTop 0 0 0 [zR b, zX, zX] [] sh I L R (zEq [zI (stop_ (zvw I b))] sh I L R) := by
  have h := ct_X4_ridersAtTop (X := X) (I := I) (L := L) hs hr
  rw [zsl_self] at h
  exact h
theorem cti_through (hs : zSl sh R b) (hr : zSr (zvw I b)) : zE X mX4_ridersThrough 0 0 0 [zR b, zX, zX] [] sh I L R (zEq [zI (sthr (zvw I b))] sh I L R) := by
  have h := ct_X4_ridersThrough (X := X) (I := I) (L := L) hs hr
  rw [zsl_self] at h
  exact h
theorem cti_taken (hs : zSl sh R b) (hr : zSr (zvw I b)) : zE X mX4_turnsTaken 0 0 0 [zR b, zX, zX] [] sh I L R (zEq [zI (stak (zvw I b))] sh I L R) := by
  have h := ct_X4_turnsTaken (X := X) (I := I) (L := L) hs hr
  rw [zsl_self] at h
  exact h
theorem cti_addRider {n : Nat} {k v l : Int} (hs : zSl sh R b) (hn : zvw I b 0 6 = (n : Int)) (h5 : n < 5) : zE X mX4_addRider 0 0 0 [zR b, zI k, zI v, zI l, zX] [] sh I L R (zEq [zI (n : Int)] sh (zsl I b (sad (zvw I b) n k v l)) L R) := by
  have h := ct_X4_addRider (X := X) (I := I) (L := L) (k := k) (h := v) (l := l) hs hn h5
  rw [zsl_self] at h
  exact h
theorem cti_addRider_full {k v l : Int} (hs : zSl sh R b) (hn : zvw I b 0 6 = 5) : zE X mX4_addRider 0 0 0 [zR b, zI k, zI v, zI l, zX] [] sh I L R (zEq [zI (-3)] sh I L R) := by
  have h := ct_X4_addRider_full (X := X) (I := I) (L := L) (k := k) (h := v) (l := l) hs hn
  rw [zsl_self] at h
  exact h
theorem lp_X6_sum {a n : Nat} (ha : sh[a]? = some (20, n)) (hn : n ≤ 60000) : ∀ (m i : Nat) (x : Int), i + m = n → zE X mX6_sum 0 0 4 [zR a, zI x, zI (i : Int)] [] sh I L R (zEq [zI (rsm (I a) m i x)] sh I L R)
  | 0, i, x, h => by
    refine z_iload2 5 dX6_sum_4 rfl ?_
    refine z_aload0 6 dX6_sum_5 rfl ?_
    refine z_alen 7 dX6_sum_6 (by assumption) (by decide) rfl ?_
    refine z_icmp_ge 22 10 dX6_sum_7 (by decide) rfl (by omega) (by omega) (fun h7 => ?_) (fun hz => absurd hz (by omega))
    refine z_iload1 23 dX6_sum_22 rfl ?_
    exact z_ireturn dX6_sum_23 rfl (⟨rfl, rfl, rfl, rfl, rfl⟩)
  | m + 1, i, x, h => by
    refine z_iload2 5 dX6_sum_4 rfl ?_
    refine z_aload0 6 dX6_sum_5 rfl ?_
    refine z_alen 7 dX6_sum_6 (by assumption) (by decide) rfl ?_
    refine z_icmp_ge 22 10 dX6_sum_7 (by decide) rfl (by omega) (by omega) (fun hz => absurd hz (by omega)) (fun h7 => ?_)
    refine z_iload1 11 dX6_sum_10 rfl ?_
    refine z_aload0 12 dX6_sum_11 rfl ?_
    refine z_iload2 13 dX6_sum_12 rfl ?_
    refine z_ialdN 14 (i) dX6_sum_13 (by assumption) (by omega) (by omega) rfl ?_
    refine z_iadd 15 dX6_sum_14 rfl ?_
    refine z_istore1 16 dX6_sum_15 (Nat.le_of_ble_eq_true rfl) rfl rfl ?_
    refine z_iinc2 19 dX6_sum_16 (Nat.le_of_ble_eq_true rfl) rfl rfl ?_
    refine z_goto 4 dX6_sum_19 (by decide) ?_
    exact lp_X6_sum ha hn m (i + 1) _ (by omega)
theorem ct_X6_sum {a n : Nat} (ha : sh[a]? = some (20, n)) (hn : n ≤ 60000) : zE X mX6_sum 0 0 0 [zR a, zX, zX] [] sh I L R (zEq [zI (rsm (I a) n 0 0)] sh I L R) := by
  refine z_iconst 1 dX6_sum_0 rfl ?_
  refine z_istore1 2 dX6_sum_1 (Nat.le_of_ble_eq_true rfl) rfl rfl ?_
  refine z_iconst 3 dX6_sum_2 rfl ?_
  refine z_istore2 4 dX6_sum_3 (Nat.le_of_ble_eq_true rfl) rfl rfl ?_
  exact lp_X6_sum ha hn n 0 0 (by omega)
end CTI
theorem rsm_c {W W' : Nat → Int} : ∀ (m s : Nat) (x : Int), (∀ q, s ≤ q → q < s + m → W q = W' q) → rsm W m s x = rsm W' m s x
  | 0, s, x, _ => rfl
  | m + 1, s, x, h => by
    unfold rsm
    rw [h s (by omega) (by omega)]
    exact rsm_c m (s + 1) _ (fun q h1 h2 => h q (by omega) (by omega))
/-! what the calls answer, and what they leave -/
def oRider (A : zA) (k v l : Int) : Int × zA := if (0 ≤ k ∧ k ≤ 4) ∧ (1 ≤ v ∧ v ≤ 20) ∧ (0 ≤ l ∧ l ≤ 7) then (if A.1 0 6 = 5 then (-3, A) else (A.1 0 6, (sad A.1 (A.1 0 6).toNat k v l, [], A.2.2))) else (-1, A)
def zHas (A : zA) (r : Int) : Prop := 0 ≤ r ∧ r ≤ A.1 0 6 - 1
def oLean (A : zA) (r v : Int) : Int × zA := if (0 ≤ r ∧ r ≤ A.1 0 6 - 1) ∧ (0 ≤ v ∧ v ≤ 7) then (A.1 5 r.toNat, (zup A.1 5 r.toNat v, A.2)) else (-1, A)
def oOf (A : zA) (r w : Int) : Int := if 0 ≤ r ∧ r ≤ A.1 0 6 - 1 then (if w = 0 then A.1 3 r.toNat else if w = 1 then A.1 4 r.toNat else if w = 2 then A.1 5 r.toNat else if w = 3 then A.1 6 r.toNat else -1) else -1
def oAt (A : zA) (t w : Int) : Int := if 0 ≤ t ∧ t ≤ 9 then (if w = 0 then A.1 1 t.toNat else if w = 1 then A.1 2 t.toNat else if w = 2 then sst A.1 t.toNat else -1) else -1
def oGains (A : zA) (r t v : Int) : Int := if (0 ≤ r ∧ r ≤ A.1 0 6 - 1) ∧ (0 ≤ t ∧ t ≤ 9) ∧ (0 ≤ v ∧ v ≤ 30) then sgn A.1 r.toNat t.toNat v else -1
def oType (A : zA) (x : Int) : Int × zA := if 32 ≤ x ∧ x ≤ 126 then (if A.2.2.2.1.length = 70 then (-3, A) else ((A.2.2.2.1.length : Int) + 1, (A.1, A.2.1, A.2.2.1, A.2.2.2.1 ++ [x], A.2.2.2.2))) else (-1, A)
def oCount (A : zA) (w : Int) : Int := if w = 0 then A.1 0 6 else if w = 1 then A.1 0 7 else if w = 2 then stop_ A.1 else if w = 3 then sthr A.1 else if w = 4 then stak A.1 else if w = 5 then rsm (A.1 1) 10 0 0 else if w = 6 then rsm (A.1 2) 10 0 0 else if w = 7 then (A.2.1.length : Int) else -1
def oSeed (A : zA) (v : Int) : Int × zA := if v < 0 then (-1, A) else (A.1 0 8, (zup A.1 0 8 v, A.2))
section TOPA
variable {X : zXs} {sh : zH} {I L : zI2} {R : zR2} {P : Nat → Nat} {A : zA}
theorem op_X6_rider {k v l : Int} (h : zCA sh R P I L A) (hk : -2147483648 ≤ k ∧ k ≤ 2147483647) (hv : -2147483648 ≤ v ∧ v ≤ 2147483647) (hl : -2147483648 ≤ l ∧ l ≤ 2147483647) : zE X mX6_rider 0 0 0 [zR 0, zI k, zI v, zI l, zX] [] sh I L R (zOp sh I L R (zI (oRider A k v l).1) (oRider A k v l).2) := by
  obtain ⟨hC, hNow, hTri, hHis, hKep, hTap, hShe, hOrd⟩ := id h
  obtain ⟨⟨c0, c1, c2, c3, c4, c5, c6, c7, c8, c9, c10, c11⟩, ⟨n1, n8, n73⟩, ⟨hh, hpm⟩, kh, tp, ⟨shs, shk⟩, spd, o1, o2, ra⟩ := id hC
  have n10 := n1.1.1
  have hh0 := hh.1.1
  have z1 := zwi_r k 0 4
  have z2 := zwi_r v 1 20
  have z3 := zwi_r l 0 7
  have e6 := hNow.2.1.1
  have hn5 := hNow.1.1.1
  obtain ⟨n, hn⟩ : ∃ n : Nat, zvw I 1 0 6 = (n : Int) := ⟨(zvw I 1 0 6).toNat, by omega⟩
  by_cases hf : n = 5
  · subst hf
    refine z_iload1 1 dX6_rider_0 rfl ?_
    refine z_iconst 2 dX6_rider_1 rfl ?_
    refine z_iconst 3 dX6_rider_2 rfl ?_
    refine z_xS3 6 dX6_rider_3 lk_X6_rider_71 (ct_X6_within (by omega) (by omega) (by omega)) rfl (Nat.le_of_ble_eq_true rfl) (Nat.le_of_ble_eq_true rfl) rfl ?_
    refine z_if_eq 29 9 dX6_rider_6 (by decide) rfl (by omega) (fun h6 => ?_) (fun h6 => ?_)
    · have g6 := zwi_eq0 h6
      refine z_iconst 30 dX6_rider_29 rfl ?_
      exact z_ireturn dX6_rider_30 rfl ((by rw [show oRider A k v l = (-1, A) by unfold oRider; rw [if_neg (by omega)]]; exact zOp_same h rfl))
    · have g6 := zwi_ne0 h6
      refine z_iload2 10 dX6_rider_9 rfl ?_
      refine z_iconst 11 dX6_rider_10 rfl ?_
      refine z_bipush 13 dX6_rider_11 (by decide) rfl ?_
      refine z_xS3 16 dX6_rider_13 lk_X6_rider_71 (ct_X6_within (by omega) (by omega) (by omega)) rfl (Nat.le_of_ble_eq_true rfl) (Nat.le_of_ble_eq_true rfl) rfl ?_
      refine z_if_eq 29 19 dX6_rider_16 (by decide) rfl (by omega) (fun h16 => ?_) (fun h16 => ?_)
      · have g16 := zwi_eq0 h16
        refine z_iconst 30 dX6_rider_29 rfl ?_
        exact z_ireturn dX6_rider_30 rfl ((by rw [show oRider A k v l = (-1, A) by unfold oRider; rw [if_neg (by omega)]]; exact zOp_same h rfl))
      · have g16 := zwi_ne0 h16
        refine z_iload3 20 dX6_rider_19 rfl ?_
        refine z_iconst 21 dX6_rider_20 rfl ?_
        refine z_bipush 23 dX6_rider_21 (by decide) rfl ?_
        refine z_xS3 26 dX6_rider_23 lk_X6_rider_71 (ct_X6_within (by omega) (by omega) (by omega)) rfl (Nat.le_of_ble_eq_true rfl) (Nat.le_of_ble_eq_true rfl) rfl ?_
        refine z_if_ne 31 29 dX6_rider_26 (by decide) rfl (by omega) (fun h26 => ?_) (fun h26 => ?_)
        · have g26 := zwi_ne0 h26
          refine z_aload0 32 dX6_rider_31 rfl ?_
          refine z_getR 35 dX6_rider_32 fl_RX6_10 (by assumption) (by assumption) rfl ?_
          refine z_iload1 36 dX6_rider_35 rfl ?_
          refine z_iload2 37 dX6_rider_36 rfl ?_
          refine z_iload3 38 dX6_rider_37 rfl ?_
          refine z_xV3 41 dX6_rider_38 lk_X6_rider_75 (cti_addRider_full n1 hn) rfl (Nat.le_of_ble_eq_true rfl) (Nat.le_of_ble_eq_true rfl) (by assumption) rfl rfl ?_
          refine z_istore4 43 dX6_rider_41 (Nat.le_of_ble_eq_true rfl) rfl rfl ?_
          refine z_iload4 45 dX6_rider_43 rfl ?_
          refine z_bipush 47 dX6_rider_45 (by decide) rfl ?_
          refine z_icmp_eq 57 50 dX6_rider_47 (by decide) rfl (by omega) (by omega) (fun h47 => ?_) (fun hz => absurd hz (by omega))
          refine z_iload4 59 dX6_rider_57 rfl ?_
          exact z_ireturn dX6_rider_59 rfl ((by rw [show oRider A k v l = (-3, A) by unfold oRider; rw [if_pos (by omega), if_pos (by omega)]]; exact zOp_same h rfl))
        · have g26 := zwi_eq0 h26
          refine z_iconst 30 dX6_rider_29 rfl ?_
          exact z_ireturn dX6_rider_30 rfl ((by rw [show oRider A k v l = (-1, A) by unfold oRider; rw [if_neg (by omega)]]; exact zOp_same h rfl))
  · refine z_iload1 1 dX6_rider_0 rfl ?_
    refine z_iconst 2 dX6_rider_1 rfl ?_
    refine z_iconst 3 dX6_rider_2 rfl ?_
    refine z_xS3 6 dX6_rider_3 lk_X6_rider_71 (ct_X6_within (by omega) (by omega) (by omega)) rfl (Nat.le_of_ble_eq_true rfl) (Nat.le_of_ble_eq_true rfl) rfl ?_
    refine z_if_eq 29 9 dX6_rider_6 (by decide) rfl (by omega) (fun h6 => ?_) (fun h6 => ?_)
    · have g6 := zwi_eq0 h6
      refine z_iconst 30 dX6_rider_29 rfl ?_
      exact z_ireturn dX6_rider_30 rfl ((by rw [show oRider A k v l = (-1, A) by unfold oRider; rw [if_neg (by omega)]]; exact zOp_same h rfl))
    · have g6 := zwi_ne0 h6
      refine z_iload2 10 dX6_rider_9 rfl ?_
      refine z_iconst 11 dX6_rider_10 rfl ?_
      refine z_bipush 13 dX6_rider_11 (by decide) rfl ?_
      refine z_xS3 16 dX6_rider_13 lk_X6_rider_71 (ct_X6_within (by omega) (by omega) (by omega)) rfl (Nat.le_of_ble_eq_true rfl) (Nat.le_of_ble_eq_true rfl) rfl ?_
      refine z_if_eq 29 19 dX6_rider_16 (by decide) rfl (by omega) (fun h16 => ?_) (fun h16 => ?_)
      · have g16 := zwi_eq0 h16
        refine z_iconst 30 dX6_rider_29 rfl ?_
        exact z_ireturn dX6_rider_30 rfl ((by rw [show oRider A k v l = (-1, A) by unfold oRider; rw [if_neg (by omega)]]; exact zOp_same h rfl))
      · have g16 := zwi_ne0 h16
        refine z_iload3 20 dX6_rider_19 rfl ?_
        refine z_iconst 21 dX6_rider_20 rfl ?_
        refine z_bipush 23 dX6_rider_21 (by decide) rfl ?_
        refine z_xS3 26 dX6_rider_23 lk_X6_rider_71 (ct_X6_within (by omega) (by omega) (by omega)) rfl (Nat.le_of_ble_eq_true rfl) (Nat.le_of_ble_eq_true rfl) rfl ?_
        refine z_if_ne 31 29 dX6_rider_26 (by decide) rfl (by omega) (fun h26 => ?_) (fun h26 => ?_)
        · have g26 := zwi_ne0 h26
          refine z_aload0 32 dX6_rider_31 rfl ?_
          refine z_getR 35 dX6_rider_32 fl_RX6_10 (by assumption) (by assumption) rfl ?_
          refine z_iload1 36 dX6_rider_35 rfl ?_
          refine z_iload2 37 dX6_rider_36 rfl ?_
          refine z_iload3 38 dX6_rider_37 rfl ?_
          refine z_xV3 41 dX6_rider_38 lk_X6_rider_75 (cti_addRider n1 hn (by omega)) rfl (Nat.le_of_ble_eq_true rfl) (Nat.le_of_ble_eq_true rfl) (by assumption) rfl rfl ?_
          refine z_istore4 43 dX6_rider_41 (Nat.le_of_ble_eq_true rfl) rfl rfl ?_
          refine z_iload4 45 dX6_rider_43 rfl ?_
          refine z_bipush 47 dX6_rider_45 (by decide) rfl ?_
          refine z_icmp_eq 57 50 dX6_rider_47 (by decide) rfl (by omega) (by omega) (fun hz => absurd hz (by omega)) (fun h47 => ?_)
          refine z_aload0 51 dX6_rider_50 rfl ?_
          refine z_getR 54 dX6_rider_51 fl_RX6_22 (by assumption) (by assumption) rfl ?_
          refine z_xVv0 57 dX6_rider_54 lk_X6_rider_79 (ct_X0_forgetAll hh) rfl (Nat.le_of_ble_eq_true rfl) (Nat.le_of_ble_eq_true rfl) (by assumption) rfl rfl ?_
          refine z_iload4 59 dX6_rider_57 rfl ?_
          rw [show oRider A k v l = (A.1 0 6, (sad A.1 n k v l, [], A.2.2)) by unfold oRider; rw [if_pos (by omega), if_neg (by omega), show (A.1 0 6).toNat = n by omega]]
          have hd : ∀ a, ¬ (a = 15 ∨ (1 ≤ a ∧ a < 8)) → zup (zsl I 1 (sad (zvw I 1) n k v l)) 15 1 0 a = I a := fun a ha => by rw [zup_row _ _ (by omega), zsl_oR _ _ _ (by omega)]
          have hw : ∀ i, i < 7 → sad (zvw I 1) n k v l i = zvw (zup (zsl I 1 (sad (zvw I 1) n k v l)) 15 1 0) 1 i := fun i hi => by rw [zvw_up _ (by omega), zvw_sl _ _ _ hi]
          refine z_ireturn dX6_rider_59 rfl ⟨by rw [← e6, hn], rfl, ⟨P, hC, ⟨zSg_w hw (sad_sg hNow.1 (by omega) (by omega) (by omega) (by omega)), zQe_w hw (sad_c hNow.2 hn k v l)⟩, cTri_of (fun a _ _ => hd a (by omega)) hTri, ⟨zup_at _ _ _ _, Nat.zero_le _, fun i hi => by rw [zvw_up _ (by have := zPm_r hpm hi; omega), zvw_slo _ (by have := zPm_r hpm hi; omega)]; exact hHis.2.2.1 i hi, fun i s hs => by cases hs⟩, cKep_of (fun a _ => hd a (by omega)) hKep, cTap_of (fun a _ => hd a (by omega)) hTap, cShe_of (fun a _ _ => ⟨hd a (by omega), rfl⟩) hShe, cOrd_of (fun a _ => hd a (by omega)) hOrd⟩, fun a ha => ⟨hd a (by omega), rfl, rfl⟩⟩
        · have g26 := zwi_eq0 h26
          refine z_iconst 30 dX6_rider_29 rfl ?_
          exact z_ireturn dX6_rider_30 rfl ((by rw [show oRider A k v l = (-1, A) by unfold oRider; rw [if_neg (by omega)]]; exact zOp_same h rfl))
end TOPA
