/-! ===== the methods of a Slide ===== -/
theorem zwi_eq0 {v lo hi : Int} (h : zwi v lo hi = 0) : ¬ (lo ≤ v ∧ v ≤ hi) := fun q => by rw [zwi_1 q] at h; cases h
theorem zwi_ne0 {v lo hi : Int} (h : ¬ zwi v lo hi = 0) : lo ≤ v ∧ v ≤ hi := Classical.byContradiction fun q => h (zwi_0 q)
theorem zup_at (I : zI2) (k j : Nat) (v : Int) : zup I k j v k j = v := by simp [zup]
theorem zup_ne (I : zI2) {k j a c : Nat} (v : Int) (h : ¬ (a = k ∧ c = j)) : zup I k j v a c = I a c := by simp only [zup, if_neg h]
theorem zup_row (I : zI2) {k j a : Nat} (v : Int) (h : a ≠ k) : zup I k j v a = I a := funext fun c => zup_ne I v (fun q => h q.1)
section SLIDEC
variable {X : zXs} {sh : zH} {I L : zI2} {R : zR2} {S : zT} {b : Nat}
theorem ct_X4_hasRider {r : Int} (hs : zSl sh R b) (hr : zSr S) (h1 : -2147483648 ≤ r ∧ r ≤ 2147483647) : zE X mX4_hasRider 0 0 0 [zR b, zI r] [] sh (zsl I b S) L R (zEq [zI (zwi r 0 (S 0 6 - 1))] sh (zsl I b S) L R) := by
  obtain ⟨⟨s0, s1, s2, s3, s4, s5, s6⟩, r0, r1, r2, r3, r4, r5⟩ := id hs
  obtain ⟨hn, hrg, hbm, hkd, hhv, hln, hpl⟩ := id hr
  have hz := zwi_r r 0 (S 0 6 - 1)
  refine z_iload1 1 dX4_hasRider_0 rfl ?_
  refine z_iconst 2 dX4_hasRider_1 rfl ?_
  refine z_aload0 3 dX4_hasRider_2 rfl ?_
  refine z_getIx 6 dX4_hasRider_3 fl_RX4_30 (by assumption) (zsl_0 _ _ _ _) rfl ?_
  refine z_iconst 7 dX4_hasRider_6 rfl ?_
  refine z_isub 8 dX4_hasRider_7 rfl ?_
  refine z_xSN3 11 dX4_hasRider_8 lk_X4_hasRider_46 (ct_X6_within (by omega) (by omega) (by omega)) rfl (Nat.le_of_ble_eq_true rfl) (Nat.le_of_ble_eq_true rfl) rfl ?_
  exact z_zreturn dX4_hasRider_11 rfl (by omega) (⟨rfl, rfl, rfl, rfl, rfl⟩)
theorem lp_X4_stuckOn {t : Nat} (hs : zSl sh R b) (hr : zSr S) (ht : t < 10) : ∀ (m r : Nat), r + m = (S 0 6).toNat → zE X mX4_stuckOn 0 0 2 [zR b, zI (t : Int), zI (r : Int)] [] sh (zsl I b S) L R (zEq [zI (zfs (S 6) (10 + (t : Int)) m r)] sh (zsl I b S) L R)
  | 0, r, h => by
    obtain ⟨⟨s0, s1, s2, s3, s4, s5, s6⟩, r0, r1, r2, r3, r4, r5⟩ := id hs
    obtain ⟨hn, hrg, hbm, hkd, hhv, hln, hpl⟩ := id hr
    refine z_iload2 3 dX4_stuckOn_2 rfl ?_
    refine z_aload0 4 dX4_stuckOn_3 rfl ?_
    refine z_getIx 7 dX4_stuckOn_4 fl_RX4_30 (by assumption) (zsl_0 _ _ _ _) rfl ?_
    refine z_icmp_ge 31 10 dX4_stuckOn_7 (by decide) rfl (by omega) (by omega) (fun h7 => ?_) (fun hz => absurd hz (by omega))
    refine z_bipush 33 dX4_stuckOn_31 (by decide) rfl ?_
    exact z_ireturn dX4_stuckOn_33 rfl (⟨rfl, rfl, rfl, rfl, rfl⟩)
  | m + 1, r, h => by
    obtain ⟨⟨s0, s1, s2, s3, s4, s5, s6⟩, r0, r1, r2, r3, r4, r5⟩ := id hs
    obtain ⟨hn, hrg, hbm, hkd, hhv, hln, hpl⟩ := id hr
    have hp := hpl r (by omega)
    refine z_iload2 3 dX4_stuckOn_2 rfl ?_
    refine z_aload0 4 dX4_stuckOn_3 rfl ?_
    refine z_getIx 7 dX4_stuckOn_4 fl_RX4_30 (by assumption) (zsl_0 _ _ _ _) rfl ?_
    refine z_icmp_ge 31 10 dX4_stuckOn_7 (by decide) rfl (by omega) (by omega) (fun hz => absurd hz (by omega)) (fun h7 => ?_)
    refine z_aload0 11 dX4_stuckOn_10 rfl ?_
    refine z_getR 14 dX4_stuckOn_11 fl_RX4_27 (by assumption) (by assumption) rfl ?_
    refine z_iload2 15 dX4_stuckOn_14 rfl ?_
    refine z_ialdx 16 (r) dX4_stuckOn_15 (by assumption) (by omega) (by omega) (zsl_r _ _ _ (by decide) _) rfl ?_
    refine z_bipush 18 dX4_stuckOn_16 (by decide) rfl ?_
    refine z_iload1 19 dX4_stuckOn_18 rfl ?_
    refine z_iadd 20 dX4_stuckOn_19 rfl ?_
    refine z_icmp_ne 25 23 dX4_stuckOn_20 (by decide) rfl (by omega) (by omega) (fun h20 => ?_) (fun h20 => ?_)
    · refine z_iinc2 28 dX4_stuckOn_25 (Nat.le_of_ble_eq_true rfl) rfl rfl ?_
      refine z_goto 2 dX4_stuckOn_28 (by decide) ?_
      rw [show zfs (S 6) (10 + (t : Int)) (m + 1) r = zfs (S 6) (10 + (t : Int)) m (r + 1) by rw [zfs, if_neg h20]]
      exact lp_X4_stuckOn hs hr ht m (r + 1) (by omega)
    · refine z_iload2 24 dX4_stuckOn_23 rfl ?_
      exact z_ireturn dX4_stuckOn_24 rfl (⟨by rw [zfs, if_pos h20], rfl, rfl, rfl, rfl⟩)
theorem ct_X4_stuckOn {t : Nat} (hs : zSl sh R b) (hr : zSr S) (ht : t < 10) : zE X mX4_stuckOn 0 0 0 [zR b, zI (t : Int), zX] [] sh (zsl I b S) L R (zEq [zI (sst S t)] sh (zsl I b S) L R) := by
  refine z_iconst 1 dX4_stuckOn_0 rfl ?_
  refine z_istore2 2 dX4_stuckOn_1 (Nat.le_of_ble_eq_true rfl) rfl rfl ?_
  exact lp_X4_stuckOn hs hr ht (S 0 6).toNat 0 (by omega)
theorem lp_X4_ridersAtTop (hs : zSl sh R b) (hr : zSr S) : ∀ (m r : Nat) (x : Int), r + m = (S 0 6).toNat → zE X mX4_ridersAtTop 0 0 4 [zR b, zI x, zI (r : Int)] [] sh (zsl I b S) L R (zEq [zI (zst (fun r => S 6 r = 30) m r x)] sh (zsl I b S) L R)
  | 0, r, x, h => by
    obtain ⟨⟨s0, s1, s2, s3, s4, s5, s6⟩, r0, r1, r2, r3, r4, r5⟩ := id hs
    obtain ⟨hn, hrg, hbm, hkd, hhv, hln, hpl⟩ := id hr
    refine z_iload2 5 dX4_ridersAtTop_4 rfl ?_
    refine z_aload0 6 dX4_ridersAtTop_5 rfl ?_
    refine z_getIx 9 dX4_ridersAtTop_6 fl_RX4_30 (by assumption) (zsl_0 _ _ _ _) rfl ?_
    refine z_icmp_ge 35 12 dX4_ridersAtTop_9 (by decide) rfl (by omega) (by omega) (fun h9 => ?_) (fun hz => absurd hz (by omega))
    refine z_iload1 36 dX4_ridersAtTop_35 rfl ?_
    exact z_ireturn dX4_ridersAtTop_36 rfl (⟨rfl, rfl, rfl, rfl, rfl⟩)
  | m + 1, r, x, h => by
    obtain ⟨⟨s0, s1, s2, s3, s4, s5, s6⟩, r0, r1, r2, r3, r4, r5⟩ := id hs
    obtain ⟨hn, hrg, hbm, hkd, hhv, hln, hpl⟩ := id hr
    have hp := hpl r (by omega)
    refine z_iload2 5 dX4_ridersAtTop_4 rfl ?_
    refine z_aload0 6 dX4_ridersAtTop_5 rfl ?_
    refine z_getIx 9 dX4_ridersAtTop_6 fl_RX4_30 (by assumption) (zsl_0 _ _ _ _) rfl ?_
    refine z_icmp_ge 35 12 dX4_ridersAtTop_9 (by decide) rfl (by omega) (by omega) (fun hz => absurd hz (by omega)) (fun h9 => ?_)
    refine z_aload0 13 dX4_ridersAtTop_12 rfl ?_
    refine z_getR 16 dX4_ridersAtTop_13 fl_RX4_27 (by assumption) (by assumption) rfl ?_
    refine z_iload2 17 dX4_ridersAtTop_16 rfl ?_
    refine z_ialdx 18 (r) dX4_ridersAtTop_17 (by assumption) (by omega) (by omega) (zsl_r _ _ _ (by decide) _) rfl ?_
    refine z_bipush 20 dX4_ridersAtTop_18 (by decide) rfl ?_
    refine z_icmp_ne 29 23 dX4_ridersAtTop_20 (by decide) rfl (by omega) (by omega) (fun h20 => ?_) (fun h20 => ?_)
    · refine z_iinc2 32 dX4_ridersAtTop_29 (Nat.le_of_ble_eq_true rfl) rfl rfl ?_
      refine z_goto 4 dX4_ridersAtTop_32 (by decide) ?_
      first | rw [show zst (fun r => S 6 r = 30) (m + 1) r x = zst (fun r => S 6 r = 30) m (r + 1) (zor x (zshl 1 r)) by rw [zst, if_pos h20]] | rw [show zst (fun r => S 6 r = 30) (m + 1) r x = zst (fun r => S 6 r = 30) m (r + 1) x by rw [zst, if_neg h20]]
      exact lp_X4_ridersAtTop hs hr m (r + 1) _ (by omega)
    · refine z_iload1 24 dX4_ridersAtTop_23 rfl ?_
      refine z_iconst 25 dX4_ridersAtTop_24 rfl ?_
      refine z_iload2 26 dX4_ridersAtTop_25 rfl ?_
      refine z_ishl 27 dX4_ridersAtTop_26 rfl ?_
      refine z_ior 28 dX4_ridersAtTop_27 rfl ?_
      refine z_istore1 29 dX4_ridersAtTop_28 (Nat.le_of_ble_eq_true rfl) rfl rfl ?_
      refine z_iinc2 32 dX4_ridersAtTop_29 (Nat.le_of_ble_eq_true rfl) rfl rfl ?_
      refine z_goto 4 dX4_ridersAtTop_32 (by decide) ?_
      first | rw [show zst (fun r => S 6 r = 30) (m + 1) r x = zst (fun r => S 6 r = 30) m (r + 1) (zor x (zshl 1 r)) by rw [zst, if_pos h20]] | rw [show zst (fun r => S 6 r = 30) (m + 1) r x = zst (fun r => S 6 r = 30) m (r + 1) x by rw [zst, if_neg h20]]
      exact lp_X4_ridersAtTop hs hr m (r + 1) _ (by omega)
theorem ct_X4_ridersAtTop (hs : zSl sh R b) (hr : zSr S) : zE X mX4_ridersAtTop 0 0 0 [zR b, zX, zX] [] sh (zsl I b S) L R (zEq [zI (stop_ S)] sh (zsl I b S) L R) := by
  refine z_iconst 1 dX4_ridersAtTop_0 rfl ?_
  refine z_istore1 2 dX4_ridersAtTop_1 (Nat.le_of_ble_eq_true rfl) rfl rfl ?_
  refine z_iconst 3 dX4_ridersAtTop_2 rfl ?_
  refine z_istore2 4 dX4_ridersAtTop_3 (Nat.le_of_ble_eq_true rfl) rfl rfl ?_
  exact lp_X4_ridersAtTop hs hr (S 0 6).toNat 0 0 (by omega)
theorem lp_X4_ridersThrough (hs : zSl sh R b) (hr : zSr S) : ∀ (m r : Nat) (x : Int), r + m = (S 0 6).toNat → zE X mX4_ridersThrough 0 0 4 [zR b, zI x, zI (r : Int)] [] sh (zsl I b S) L R (zEq [zI (zst (fun r => 0 ≤ S 6 r ∧ S 6 r ≤ 7) m r x)] sh (zsl I b S) L R)
  | 0, r, x, h => by
    obtain ⟨⟨s0, s1, s2, s3, s4, s5, s6⟩, r0, r1, r2, r3, r4, r5⟩ := id hs
    obtain ⟨hn, hrg, hbm, hkd, hhv, hln, hpl⟩ := id hr
    refine z_iload2 5 dX4_ridersThrough_4 rfl ?_
    refine z_aload0 6 dX4_ridersThrough_5 rfl ?_
    refine z_getIx 9 dX4_ridersThrough_6 fl_RX4_30 (by assumption) (zsl_0 _ _ _ _) rfl ?_
    refine z_icmp_ge 36 12 dX4_ridersThrough_9 (by decide) rfl (by omega) (by omega) (fun h9 => ?_) (fun hz => absurd hz (by omega))
    refine z_iload1 37 dX4_ridersThrough_36 rfl ?_
    exact z_ireturn dX4_ridersThrough_37 rfl (⟨rfl, rfl, rfl, rfl, rfl⟩)
  | m + 1, r, x, h => by
    obtain ⟨⟨s0, s1, s2, s3, s4, s5, s6⟩, r0, r1, r2, r3, r4, r5⟩ := id hs
    obtain ⟨hn, hrg, hbm, hkd, hhv, hln, hpl⟩ := id hr
    have hp := hpl r (by omega)
    have hz := zwi_r (S 6 r) 0 7
    refine z_iload2 5 dX4_ridersThrough_4 rfl ?_
    refine z_aload0 6 dX4_ridersThrough_5 rfl ?_
    refine z_getIx 9 dX4_ridersThrough_6 fl_RX4_30 (by assumption) (zsl_0 _ _ _ _) rfl ?_
    refine z_icmp_ge 36 12 dX4_ridersThrough_9 (by decide) rfl (by omega) (by omega) (fun hz => absurd hz (by omega)) (fun h9 => ?_)
    refine z_aload0 13 dX4_ridersThrough_12 rfl ?_
    refine z_getR 16 dX4_ridersThrough_13 fl_RX4_27 (by assumption) (by assumption) rfl ?_
    refine z_iload2 17 dX4_ridersThrough_16 rfl ?_
    refine z_ialdx 18 (r) dX4_ridersThrough_17 (by assumption) (by omega) (by omega) (zsl_r _ _ _ (by decide) _) rfl ?_
    refine z_xSN1 21 dX4_ridersThrough_18 lk_X4_ridersThrough_50 (ct_X6_isOutcome (by omega)) rfl (Nat.le_of_ble_eq_true rfl) (Nat.le_of_ble_eq_true rfl) rfl ?_
    refine z_if_eq 30 24 dX4_ridersThrough_21 (by decide) rfl (by omega) (fun h21 => ?_) (fun h21 => ?_)
    · refine z_iinc2 33 dX4_ridersThrough_30 (Nat.le_of_ble_eq_true rfl) rfl rfl ?_
      refine z_goto 4 dX4_ridersThrough_33 (by decide) ?_
      first | rw [show zst (fun r => 0 ≤ S 6 r ∧ S 6 r ≤ 7) (m + 1) r x = zst (fun r => 0 ≤ S 6 r ∧ S 6 r ≤ 7) m (r + 1) (zor x (zshl 1 r)) by rw [zst, if_pos (zwi_ne0 h21)]] | rw [show zst (fun r => 0 ≤ S 6 r ∧ S 6 r ≤ 7) (m + 1) r x = zst (fun r => 0 ≤ S 6 r ∧ S 6 r ≤ 7) m (r + 1) x by rw [zst, if_neg (zwi_eq0 h21)]]
      exact lp_X4_ridersThrough hs hr m (r + 1) _ (by omega)
    · refine z_iload1 25 dX4_ridersThrough_24 rfl ?_
      refine z_iconst 26 dX4_ridersThrough_25 rfl ?_
      refine z_iload2 27 dX4_ridersThrough_26 rfl ?_
      refine z_ishl 28 dX4_ridersThrough_27 rfl ?_
      refine z_ior 29 dX4_ridersThrough_28 rfl ?_
      refine z_istore1 30 dX4_ridersThrough_29 (Nat.le_of_ble_eq_true rfl) rfl rfl ?_
      refine z_iinc2 33 dX4_ridersThrough_30 (Nat.le_of_ble_eq_true rfl) rfl rfl ?_
      refine z_goto 4 dX4_ridersThrough_33 (by decide) ?_
      first | rw [show zst (fun r => 0 ≤ S 6 r ∧ S 6 r ≤ 7) (m + 1) r x = zst (fun r => 0 ≤ S 6 r ∧ S 6 r ≤ 7) m (r + 1) (zor x (zshl 1 r)) by rw [zst, if_pos (zwi_ne0 h21)]] | rw [show zst (fun r => 0 ≤ S 6 r ∧ S 6 r ≤ 7) (m + 1) r x = zst (fun r => 0 ≤ S 6 r ∧ S 6 r ≤ 7) m (r + 1) x by rw [zst, if_neg (zwi_eq0 h21)]]
      exact lp_X4_ridersThrough hs hr m (r + 1) _ (by omega)
theorem ct_X4_ridersThrough (hs : zSl sh R b) (hr : zSr S) : zE X mX4_ridersThrough 0 0 0 [zR b, zX, zX] [] sh (zsl I b S) L R (zEq [zI (sthr S)] sh (zsl I b S) L R) := by
  refine z_iconst 1 dX4_ridersThrough_0 rfl ?_
  refine z_istore1 2 dX4_ridersThrough_1 (Nat.le_of_ble_eq_true rfl) rfl rfl ?_
  refine z_iconst 3 dX4_ridersThrough_2 rfl ?_
  refine z_istore2 4 dX4_ridersThrough_3 (Nat.le_of_ble_eq_true rfl) rfl rfl ?_
  exact lp_X4_ridersThrough hs hr (S 0 6).toNat 0 0 (by omega)
theorem lp_X4_turnsTaken (hs : zSl sh R b) (hr : zSr S) : ∀ (m t : Nat) (x : Int), t + m = 10 → zE X mX4_turnsTaken 0 0 4 [zR b, zI x, zI (t : Int)] [] sh (zsl I b S) L R (zEq [zI (zst (fun t => ¬ sst S t = -4) m t x)] sh (zsl I b S) L R)
  | 0, t, x, h => by
    refine z_iload2 5 dX4_turnsTaken_4 rfl ?_
    refine z_bipush 7 dX4_turnsTaken_5 (by decide) rfl ?_
    refine z_icmp_ge 32 10 dX4_turnsTaken_7 (by decide) rfl (by omega) (by omega) (fun h7 => ?_) (fun hz => absurd hz (by omega))
    refine z_iload1 33 dX4_turnsTaken_32 rfl ?_
    exact z_ireturn dX4_turnsTaken_33 rfl (⟨rfl, rfl, rfl, rfl, rfl⟩)
  | m + 1, t, x, h => by
    obtain ⟨⟨s0, s1, s2, s3, s4, s5, s6⟩, r0, r1, r2, r3, r4, r5⟩ := id hs
    have hq := sst_r S t hr.1.2
    refine z_iload2 5 dX4_turnsTaken_4 rfl ?_
    refine z_bipush 7 dX4_turnsTaken_5 (by decide) rfl ?_
    refine z_icmp_ge 32 10 dX4_turnsTaken_7 (by decide) rfl (by omega) (by omega) (fun hz => absurd hz (by omega)) (fun h7 => ?_)
    refine z_aload0 11 dX4_turnsTaken_10 rfl ?_
    refine z_iload2 12 dX4_turnsTaken_11 rfl ?_
    refine z_xV1 15 dX4_turnsTaken_12 lk_X4_turnsTaken_54 (ct_X4_stuckOn hs hr (by omega)) rfl (Nat.le_of_ble_eq_true rfl) (Nat.le_of_ble_eq_true rfl) (by assumption) rfl rfl ?_
    refine z_bipush 17 dX4_turnsTaken_15 (by decide) rfl ?_
    refine z_icmp_eq 26 20 dX4_turnsTaken_17 (by decide) rfl (by omega) (by omega) (fun h17 => ?_) (fun h17 => ?_)
    · refine z_iinc2 29 dX4_turnsTaken_26 (Nat.le_of_ble_eq_true rfl) rfl rfl ?_
      refine z_goto 4 dX4_turnsTaken_29 (by decide) ?_
      first | rw [show zst (fun t => ¬ sst S t = -4) (m + 1) t x = zst (fun t => ¬ sst S t = -4) m (t + 1) (zor x (zshl 1 t)) by rw [zst, if_pos h17]] | rw [show zst (fun t => ¬ sst S t = -4) (m + 1) t x = zst (fun t => ¬ sst S t = -4) m (t + 1) x by rw [zst, if_neg (fun z => z h17)]]
      exact lp_X4_turnsTaken hs hr m (t + 1) _ (by omega)
    · refine z_iload1 21 dX4_turnsTaken_20 rfl ?_
      refine z_iconst 22 dX4_turnsTaken_21 rfl ?_
      refine z_iload2 23 dX4_turnsTaken_22 rfl ?_
      refine z_ishl 24 dX4_turnsTaken_23 rfl ?_
      refine z_ior 25 dX4_turnsTaken_24 rfl ?_
      refine z_istore1 26 dX4_turnsTaken_25 (Nat.le_of_ble_eq_true rfl) rfl rfl ?_
      refine z_iinc2 29 dX4_turnsTaken_26 (Nat.le_of_ble_eq_true rfl) rfl rfl ?_
      refine z_goto 4 dX4_turnsTaken_29 (by decide) ?_
      first | rw [show zst (fun t => ¬ sst S t = -4) (m + 1) t x = zst (fun t => ¬ sst S t = -4) m (t + 1) (zor x (zshl 1 t)) by rw [zst, if_pos h17]] | rw [show zst (fun t => ¬ sst S t = -4) (m + 1) t x = zst (fun t => ¬ sst S t = -4) m (t + 1) x by rw [zst, if_neg (fun z => z h17)]]
      exact lp_X4_turnsTaken hs hr m (t + 1) _ (by omega)
theorem ct_X4_turnsTaken (hs : zSl sh R b) (hr : zSr S) : zE X mX4_turnsTaken 0 0 0 [zR b, zX, zX] [] sh (zsl I b S) L R (zEq [zI (stak S)] sh (zsl I b S) L R) := by
  refine z_iconst 1 dX4_turnsTaken_0 rfl ?_
  refine z_istore1 2 dX4_turnsTaken_1 (Nat.le_of_ble_eq_true rfl) rfl rfl ?_
  refine z_iconst 3 dX4_turnsTaken_2 rfl ?_
  refine z_istore2 4 dX4_turnsTaken_3 (Nat.le_of_ble_eq_true rfl) rfl rfl ?_
  exact lp_X4_turnsTaken hs hr 10 0 0 (by omega)
theorem ct_X4_gained {r t : Nat} {v : Int} (hs : zSl sh R b) (hr : zSr S) (h5 : r < 5) (ht : t < 10) (hv : -2147483648 ≤ v ∧ v ≤ 2147483647) : zE X mX4_gained 0 0 0 [zR b, zI (r : Int), zI (t : Int), zI v, zX, zX] [] sh (zsl I b S) L R (zEq [zI (sgn S r t v)] sh (zsl I b S) L R) := by
  obtain ⟨⟨s0, s1, s2, s3, s4, s5, s6⟩, r0, r1, r2, r3, r4, r5⟩ := id hs
  have hk0 := hr.2.2.2.1 r h5
  have hh := hr.2.2.2.2.1 r h5
  refine z_iconst 1 dX4_gained_0 rfl ?_
  refine z_aload0 2 dX4_gained_1 rfl ?_
  refine z_getR 5 dX4_gained_2 fl_RX4_21 (by assumption) (by assumption) rfl ?_
  refine z_iload1 6 dX4_gained_5 rfl ?_
  refine z_ialdx 7 (r) dX4_gained_6 (by assumption) (by omega) (by omega) (zsl_r _ _ _ (by decide) _) rfl ?_
  refine z_iconst 8 dX4_gained_7 rfl ?_
  refine z_idiv 9 dX4_gained_8 (by omega) (by omega) rfl ?_
  refine z_iadd 10 dX4_gained_9 rfl ?_
  refine z_istore4 12 dX4_gained_10 (Nat.le_of_ble_eq_true rfl) rfl rfl ?_
  refine z_iload3 13 dX4_gained_12 rfl ?_
  refine z_bipush 15 dX4_gained_13 (by decide) rfl ?_
  refine z_icmp_lt 22 18 dX4_gained_15 (by decide) rfl (by omega) (by omega) (fun h15 => ?_) (fun h15 => ?_)
  · refine z_iconst 23 dX4_gained_22 rfl ?_
    refine z_istore5 25 dX4_gained_23 (Nat.le_of_ble_eq_true rfl) rfl rfl ?_
    refine z_aload0 26 dX4_gained_25 rfl ?_
    refine z_getR 29 dX4_gained_26 fl_RX4_18 (by assumption) (by assumption) rfl ?_
    refine z_iload1 30 dX4_gained_29 rfl ?_
    refine z_ialdx 31 (r) dX4_gained_30 (by assumption) (by omega) (by omega) (zsl_r _ _ _ (by decide) _) rfl ?_
    rcases (by omega : S 3 r = 1 ∨ S 3 r = 2 ∨ S 3 r = 3 ∨ S 3 r = 4 ∨ S 3 r = 0) with hk | hk | hk | hk | hk
    · rw [hk]
      refine z_swIn 60 (off := 29) dX4_gained_31 (by omega) (by omega) (by decide) (by decide) ?_
      refine z_iload4 62 dX4_gained_60 rfl ?_
      exact z_ireturn dX4_gained_62 rfl (⟨by unfold sgn sgo; rw [if_pos hk], rfl, rfl, rfl, rfl⟩)
    · rw [hk]
      refine z_swIn 63 (off := 32) dX4_gained_31 (by omega) (by omega) (by decide) (by decide) ?_
      refine z_iload5 65 dX4_gained_63 rfl ?_
      exact z_ireturn dX4_gained_65 rfl (⟨by unfold sgn cgo; rw [if_neg (by omega), if_pos hk]; (first | rw [if_pos (by omega)] | rw [if_neg (by omega)]), rfl, rfl, rfl, rfl⟩)
    · rw [hk]
      refine z_swIn 66 (off := 35) dX4_gained_31 (by omega) (by omega) (by decide) (by decide) ?_
      refine z_iload2 67 dX4_gained_66 rfl ?_
      refine z_iconst 68 dX4_gained_67 rfl ?_
      refine z_irem 69 dX4_gained_68 (by omega) (by omega) rfl ?_
      refine z_if_ne 77 72 dX4_gained_69 (by decide) rfl (by omega) (fun h69 => ?_) (fun h69 => ?_)
      · refine z_iload4 79 dX4_gained_77 rfl ?_
        refine z_iconst 80 dX4_gained_79 rfl ?_
        refine z_idiv 81 dX4_gained_80 (by omega) (by omega) rfl ?_
        exact z_ireturn dX4_gained_81 rfl (⟨by unfold sgn sgo; rw [if_neg (by omega), if_neg (by omega), if_pos hk]; (first | rw [if_pos (by omega)] | rw [if_neg (by omega)]), rfl, rfl, rfl, rfl⟩)
      · refine z_iload4 74 dX4_gained_72 rfl ?_
        refine z_goto 81 dX4_gained_74 (by decide) ?_
        exact z_ireturn dX4_gained_81 rfl (⟨by unfold sgn sgo; rw [if_neg (by omega), if_neg (by omega), if_pos hk]; (first | rw [if_pos (by omega)] | rw [if_neg (by omega)]), rfl, rfl, rfl, rfl⟩)
    · rw [hk]
      refine z_swIn 82 (off := 51) dX4_gained_31 (by omega) (by omega) (by decide) (by decide) ?_
      refine z_iload5 84 dX4_gained_82 rfl ?_
      refine z_iconst 85 dX4_gained_84 rfl ?_
      refine z_aload0 86 dX4_gained_85 rfl ?_
      refine z_getR 89 dX4_gained_86 fl_RX4_15 (by assumption) (by assumption) rfl ?_
      refine z_iload2 90 dX4_gained_89 rfl ?_
      refine z_ialdx 91 (t) dX4_gained_90 (by assumption) (by omega) (by omega) (zsl_r _ _ _ (by decide) _) rfl ?_
      refine z_imul 92 dX4_gained_91 rfl ?_
      refine z_iadd 93 dX4_gained_92 rfl ?_
      exact z_ireturn dX4_gained_93 rfl (⟨by unfold sgn cgo; rw [if_neg (by omega), if_neg (by omega), if_neg (by omega), if_pos hk]; (first | rw [if_pos (by omega)] | rw [if_neg (by omega)]), rfl, rfl, rfl, rfl⟩)
    · rw [hk]
      refine z_swOut 94 dX4_gained_31 (by omega) (by omega) (by decide) ?_
      refine z_iconst 95 dX4_gained_94 rfl ?_
      exact z_ireturn dX4_gained_95 rfl (⟨by unfold sgn; rw [if_neg (by omega), if_neg (by omega), if_neg (by omega), if_neg (by omega)], rfl, rfl, rfl, rfl⟩)
  · refine z_iconst 19 dX4_gained_18 rfl ?_
    refine z_goto 23 dX4_gained_19 (by decide) ?_
    refine z_istore5 25 dX4_gained_23 (Nat.le_of_ble_eq_true rfl) rfl rfl ?_
    refine z_aload0 26 dX4_gained_25 rfl ?_
    refine z_getR 29 dX4_gained_26 fl_RX4_18 (by assumption) (by assumption) rfl ?_
    refine z_iload1 30 dX4_gained_29 rfl ?_
    refine z_ialdx 31 (r) dX4_gained_30 (by assumption) (by omega) (by omega) (zsl_r _ _ _ (by decide) _) rfl ?_
    rcases (by omega : S 3 r = 1 ∨ S 3 r = 2 ∨ S 3 r = 3 ∨ S 3 r = 4 ∨ S 3 r = 0) with hk | hk | hk | hk | hk
    · rw [hk]
      refine z_swIn 60 (off := 29) dX4_gained_31 (by omega) (by omega) (by decide) (by decide) ?_
      refine z_iload4 62 dX4_gained_60 rfl ?_
      exact z_ireturn dX4_gained_62 rfl (⟨by unfold sgn sgo; rw [if_pos hk], rfl, rfl, rfl, rfl⟩)
    · rw [hk]
      refine z_swIn 63 (off := 32) dX4_gained_31 (by omega) (by omega) (by decide) (by decide) ?_
      refine z_iload5 65 dX4_gained_63 rfl ?_
      exact z_ireturn dX4_gained_65 rfl (⟨by unfold sgn cgo; rw [if_neg (by omega), if_pos hk]; (first | rw [if_pos (by omega)] | rw [if_neg (by omega)]), rfl, rfl, rfl, rfl⟩)
    · rw [hk]
      refine z_swIn 66 (off := 35) dX4_gained_31 (by omega) (by omega) (by decide) (by decide) ?_
      refine z_iload2 67 dX4_gained_66 rfl ?_
      refine z_iconst 68 dX4_gained_67 rfl ?_
      refine z_irem 69 dX4_gained_68 (by omega) (by omega) rfl ?_
      refine z_if_ne 77 72 dX4_gained_69 (by decide) rfl (by omega) (fun h69 => ?_) (fun h69 => ?_)
      · refine z_iload4 79 dX4_gained_77 rfl ?_
        refine z_iconst 80 dX4_gained_79 rfl ?_
        refine z_idiv 81 dX4_gained_80 (by omega) (by omega) rfl ?_
        exact z_ireturn dX4_gained_81 rfl (⟨by unfold sgn sgo; rw [if_neg (by omega), if_neg (by omega), if_pos hk]; (first | rw [if_pos (by omega)] | rw [if_neg (by omega)]), rfl, rfl, rfl, rfl⟩)
      · refine z_iload4 74 dX4_gained_72 rfl ?_
        refine z_goto 81 dX4_gained_74 (by decide) ?_
        exact z_ireturn dX4_gained_81 rfl (⟨by unfold sgn sgo; rw [if_neg (by omega), if_neg (by omega), if_pos hk]; (first | rw [if_pos (by omega)] | rw [if_neg (by omega)]), rfl, rfl, rfl, rfl⟩)
    · rw [hk]
      refine z_swIn 82 (off := 51) dX4_gained_31 (by omega) (by omega) (by decide) (by decide) ?_
      refine z_iload5 84 dX4_gained_82 rfl ?_
      refine z_iconst 85 dX4_gained_84 rfl ?_
      refine z_aload0 86 dX4_gained_85 rfl ?_
      refine z_getR 89 dX4_gained_86 fl_RX4_15 (by assumption) (by assumption) rfl ?_
      refine z_iload2 90 dX4_gained_89 rfl ?_
      refine z_ialdx 91 (t) dX4_gained_90 (by assumption) (by omega) (by omega) (zsl_r _ _ _ (by decide) _) rfl ?_
      refine z_imul 92 dX4_gained_91 rfl ?_
      refine z_iadd 93 dX4_gained_92 rfl ?_
      exact z_ireturn dX4_gained_93 rfl (⟨by unfold sgn cgo; rw [if_neg (by omega), if_neg (by omega), if_neg (by omega), if_pos hk]; (first | rw [if_pos (by omega)] | rw [if_neg (by omega)]), rfl, rfl, rfl, rfl⟩)
    · rw [hk]
      refine z_swOut 94 dX4_gained_31 (by omega) (by omega) (by decide) ?_
      refine z_iconst 95 dX4_gained_94 rfl ?_
      exact z_ireturn dX4_gained_95 rfl (⟨by unfold sgn; rw [if_neg (by omega), if_neg (by omega), if_neg (by omega), if_neg (by omega)], rfl, rfl, rfl, rfl⟩)
end SLIDEC
