theorem send_07 (S : zT) (r : Nat) : send S r 0 7 = S 0 7 + 1 := by
  unfold send
  rw [zup_at, zup_row _ _ (by decide), sdn_0]
theorem send_sg {S : zT} (h : zSg S) {r : Nat} (h5 : r < 5) (h7 : S 0 7 < 9999) : zSg (send S r) := ⟨send_sr h.1 h5, by rw [send_07]; have := h.2.1; omega, by rw [send_06 S r 8 (by decide)]; exact h.2.2⟩
theorem sdoB_07 (S : zT) : S 0 7 ≤ sdoB S 0 7 ∧ sdoB S 0 7 ≤ S 0 7 + 1 := by
  unfold sdoB
  split
  · split
    · rw [send_07]; omega
    · rw [zup_row _ _ (by decide)]; omega
  · omega
theorem sdo_07 (S : zT) : S 0 7 ≤ sdo S 0 7 ∧ sdo S 0 7 ≤ S 0 7 + 1 := by
  have h := sdoB_07 (sdoA S)
  have e : sdoA S 0 7 = S 0 7 := zup_ne _ _ (by omega)
  unfold sdo sdoC
  rw [zup_row _ _ (by decide)]
  omega
theorem sdo_08 (S : zT) : 0 ≤ sdo S 0 8 ∧ sdo S 0 8 ≤ 2147483647 := by
  have h := sdoA_8 S
  unfold sdo sdoC
  rw [zup_row _ _ (by decide), sdoB_8]
  exact h
theorem sdo_sg {S : zT} (h : zSg S) (h7 : S 0 7 < 9999) : zSg (sdo S) := ⟨sdo_sr h.1, by have := sdo_07 S; have := h.2.1; omega, sdo_08 S⟩
def oRide (A : zA) (r : Int) : Int × zA := if 0 ≤ r ∧ r ≤ A.1 0 6 - 1 then (if 9999 ≤ A.1 0 7 then (-3, A) else if A.1 6 r.toNat = 30 then (sfe A.1 r.toNat, (send A.1 r.toNat, (oPush A).2)) else (-2, A)) else (-1, A)
def oWax (A : zA) (i : Nat) (t v : Int) : Int × zA := if (0 ≤ t ∧ t ≤ 9) ∧ (0 ≤ v ∧ v ≤ 9) then (if A.1 i t.toNat = v then (-2, A) else (A.1 i t.toNat, (zup A.1 i t.toNat v, (oPush A).2))) else (-1, A)
def oUp (A : zA) (r : Int) : Int × zA := if 0 ≤ r ∧ r ≤ A.1 0 6 - 1 then (if A.1 6 r.toNat = 30 then (-2, A) else (A.1 6 r.toNat, (zup A.1 6 r.toNat 30, (oPush A).2))) else (-1, A)
def odri : Nat → zA → zA
  | 0, A => A
  | m + 1, A => odri m (sdo A.1, (oPush A).2)
def oDrift (A : zA) (n : Int) : Int × zA := if 1 ≤ n ∧ n ≤ 40 then (if 9999 < A.1 0 7 + n then (-3, A) else (sthr (odri n.toNat A).1, odri n.toNat A)) else (-1, A)
def oUndo (A : zA) : Int × zA := match A.2.1.getLast? with
  | none => (-4, A)
  | some s => ((A.2.1.length : Int) - 1, (sgb s A.1, (A.2.1.dropLast, A.2.2)))
section TOPF
variable {X : zXs} {sh : zH} {I L : zI2} {R : zR2} {P : Nat → Nat} {A : zA}
theorem cti_sendDown {r sp b : Nat} (hs : zSl sh R b) (hr : zSr (zvw I b)) (h5 : r < 5) (hsp : sp < b ∨ b + 7 ≤ sp) (hsh : sh[sp]? = some (20, 10)) : ∃ W' : Nat → Int, zE X mX4_sendDown 0 0 0 [zR b, zI (r : Int), zR sp, zX, zX, zX] [] sh I L R (zEq [zI (sfe (zvw I b) r)] sh (zsl (zrow I sp W') b (send (zvw I b) r)) L R) := by
  have h := ct_X4_sendDown (X := X) (I := I) (L := L) hs hr h5 hsp hsh
  rw [zsl_self] at h
  exact ⟨_, h⟩
theorem cti_driftOnce {sp b : Nat} (hs : zSl sh R b) (hr : zSr (zvw I b)) (hsp : sp < b ∨ b + 7 ≤ sp) (hsh : sh[sp]? = some (20, 10)) : ∃ W' : Nat → Int, zE X mX4_driftOnce 0 0 0 [zR b, zR sp, zX] [] sh I L R (zEq [] sh (zsl (zrow I sp W') b (sdo (zvw I b))) L R) := by
  have h := ct_X4_driftOnce (X := X) (I := I) (L := L) (w := I sp) hs hr hsp hsh
  rw [zrow_self, zsl_self] at h
  exact ⟨_, h⟩
theorem cNow_sl {J : zI2} {T T' : zT} (hg : zSg T) (hq : zQe T T') : cNow (zsl J 1 T) T' := ⟨zSg_w (fun q hq => (zvw_sl _ _ _ hq).symm) hg, zQe_w (fun q hq => (zvw_sl _ _ _ hq).symm) hq⟩
theorem op_X6_ride {r : Int} (h : zCA sh R P I L A) (hr : -2147483648 ≤ r ∧ r ≤ 2147483647) : zE X mX6_ride 0 0 0 [zR 0, zI r] [] sh I L R (zOp sh I L R (zI (oRide A r).1) (oRide A r).2) := by
  obtain ⟨hC, hNow, hTri, hHis, hKep, hTap, hShe, hOrd⟩ := id h
  obtain ⟨⟨c0, c1, c2, c3, c4, c5, c6, c7, c8, c9, c10, c11⟩, ⟨n1, n8, n73⟩, ⟨hh, hpm⟩, kh, tp, ⟨shs, shk⟩, spd, o1, o2, ra⟩ := id hC
  obtain ⟨⟨s0, s1, s2, s3, s4, s5, s6⟩, r0, r1, r2, r3, r4, r5⟩ := id n1
  have n80 := n8.1.1
  have hh0 := hh.1.1
  have e6 := hNow.2.1.1
  have hn5 := hNow.1.1.1
  have z1 := zwi_r r 0 (zvw I 1 0 6 - 1)
  have e17 : I 1 7 = A.1 0 7 := by have := hNow.2.1.2.1; rw [zvw_0] at this; exact this
  have h7 := hNow.1.2.1
  rw [zvw_0, e17] at h7
  by_cases hc : 0 ≤ r ∧ r ≤ A.1 0 6 - 1
  · obtain ⟨q, rfl⟩ : ∃ q : Nat, r = (q : Int) := ⟨r.toNat, by omega⟩
    have hq6 : I (1 + 6) q = A.1 6 q := by rw [zvx I 1 (by decide)]; exact (hNow.2.2.2 q (by omega)).2.2.2
    have hp6 := hNow.1.1.2.2.2.2.2.2 q (by omega)
    rw [(hNow.2.2.2 q (by omega)).2.2.2] at hp6
    have z3 : zwi (q : Int) 0 (zvw I 1 0 6 - 1) = 1 := zwi_1 (by omega)
    refine z_aload0 1 dX6_ride_0 rfl ?_
    refine z_getR 4 dX6_ride_1 fl_RX6_10 (by assumption) (by assumption) rfl ?_
    refine z_iload1 5 dX6_ride_4 rfl ?_
    refine z_xV1 8 dX6_ride_5 lk_X6_ride_82 (cti_hasRider n1 hNow.1.1 hr) rfl (Nat.le_of_ble_eq_true rfl) (Nat.le_of_ble_eq_true rfl) (by assumption) rfl rfl ?_
    refine z_if_ne 13 11 dX6_ride_8 (by decide) rfl (by omega) (fun h8 => ?_) (fun hz => absurd hz (by omega))
    refine z_aload0 14 dX6_ride_13 rfl ?_
    refine z_getR 17 dX6_ride_14 fl_RX6_10 (by assumption) (by assumption) rfl ?_
    refine z_getIx 20 dX6_ride_17 fl_RX6_137 (by assumption) (e17) rfl ?_
    refine z_sipush 23 dX6_ride_20 (by decide) rfl ?_
    refine z_icmp_lt 29 26 dX6_ride_23 (by decide) rfl (by omega) (by omega) (fun h23 => ?_) (fun h23 => ?_)
    · refine z_aload0 30 dX6_ride_29 rfl ?_
      refine z_getR 33 dX6_ride_30 fl_RX6_10 (by assumption) (by assumption) rfl ?_
      refine z_getR 36 dX6_ride_33 fl_RX6_95 (by assumption) (by assumption) rfl ?_
      refine z_iload1 37 dX6_ride_36 rfl ?_
      refine z_ialdx 38 (q) dX6_ride_37 (by assumption) (by omega) (by omega) (hq6) rfl ?_
      refine z_bipush 40 dX6_ride_38 (by decide) rfl ?_
      refine z_icmp_eq 46 43 dX6_ride_40 (by decide) rfl (by omega) (by omega) (fun h40 => ?_) (fun h40 => ?_)
      · refine z_aload0 47 dX6_ride_46 rfl ?_
        refine z_getR 50 dX6_ride_47 fl_RX6_22 (by assumption) (by assumption) rfl ?_
        refine z_aload0 51 dX6_ride_50 rfl ?_
        refine z_getR 54 dX6_ride_51 fl_RX6_10 (by assumption) (by assumption) rfl ?_
        refine z_pV1 57 dX6_ride_54 lk_X6_ride_157 (ct_rem h) rfl (Nat.le_of_ble_eq_true rfl) (Nat.le_of_ble_eq_true rfl) (by assumption) rfl rfl (fun r0 sh0 I0 L0 R0 hpq => ?_)
        obtain ⟨q1, q2, q3, ⟨P2, h2⟩, q4, q5⟩ := hpq
        subst r0 sh0 L0
        have eR : R0 0 = R 0 := q5 0 (by decide)
        refine z_aload0 58 dX6_ride_57 rfl ?_
        refine z_getR 61 dX6_ride_58 fl_RX6_10 (by assumption) (by rw [eR]; assumption) rfl ?_
        refine z_iload1 62 dX6_ride_61 rfl ?_
        refine z_aload0 63 dX6_ride_62 rfl ?_
        refine z_getR 66 dX6_ride_63 fl_RX6_49 (by assumption) (by rw [eR]; assumption) rfl ?_
        obtain ⟨hC2, hNow2, -⟩ := id h2
        have p6 : (oPush A).1 0 6 = A.1 0 6 := rfl
        have p7 : (oPush A).1 0 7 = A.1 0 7 := rfl
        have p8 := hNow2.2.1.1
        have p9 := hNow2.2.1.2.1
        obtain ⟨W2, hsd⟩ := cti_sendDown (X := X) (I := I0) (L := L) (r := q) hC2.2.1.1 hNow2.1.1 (by omega) (Or.inr (by decide : 1 + 7 ≤ 141)) spd
        have hse : zSg (send (zvw I0 1) q) := send_sg hNow2.1 (by omega) (by omega)
        refine z_xV2 69 dX6_ride_66 lk_X6_ride_160 (hsd) rfl (Nat.le_of_ble_eq_true rfl) (Nat.le_of_ble_eq_true rfl) (by assumption) rfl rfl ?_
        exact z_ireturn dX6_ride_69 rfl ((by
            rw [show oRide A q = (sfe A.1 q, (send A.1 q, (oPush A).2)) by unfold oRide; rw [if_pos (by omega), if_neg (by omega), Int.toNat_natCast, if_pos (by omega)]]
            refine zOp_of (zCA_now h2 (fun a h1 h2 => by rw [zsl_oR _ _ _ (by omega), zrow_oR _ _ h2]) (cNow_sl hse (send_c hNow2.2 (by omega)))) (fun a ha => by rw [zsl_oR _ _ _ (by omega), zrow_oR _ _ (by omega), q4 a (by omega)]) (fun a ha => q5 a (by omega)) (by rw [sfe_c hNow2.2 (by omega)]; rfl)))
      · refine z_bipush 45 dX6_ride_43 (by decide) rfl ?_
        exact z_ireturn dX6_ride_45 rfl ((by rw [show oRide A q = (-2, A) by unfold oRide; rw [if_pos (by omega), if_neg (by omega), if_neg (by rw [Int.toNat_natCast]; omega)]]; exact zOp_same h rfl))
    · refine z_bipush 28 dX6_ride_26 (by decide) rfl ?_
      exact z_ireturn dX6_ride_28 rfl ((by rw [show oRide A q = (-3, A) by unfold oRide; rw [if_pos (by omega), if_pos (by omega)]]; exact zOp_same h rfl))
  · have z3 : zwi r 0 (zvw I 1 0 6 - 1) = 0 := zwi_0 (by omega)
    refine z_aload0 1 dX6_ride_0 rfl ?_
    refine z_getR 4 dX6_ride_1 fl_RX6_10 (by assumption) (by assumption) rfl ?_
    refine z_iload1 5 dX6_ride_4 rfl ?_
    refine z_xV1 8 dX6_ride_5 lk_X6_ride_82 (cti_hasRider n1 hNow.1.1 hr) rfl (Nat.le_of_ble_eq_true rfl) (Nat.le_of_ble_eq_true rfl) (by assumption) rfl rfl ?_
    refine z_if_ne 13 11 dX6_ride_8 (by decide) rfl (by omega) (fun hz => absurd hz (by omega)) (fun h8 => ?_)
    refine z_iconst 12 dX6_ride_11 rfl ?_
    exact z_ireturn dX6_ride_12 rfl ((by rw [show oRide A r = (-1, A) by unfold oRide; rw [if_neg (by omega)]]; exact zOp_same h rfl))
theorem op_X6_wax {t v : Int} (h : zCA sh R P I L A) (ht : -2147483648 ≤ t ∧ t ≤ 2147483647) (hv : -2147483648 ≤ v ∧ v ≤ 2147483647) : zE X mX6_wax 0 0 0 [zR 0, zI t, zI v, zX] [] sh I L R (zOp sh I L R (zI (oWax A 1 t v).1) (oWax A 1 t v).2) := by
  obtain ⟨hC, hNow, hTri, hHis, hKep, hTap, hShe, hOrd⟩ := id h
  obtain ⟨⟨c0, c1, c2, c3, c4, c5, c6, c7, c8, c9, c10, c11⟩, ⟨n1, n8, n73⟩, ⟨hh, hpm⟩, kh, tp, ⟨shs, shk⟩, spd, o1, o2, ra⟩ := id hC
  obtain ⟨⟨s0, s1, s2, s3, s4, s5, s6⟩, r0, r1, r2, r3, r4, r5⟩ := id n1
  have n80 := n8.1.1
  have hh0 := hh.1.1
  have e6 := hNow.2.1.1
  have hn5 := hNow.1.1.1
  have z1 := zwi_r t 0 9
  have z2 := zwi_r v 0 9
  refine z_iload1 1 dX6_wax_0 rfl ?_
  refine z_xS1 4 dX6_wax_1 lk_X6_wax_98 (ct_X6_isTurn (by omega)) rfl (Nat.le_of_ble_eq_true rfl) (Nat.le_of_ble_eq_true rfl) rfl ?_
  refine z_if_eq 17 7 dX6_wax_4 (by decide) rfl (by omega) (fun h4 => ?_) (fun h4 => ?_)
  · have g1 := zwi_eq0 h4
    refine z_iconst 18 dX6_wax_17 rfl ?_
    exact z_ireturn dX6_wax_18 rfl ((by rw [show oWax A 1 t v = (-1, A) by unfold oWax; rw [if_neg (by omega)]]; exact zOp_same h rfl))
  · have g1 := zwi_ne0 h4
    refine z_iload2 8 dX6_wax_7 rfl ?_
    refine z_iconst 9 dX6_wax_8 rfl ?_
    refine z_bipush 11 dX6_wax_9 (by decide) rfl ?_
    refine z_xS3 14 dX6_wax_11 lk_X6_wax_71 (ct_X6_within (by omega) (by omega) (by omega)) rfl (Nat.le_of_ble_eq_true rfl) (Nat.le_of_ble_eq_true rfl) rfl ?_
    refine z_if_ne 19 17 dX6_wax_14 (by decide) rfl (by omega) (fun h14 => ?_) (fun h14 => ?_)
    · have g2 := zwi_ne0 h14
      obtain ⟨q, rfl⟩ : ∃ q : Nat, t = (q : Int) := ⟨t.toNat, by omega⟩
      have hq6 : I (1 + 1) q = A.1 1 q := by rw [zvx I 1 (by decide)]; exact (hNow.2.2.1 q (by omega)).1
      have hp6 := hNow.1.1.2.1 q (by omega)
      rw [(hNow.2.2.1 q (by omega)).1] at hp6
      have eo : oWax A 1 q v = (if A.1 1 q = v then (-2, A) else (A.1 1 q, (zup A.1 1 q v, (oPush A).2))) := by unfold oWax; rw [if_pos (by omega), Int.toNat_natCast]
      rw [eo]
      refine z_aload0 20 dX6_wax_19 rfl ?_
      refine z_getR 23 dX6_wax_20 fl_RX6_10 (by assumption) (by assumption) rfl ?_
      refine z_getR 26 dX6_wax_23 fl_RX6_101 (by assumption) (by assumption) rfl ?_
      refine z_iload1 27 dX6_wax_26 rfl ?_
      refine z_ialdx 28 (q) dX6_wax_27 (by assumption) (by omega) (by omega) (hq6) rfl ?_
      refine z_istore3 29 dX6_wax_28 (Nat.le_of_ble_eq_true rfl) rfl rfl ?_
      refine z_iload3 30 dX6_wax_29 rfl ?_
      refine z_iload2 31 dX6_wax_30 rfl ?_
      refine z_icmp_ne 37 34 dX6_wax_31 (by decide) rfl (by omega) (by omega) (fun h31 => ?_) (fun h31 => ?_)
      · refine z_aload0 38 dX6_wax_37 rfl ?_
        refine z_getR 41 dX6_wax_38 fl_RX6_22 (by assumption) (by assumption) rfl ?_
        refine z_aload0 42 dX6_wax_41 rfl ?_
        refine z_getR 45 dX6_wax_42 fl_RX6_10 (by assumption) (by assumption) rfl ?_
        refine z_pV1 48 dX6_wax_45 lk_X6_wax_157 (ct_rem h) rfl (Nat.le_of_ble_eq_true rfl) (Nat.le_of_ble_eq_true rfl) (by assumption) rfl rfl (fun r0 sh0 I0 L0 R0 hpq => ?_)
        obtain ⟨q1, q2, q3, ⟨P2, h2⟩, q4, q5⟩ := hpq
        subst r0 sh0 L0
        have eR : R0 0 = R 0 := q5 0 (by decide)
        have eR1 : R0 1 = R 1 := q5 1 (by decide)
        obtain ⟨hC2, hNow2, -⟩ := id h2
        refine z_aload0 49 dX6_wax_48 rfl ?_
        refine z_getR 52 dX6_wax_49 fl_RX6_10 (by assumption) (by rw [eR]; assumption) rfl ?_
        refine z_getR 55 dX6_wax_52 fl_RX6_101 (by assumption) (by rw [eR1]; assumption) rfl ?_
        refine z_iload1 56 dX6_wax_55 rfl ?_
        refine z_iload2 57 dX6_wax_56 rfl ?_
        refine z_iastN 58 (q) dX6_wax_57 (by assumption) (by omega) (by omega) rfl ?_
        refine z_iload3 59 dX6_wax_58 rfl ?_
        exact z_ireturn dX6_wax_59 rfl ((by
            rw [if_neg (by omega)]
            refine zOp_of (zCA_now h2 (fun a h1 h2 => zup_row _ _ (by omega)) ?_) (fun a ha => by rw [zup_row _ _ (by omega), q4 a (by omega)]) (fun a ha => q5 a (by omega)) rfl
            unfold cNow
            rw [zvw_upi _ _ (i := 1) (by decide)]
            exact ⟨⟨zSr_up1 hNow2.1.1 q (by omega), by rw [zup_ne _ _ (by omega)]; exact hNow2.1.2.1, by rw [zup_ne _ _ (by omega)]; exact hNow2.1.2.2⟩, zQe_up hNow2.2 (by omega) v⟩))
      · refine z_bipush 36 dX6_wax_34 (by decide) rfl ?_
        exact z_ireturn dX6_wax_36 rfl ((by rw [if_pos (by omega)]; exact zOp_same h rfl))
    · have g2 := zwi_eq0 h14
      refine z_iconst 18 dX6_wax_17 rfl ?_
      exact z_ireturn dX6_wax_18 rfl ((by rw [show oWax A 1 t v = (-1, A) by unfold oWax; rw [if_neg (by omega)]]; exact zOp_same h rfl))
theorem op_X6_hammer {t v : Int} (h : zCA sh R P I L A) (ht : -2147483648 ≤ t ∧ t ≤ 2147483647) (hv : -2147483648 ≤ v ∧ v ≤ 2147483647) : zE X mX6_hammer 0 0 0 [zR 0, zI t, zI v, zX] [] sh I L R (zOp sh I L R (zI (oWax A 2 t v).1) (oWax A 2 t v).2) := by
  obtain ⟨hC, hNow, hTri, hHis, hKep, hTap, hShe, hOrd⟩ := id h
  obtain ⟨⟨c0, c1, c2, c3, c4, c5, c6, c7, c8, c9, c10, c11⟩, ⟨n1, n8, n73⟩, ⟨hh, hpm⟩, kh, tp, ⟨shs, shk⟩, spd, o1, o2, ra⟩ := id hC
  obtain ⟨⟨s0, s1, s2, s3, s4, s5, s6⟩, r0, r1, r2, r3, r4, r5⟩ := id n1
  have n80 := n8.1.1
  have hh0 := hh.1.1
  have e6 := hNow.2.1.1
  have hn5 := hNow.1.1.1
  have z1 := zwi_r t 0 9
  have z2 := zwi_r v 0 9
  refine z_iload1 1 dX6_hammer_0 rfl ?_
  refine z_xS1 4 dX6_hammer_1 lk_X6_hammer_98 (ct_X6_isTurn (by omega)) rfl (Nat.le_of_ble_eq_true rfl) (Nat.le_of_ble_eq_true rfl) rfl ?_
  refine z_if_eq 17 7 dX6_hammer_4 (by decide) rfl (by omega) (fun h4 => ?_) (fun h4 => ?_)
  · have g1 := zwi_eq0 h4
    refine z_iconst 18 dX6_hammer_17 rfl ?_
    exact z_ireturn dX6_hammer_18 rfl ((by rw [show oWax A 2 t v = (-1, A) by unfold oWax; rw [if_neg (by omega)]]; exact zOp_same h rfl))
  · have g1 := zwi_ne0 h4
    refine z_iload2 8 dX6_hammer_7 rfl ?_
    refine z_iconst 9 dX6_hammer_8 rfl ?_
    refine z_bipush 11 dX6_hammer_9 (by decide) rfl ?_
    refine z_xS3 14 dX6_hammer_11 lk_X6_hammer_71 (ct_X6_within (by omega) (by omega) (by omega)) rfl (Nat.le_of_ble_eq_true rfl) (Nat.le_of_ble_eq_true rfl) rfl ?_
    refine z_if_ne 19 17 dX6_hammer_14 (by decide) rfl (by omega) (fun h14 => ?_) (fun h14 => ?_)
    · have g2 := zwi_ne0 h14
      obtain ⟨q, rfl⟩ : ∃ q : Nat, t = (q : Int) := ⟨t.toNat, by omega⟩
      have hq6 : I (1 + 2) q = A.1 2 q := by rw [zvx I 1 (by decide)]; exact (hNow.2.2.1 q (by omega)).2
      have hp6 := hNow.1.1.2.2.1 q (by omega)
      rw [(hNow.2.2.1 q (by omega)).2] at hp6
      have eo : oWax A 2 q v = (if A.1 2 q = v then (-2, A) else (A.1 2 q, (zup A.1 2 q v, (oPush A).2))) := by unfold oWax; rw [if_pos (by omega), Int.toNat_natCast]
      rw [eo]
      refine z_aload0 20 dX6_hammer_19 rfl ?_
      refine z_getR 23 dX6_hammer_20 fl_RX6_10 (by assumption) (by assumption) rfl ?_
      refine z_getR 26 dX6_hammer_23 fl_RX6_104 (by assumption) (by assumption) rfl ?_
      refine z_iload1 27 dX6_hammer_26 rfl ?_
      refine z_ialdx 28 (q) dX6_hammer_27 (by assumption) (by omega) (by omega) (hq6) rfl ?_
      refine z_istore3 29 dX6_hammer_28 (Nat.le_of_ble_eq_true rfl) rfl rfl ?_
      refine z_iload3 30 dX6_hammer_29 rfl ?_
      refine z_iload2 31 dX6_hammer_30 rfl ?_
      refine z_icmp_ne 37 34 dX6_hammer_31 (by decide) rfl (by omega) (by omega) (fun h31 => ?_) (fun h31 => ?_)
      · refine z_aload0 38 dX6_hammer_37 rfl ?_
        refine z_getR 41 dX6_hammer_38 fl_RX6_22 (by assumption) (by assumption) rfl ?_
        refine z_aload0 42 dX6_hammer_41 rfl ?_
        refine z_getR 45 dX6_hammer_42 fl_RX6_10 (by assumption) (by assumption) rfl ?_
        refine z_pV1 48 dX6_hammer_45 lk_X6_hammer_157 (ct_rem h) rfl (Nat.le_of_ble_eq_true rfl) (Nat.le_of_ble_eq_true rfl) (by assumption) rfl rfl (fun r0 sh0 I0 L0 R0 hpq => ?_)
        obtain ⟨q1, q2, q3, ⟨P2, h2⟩, q4, q5⟩ := hpq
        subst r0 sh0 L0
        have eR : R0 0 = R 0 := q5 0 (by decide)
        have eR1 : R0 1 = R 1 := q5 1 (by decide)
        obtain ⟨hC2, hNow2, -⟩ := id h2
        refine z_aload0 49 dX6_hammer_48 rfl ?_
        refine z_getR 52 dX6_hammer_49 fl_RX6_10 (by assumption) (by rw [eR]; assumption) rfl ?_
        refine z_getR 55 dX6_hammer_52 fl_RX6_104 (by assumption) (by rw [eR1]; assumption) rfl ?_
        refine z_iload1 56 dX6_hammer_55 rfl ?_
        refine z_iload2 57 dX6_hammer_56 rfl ?_
        refine z_iastN 58 (q) dX6_hammer_57 (by assumption) (by omega) (by omega) rfl ?_
        refine z_iload3 59 dX6_hammer_58 rfl ?_
        exact z_ireturn dX6_hammer_59 rfl ((by
            rw [if_neg (by omega)]
            refine zOp_of (zCA_now h2 (fun a h1 h2 => zup_row _ _ (by omega)) ?_) (fun a ha => by rw [zup_row _ _ (by omega), q4 a (by omega)]) (fun a ha => q5 a (by omega)) rfl
            unfold cNow
            rw [zvw_upi _ _ (i := 2) (by decide)]
            exact ⟨⟨zSr_up2 hNow2.1.1 q (by omega), by rw [zup_ne _ _ (by omega)]; exact hNow2.1.2.1, by rw [zup_ne _ _ (by omega)]; exact hNow2.1.2.2⟩, zQe_up hNow2.2 (by omega) v⟩))
      · refine z_bipush 36 dX6_hammer_34 (by decide) rfl ?_
        exact z_ireturn dX6_hammer_36 rfl ((by rw [if_pos (by omega)]; exact zOp_same h rfl))
    · have g2 := zwi_eq0 h14
      refine z_iconst 18 dX6_hammer_17 rfl ?_
      exact z_ireturn dX6_hammer_18 rfl ((by rw [show oWax A 2 t v = (-1, A) by unfold oWax; rw [if_neg (by omega)]]; exact zOp_same h rfl))
theorem op_X6_up {r : Int} (h : zCA sh R P I L A) (hr : -2147483648 ≤ r ∧ r ≤ 2147483647) : zE X mX6_up 0 0 0 [zR 0, zI r, zX] [] sh I L R (zOp sh I L R (zI (oUp A r).1) (oUp A r).2) := by
  obtain ⟨hC, hNow, hTri, hHis, hKep, hTap, hShe, hOrd⟩ := id h
  obtain ⟨⟨c0, c1, c2, c3, c4, c5, c6, c7, c8, c9, c10, c11⟩, ⟨n1, n8, n73⟩, ⟨hh, hpm⟩, kh, tp, ⟨shs, shk⟩, spd, o1, o2, ra⟩ := id hC
  obtain ⟨⟨s0, s1, s2, s3, s4, s5, s6⟩, r0, r1, r2, r3, r4, r5⟩ := id n1
  have n80 := n8.1.1
  have hh0 := hh.1.1
  have e6 := hNow.2.1.1
  have hn5 := hNow.1.1.1
  have z1 := zwi_r r 0 (zvw I 1 0 6 - 1)
  refine z_aload0 1 dX6_up_0 rfl ?_
  refine z_getR 4 dX6_up_1 fl_RX6_10 (by assumption) (by assumption) rfl ?_
  refine z_iload1 5 dX6_up_4 rfl ?_
  refine z_xV1 8 dX6_up_5 lk_X6_up_82 (cti_hasRider n1 hNow.1.1 hr) rfl (Nat.le_of_ble_eq_true rfl) (Nat.le_of_ble_eq_true rfl) (by assumption) rfl rfl ?_
  refine z_if_ne 13 11 dX6_up_8 (by decide) rfl (by omega) (fun h8 => ?_) (fun h8 => ?_)
  · have g8 := zwi_ne0 h8
    obtain ⟨q, rfl⟩ : ∃ q : Nat, r = (q : Int) := ⟨r.toNat, by omega⟩
    have hq6 : I (1 + 6) q = A.1 6 q := by rw [zvx I 1 (by decide)]; exact (hNow.2.2.2 q (by omega)).2.2.2
    have hp6 := hNow.1.1.2.2.2.2.2.2 q (by omega)
    rw [(hNow.2.2.2 q (by omega)).2.2.2] at hp6
    have eo : oUp A q = (if A.1 6 q = 30 then (-2, A) else (A.1 6 q, (zup A.1 6 q 30, (oPush A).2))) := by unfold oUp; rw [if_pos (by omega), Int.toNat_natCast]
    rw [eo]
    refine z_aload0 14 dX6_up_13 rfl ?_
    refine z_getR 17 dX6_up_14 fl_RX6_10 (by assumption) (by assumption) rfl ?_
    refine z_getR 20 dX6_up_17 fl_RX6_95 (by assumption) (by assumption) rfl ?_
    refine z_iload1 21 dX6_up_20 rfl ?_
    refine z_ialdx 22 (q) dX6_up_21 (by assumption) (by omega) (by omega) (hq6) rfl ?_
    refine z_istore2 23 dX6_up_22 (Nat.le_of_ble_eq_true rfl) rfl rfl ?_
    refine z_iload2 24 dX6_up_23 rfl ?_
    refine z_bipush 26 dX6_up_24 (by decide) rfl ?_
    refine z_icmp_ne 32 29 dX6_up_26 (by decide) rfl (by omega) (by omega) (fun h26 => ?_) (fun h26 => ?_)
    · refine z_aload0 33 dX6_up_32 rfl ?_
      refine z_getR 36 dX6_up_33 fl_RX6_22 (by assumption) (by assumption) rfl ?_
      refine z_aload0 37 dX6_up_36 rfl ?_
      refine z_getR 40 dX6_up_37 fl_RX6_10 (by assumption) (by assumption) rfl ?_
      refine z_pV1 43 dX6_up_40 lk_X6_up_157 (ct_rem h) rfl (Nat.le_of_ble_eq_true rfl) (Nat.le_of_ble_eq_true rfl) (by assumption) rfl rfl (fun r0 sh0 I0 L0 R0 hpq => ?_)
      obtain ⟨q1, q2, q3, ⟨P2, h2⟩, q4, q5⟩ := hpq
      subst r0 sh0 L0
      have eR : R0 0 = R 0 := q5 0 (by decide)
      have eR1 : R0 1 = R 1 := q5 1 (by decide)
      obtain ⟨hC2, hNow2, -⟩ := id h2
      refine z_aload0 44 dX6_up_43 rfl ?_
      refine z_getR 47 dX6_up_44 fl_RX6_10 (by assumption) (by rw [eR]; assumption) rfl ?_
      refine z_getR 50 dX6_up_47 fl_RX6_95 (by assumption) (by rw [eR1]; assumption) rfl ?_
      refine z_iload1 51 dX6_up_50 rfl ?_
      refine z_bipush 53 dX6_up_51 (by decide) rfl ?_
      refine z_iastN 54 (q) dX6_up_53 (by assumption) (by omega) (by omega) rfl ?_
      refine z_iload2 55 dX6_up_54 rfl ?_
      exact z_ireturn dX6_up_55 rfl ((by
          rw [if_neg (by omega)]
          refine zOp_of (zCA_now h2 (fun a h1 h2 => zup_row _ _ (by omega)) ?_) (fun a ha => by rw [zup_row _ _ (by omega), q4 a (by omega)]) (fun a ha => q5 a (by omega)) rfl
          unfold cNow
          rw [zvw_upi _ _ (i := 6) (by decide)]
          exact ⟨⟨zSr_up6 hNow2.1.1 q (by omega), by rw [zup_ne _ _ (by omega)]; exact hNow2.1.2.1, by rw [zup_ne _ _ (by omega)]; exact hNow2.1.2.2⟩, zQe_up hNow2.2 (by omega) 30⟩))
    · refine z_bipush 31 dX6_up_29 (by decide) rfl ?_
      exact z_ireturn dX6_up_31 rfl ((by rw [if_pos (by omega)]; exact zOp_same h rfl))
  · have g8 := zwi_eq0 h8
    refine z_iconst 12 dX6_up_11 rfl ?_
    exact z_ireturn dX6_up_12 rfl ((by rw [show oUp A r = (-1, A) by unfold oUp; rw [if_neg (by omega)]]; exact zOp_same h rfl))
end TOPF
