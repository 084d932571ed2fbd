section MODG
variable {X : zXs} {sh : zH} {I J L : zI2} {R : zR2} {N : Nat → Int} {S : zT} {A : zA}
theorem zsend_q {S S' : zT} {r : Nat} (hS : zSr S) (hq : zQe S S') (hr : (r : Int) < S 0 6) : zQe (send S r) (send S' r) := send_c hq hr
theorem op_X7_ride {r : Int} (h : mCA sh R I L A) (hu : zuq A.1) (hr : -2147483648 ≤ r ∧ r ≤ 2147483647) : zE X mX7_ride 0 0 0 [zR 157, zI r] [] sh I L R (mOp sh I L R (zI (oRide A r).1) (oRide A r).2) := by
  obtain ⟨hM, hN, hHis, hKep, hTap, hShe⟩ := id h
  obtain ⟨⟨s0, s1, s2, s3, s4, s5, s6, s7, s8, s9, s10, s11, s12, s13, s14, s15⟩, r0, r1, r2, r3, r4, r5, r6, r7, r8, r9, r10, r11, r12, r13, r14⟩ := id hM
  obtain ⟨⟨hSr, hS7, hS8⟩, hQ⟩ := id hN
  have e6 := hQ.1.1
  have hn5 := hSr.1
  have z1 := zwi_r r 0 (nvw (I 158) 0 6 - 1)
  have e7 := hQ.1.2.1
  refine z_mN ?_
  refine z_aload0 1 dX7_ride_0 rfl ?_
  refine z_iload1 2 dX7_ride_1 rfl ?_
  refine z_xV1 5 dX7_ride_2 lk_X7_ride_94 (ct_X7_isRider hM hn5 hr) rfl (Nat.le_of_ble_eq_true rfl) (Nat.le_of_ble_eq_true rfl) (by assumption) rfl rfl ?_
  refine z_if_ne 10 8 dX7_ride_5 (by decide) rfl (by omega) (fun h5 => ?_) (fun h5 => ?_)
  · have g5 := zwi_ne0 h5
    obtain ⟨q, rfl⟩ : ∃ q : Nat, r = (q : Int) := ⟨r.toNat, by omega⟩
    have hq := hQ.2.2 q (by omega)
    have hp := hSr.2.2.2.2.2.2 q (by omega)
    refine z_aload0 11 dX7_ride_10 rfl ?_
    refine z_getR 14 dX7_ride_11 fl_RX7_7 (by assumption) (by assumption) rfl ?_
    refine z_iconst 15 dX7_ride_14 rfl ?_
    refine z_ialdx 16 (1) dX7_ride_15 (by assumption) (by omega) (by omega) (mN_1 _ _ _) rfl ?_
    refine z_sipush 19 dX7_ride_16 (by decide) rfl ?_
    refine z_icmp_lt 25 22 dX7_ride_19 (by decide) rfl (by omega) (by omega) (fun h19 => ?_) (fun h19 => ?_)
    · refine z_aload0 26 dX7_ride_25 rfl ?_
      refine z_iload1 27 dX7_ride_26 rfl ?_
      refine z_xV1 30 dX7_ride_27 lk_X7_ride_66 (ct_X7_where hM (by omega)) rfl (Nat.le_of_ble_eq_true rfl) (Nat.le_of_ble_eq_true rfl) (by assumption) rfl rfl ?_
      refine z_bipush 32 dX7_ride_30 (by decide) rfl ?_
      refine z_icmp_eq 38 35 dX7_ride_32 (by decide) rfl (by omega) (by omega) (fun h32 => ?_) (fun h32 => ?_)
      · rw [mN_self]
        refine z_aload0 39 dX7_ride_38 rfl ?_
        refine z_pV0 42 dX7_ride_39 lk_X7_ride_160 (ct_X7_notes h) rfl (Nat.le_of_ble_eq_true rfl) (Nat.le_of_ble_eq_true rfl) (by assumption) rfl rfl (fun r0 sh0 I0 L0 R0 hpq => ?_)
        obtain ⟨q1, q2, q3, q4, h2, q5⟩ := hpq
        subst r0 sh0 L0 R0
        obtain ⟨-, ⟨⟨hSr2, hS72, hS82⟩, hQ2⟩, -⟩ := id h2
        have e158 := q5 158 (by decide)
        rw [e158] at hSr2 hS72 hS82 hQ2
        have h30 : zup (nvw (I 158)) 6 q 30 = nvw (I 158) := by rw [show (30 : Int) = nvw (I 158) 6 q by omega]; exact zup_self _ _ _
        obtain ⟨B', hB, kr⟩ := cx_rides (X := X) (J := I0) (L := L) (R := R) (N := I 158) (S := nvw (I 158)) (r := q) hM (by omega) hSr (zuq_q hQ hu)
        rw [h30] at kr
        have eI0 : mN I0 (I 158) (nvw (I 158)) = I0 := by rw [← e158]; exact mN_self I0
        rw [← eI0]
        refine z_aload0 43 dX7_ride_42 rfl ?_
        refine z_iload1 44 dX7_ride_43 rfl ?_
        refine z_xV1 47 dX7_ride_44 lk_X7_ride_163 (kr) rfl (Nat.le_of_ble_eq_true rfl) (Nat.le_of_ble_eq_true rfl) (by assumption) rfl rfl ?_
        exact z_ireturn dX7_ride_47 rfl ((by
            rw [show oRide A q = (sfe A.1 q, (send A.1 q, (oPush A).2)) by unfold oRide; rw [if_pos (by omega), if_neg (by omega), Int.toNat_natCast, if_pos (by omega)]]
            refine mOp_tr (J := I0) (K := L) (fun a ha => ⟨q5 a (by omega), rfl⟩) (mOp_now (A := oPush A) h2 (fun a ha => zrow_oR _ _ (fun z => ha (Or.inr (Or.inl z)))) (send_sg ⟨hSr, hS7, hS8⟩ (by omega) (by omega)) (send_c hQ (by omega)) (by rw [sfe_c hQ (by omega)]))))
      · refine z_bipush 37 dX7_ride_35 (by decide) rfl ?_
        exact z_ireturn dX7_ride_37 rfl ((by rw [show oRide A q = (-2, A) by unfold oRide; rw [if_pos (by omega), if_neg (by omega), if_neg (by rw [Int.toNat_natCast]; omega)]]; exact mOp_sameN h rfl))
    · refine z_bipush 24 dX7_ride_22 (by decide) rfl ?_
      exact z_ireturn dX7_ride_24 rfl ((by rw [show oRide A q = (-3, A) by unfold oRide; rw [if_pos (by omega), if_pos (by omega)]]; exact mOp_sameN h rfl))
  · have g5 := zwi_eq0 h5
    refine z_iconst 9 dX7_ride_8 rfl ?_
    exact z_ireturn dX7_ride_9 rfl ((by rw [show oRide A r = (-1, A) by unfold oRide; rw [if_neg (by omega)]]; exact mOp_sameN h rfl))
theorem ct_X7_becomes {b i : Nat} {t v : Int} (h : mCA sh R I L A) (hb : (b = 3 ∧ i = 1) ∨ (b = 13 ∧ i = 2)) (ht : -2147483648 ≤ t ∧ t ≤ 2147483647) (hv : -2147483648 ≤ v ∧ v ≤ 2147483647) : zE X mX7_becomes 0 0 0 [zR 157, zI (b : Int), zI t, zI v, zX] [] sh I L R (mOp sh I L R (zI (oWax A i t v).1) (oWax A i t v).2) := by
  obtain ⟨hM, hN, hHis, hKep, hTap, hShe⟩ := id h
  obtain ⟨⟨s0, s1, s2, s3, s4, s5, s6, s7, s8, s9, s10, s11, s12, s13, s14, s15⟩, r0, r1, r2, r3, r4, r5, r6, r7, r8, r9, r10, r11, r12, r13, r14⟩ := id hM
  obtain ⟨⟨hSr, hS7, hS8⟩, hQ⟩ := id hN
  have e6 := hQ.1.1
  have hn5 := hSr.1
  have z1 := zwi_r t 0 9
  have z2 := zwi_r v 0 9
  refine z_mN ?_
  refine z_iload2 1 dX7_becomes_0 rfl ?_
  refine z_xS1 4 dX7_becomes_1 lk_X7_becomes_100 (ct_X7_isTurn ht) rfl (Nat.le_of_ble_eq_true rfl) (Nat.le_of_ble_eq_true rfl) rfl ?_
  refine z_if_eq 19 7 dX7_becomes_4 (by decide) rfl (by omega) (fun h4 => ?_) (fun h4 => ?_)
  · have g4 := zwi_eq0 h4
    refine z_iconst 20 dX7_becomes_19 rfl ?_
    exact z_ireturn dX7_becomes_20 rfl ((by rw [show oWax A i t v = (-1, A) by unfold oWax; rw [if_neg (by omega)]]; exact mOp_sameN h rfl))
  · have g4 := zwi_ne0 h4
    refine z_iload3 8 dX7_becomes_7 rfl ?_
    refine z_i2l 9 dX7_becomes_8 (by omega) rfl ?_
    refine z_lconst0 10 dX7_becomes_9 rfl ?_
    refine z_ldc2 13 dX7_becomes_10 kl_RX7_60 rfl ?_
    refine z_xS3 16 dX7_becomes_13 lk_X7_becomes_56 (ct_X7_in (by omega) (by omega) (by omega)) rfl (Nat.le_of_ble_eq_true rfl) (Nat.le_of_ble_eq_true rfl) rfl ?_
    refine z_if_ne 21 19 dX7_becomes_16 (by decide) rfl (by omega) (fun h16 => ?_) (fun h16 => ?_)
    · have g16 := zwi_ne0 h16
      obtain ⟨q, rfl⟩ : ∃ q : Nat, t = (q : Int) := ⟨t.toNat, by omega⟩
      have hq : nvw (I 158) i q = A.1 i q ∧ (0 ≤ nvw (I 158) i q ∧ nvw (I 158) i q ≤ 9) := by
        have h1 := hQ.2.1 q (by omega)
        rcases hb with ⟨-, rfl⟩ | ⟨-, rfl⟩
        · exact ⟨h1.1, hSr.2.1 q (by omega)⟩
        · exact ⟨h1.2, hSr.2.2.1 q (by omega)⟩
      have er : mN I (I 158) (nvw (I 158)) 158 (b + q) = A.1 i q := by
        rw [← hq.1]
        rcases hb with ⟨rfl, rfl⟩ | ⟨rfl, rfl⟩
        · exact mN_r _ _ _ (by omega)
        · exact mN_b _ _ _ (by omega)
      have hx : nix (b + q) i q := by
        rcases hb with ⟨rfl, rfl⟩ | ⟨rfl, rfl⟩
        · exact Or.inr (Or.inr (Or.inr (Or.inl ⟨rfl, rfl, by omega⟩)))
        · exact Or.inr (Or.inr (Or.inr (Or.inr (Or.inl ⟨rfl, rfl, by omega⟩))))
      have eo : oWax A i q v = (if A.1 i q = v then (-2, A) else (A.1 i q, (zup A.1 i q v, (oPush A).2))) := by unfold oWax; rw [if_pos (by omega), Int.toNat_natCast]
      rw [eo]
      refine z_aload0 22 dX7_becomes_21 rfl ?_
      refine z_getR 25 dX7_becomes_22 fl_RX7_7 (by assumption) (by assumption) rfl ?_
      refine z_iload1 26 dX7_becomes_25 rfl ?_
      refine z_iload2 27 dX7_becomes_26 rfl ?_
      refine z_iadd 28 dX7_becomes_27 rfl ?_
      refine z_ialdx 29 (b + q) dX7_becomes_28 (by assumption) (by omega) (by omega) (er) rfl ?_
      refine z_istore4 31 dX7_becomes_29 (Nat.le_of_ble_eq_true rfl) rfl rfl ?_
      refine z_iload4 33 dX7_becomes_31 rfl ?_
      refine z_iload3 34 dX7_becomes_33 rfl ?_
      refine z_icmp_ne 40 37 dX7_becomes_34 (by decide) rfl (by omega) (by omega) (fun h34 => ?_) (fun h34 => ?_)
      · rw [mN_self]
        refine z_aload0 41 dX7_becomes_40 rfl ?_
        refine z_pV0 44 dX7_becomes_41 lk_X7_becomes_160 (ct_X7_notes h) rfl (Nat.le_of_ble_eq_true rfl) (Nat.le_of_ble_eq_true rfl) (by assumption) rfl rfl (fun r0 sh0 I0 L0 R0 hpq => ?_)
        obtain ⟨q1, q2, q3, q4, h2, q5⟩ := hpq
        subst r0 sh0 L0 R0
        have e158 := q5 158 (by decide)
        have eI0 : mN I0 (I 158) (nvw (I 158)) = I0 := by rw [← e158]; exact mN_self I0
        rw [← eI0]
        refine z_aload0 45 dX7_becomes_44 rfl ?_
        refine z_getR 48 dX7_becomes_45 fl_RX7_7 (by assumption) (by assumption) rfl ?_
        refine z_iload1 49 dX7_becomes_48 rfl ?_
        refine z_iload2 50 dX7_becomes_49 rfl ?_
        refine z_iadd 51 dX7_becomes_50 rfl ?_
        refine z_iload3 52 dX7_becomes_51 rfl ?_
        refine z_iastx 53 (b + q) dX7_becomes_52 (by assumption) (by omega) (by omega) (mN_up _ _ _ (i := i) (j := q) hx _) rfl ?_
        refine z_iload4 55 dX7_becomes_53 rfl ?_
        exact z_ireturn dX7_becomes_55 rfl ((by
            rw [if_neg (by omega)]
            refine mOp_tr (J := I0) (K := L) (fun a ha => ⟨q5 a (by omega), rfl⟩) (mOp_now (A := oPush A) h2 (fun _ _ => rfl) ⟨?_, ?_, ?_⟩ (zQe_up hQ (by omega) v) rfl)
            · rcases hb with ⟨-, rfl⟩ | ⟨-, rfl⟩
              · exact zSr_up1 hSr q g16
              · exact zSr_up2 hSr q g16
            · rw [zup_row _ _ (by omega)]; exact hS7
            · rw [zup_row _ _ (by omega)]; exact hS8))
      · refine z_bipush 39 dX7_becomes_37 (by decide) rfl ?_
        exact z_ireturn dX7_becomes_39 rfl ((by rw [if_pos (by omega)]; exact mOp_sameN h rfl))
    · have g16 := zwi_eq0 h16
      refine z_iconst 20 dX7_becomes_19 rfl ?_
      exact z_ireturn dX7_becomes_20 rfl ((by rw [show oWax A i t v = (-1, A) by unfold oWax; rw [if_neg (by omega)]]; exact mOp_sameN h rfl))
theorem op_X7_wax {t v : Int} (h : mCA sh R I L A) (ht : -2147483648 ≤ t ∧ t ≤ 2147483647) (hv : -2147483648 ≤ v ∧ v ≤ 2147483647) : zE X mX7_wax 0 0 0 [zR 157, zI t, zI v] [] sh I L R (mOp sh I L R (zI (oWax A 1 t v).1) (oWax A 1 t v).2) := by
  have s0 := h.1.1.1
  refine z_aload0 1 dX7_wax_0 rfl ?_
  refine z_iconst 2 dX7_wax_1 rfl ?_
  refine z_iload1 3 dX7_wax_2 rfl ?_
  refine z_iload2 4 dX7_wax_3 rfl ?_
  refine z_pV3 7 dX7_wax_4 lk_X7_wax_166 (ct_X7_becomes (b := 3) (i := 1) h (Or.inl ⟨rfl, rfl⟩) ht hv) rfl (Nat.le_of_ble_eq_true rfl) (Nat.le_of_ble_eq_true rfl) (by assumption) rfl rfl (fun r0 sh0 I0 L0 R0 hpq => ?_)
  obtain ⟨q1, q2, q3⟩ := hpq
  subst r0 sh0
  exact z_ireturn dX7_wax_7 rfl (⟨rfl, rfl, q3⟩)
theorem op_X7_hammer {t v : Int} (h : mCA sh R I L A) (ht : -2147483648 ≤ t ∧ t ≤ 2147483647) (hv : -2147483648 ≤ v ∧ v ≤ 2147483647) : zE X mX7_hammer 0 0 0 [zR 157, zI t, zI v] [] sh I L R (mOp sh I L R (zI (oWax A 2 t v).1) (oWax A 2 t v).2) := by
  have s0 := h.1.1.1
  refine z_aload0 1 dX7_hammer_0 rfl ?_
  refine z_bipush 3 dX7_hammer_1 (by decide) rfl ?_
  refine z_iload1 4 dX7_hammer_3 rfl ?_
  refine z_iload2 5 dX7_hammer_4 rfl ?_
  refine z_pV3 8 dX7_hammer_5 lk_X7_hammer_166 (ct_X7_becomes (b := 13) (i := 2) h (Or.inr ⟨rfl, rfl⟩) ht hv) rfl (Nat.le_of_ble_eq_true rfl) (Nat.le_of_ble_eq_true rfl) (by assumption) rfl rfl (fun r0 sh0 I0 L0 R0 hpq => ?_)
  obtain ⟨q1, q2, q3⟩ := hpq
  subst r0 sh0
  exact z_ireturn dX7_hammer_8 rfl (⟨rfl, rfl, q3⟩)
theorem op_X7_up {r : Int} (h : mCA sh R I L A) (hr : -2147483648 ≤ r ∧ r ≤ 2147483647) : zE X mX7_up 0 0 0 [zR 157, zI r, zX] [] sh I L R (mOp sh I L R (zI (oUp A r).1) (oUp A r).2) := by
  obtain ⟨hM, hN, hHis, hKep, hTap, hShe⟩ := id h
  obtain ⟨⟨s0, s1, s2, s3, s4, s5, s6, s7, s8, s9, s10, s11, s12, s13, s14, s15⟩, r0, r1, r2, r3, r4, r5, r6, r7, r8, r9, r10, r11, r12, r13, r14⟩ := id hM
  obtain ⟨⟨hSr, hS7, hS8⟩, hQ⟩ := id hN
  have e6 := hQ.1.1
  have hn5 := hSr.1
  have z1 := zwi_r r 0 (nvw (I 158) 0 6 - 1)
  refine z_mN ?_
  refine z_aload0 1 dX7_up_0 rfl ?_
  refine z_iload1 2 dX7_up_1 rfl ?_
  refine z_xV1 5 dX7_up_2 lk_X7_up_94 (ct_X7_isRider hM hn5 hr) rfl (Nat.le_of_ble_eq_true rfl) (Nat.le_of_ble_eq_true rfl) (by assumption) rfl rfl ?_
  refine z_if_ne 10 8 dX7_up_5 (by decide) rfl (by omega) (fun h5 => ?_) (fun h5 => ?_)
  · have g5 := zwi_ne0 h5
    obtain ⟨q, rfl⟩ : ∃ q : Nat, r = (q : Int) := ⟨r.toNat, by omega⟩
    have hq := hQ.2.2 q (by omega)
    have hp := hSr.2.2.2.2.2.2 q (by omega)
    have eo : oUp A q = (if A.1 6 q = 30 then (-2, A) else (A.1 6 q, (zup A.1 6 q 30, (oPush A).2))) := by unfold oUp; rw [if_pos (by omega), Int.toNat_natCast]
    rw [eo]
    refine z_aload0 11 dX7_up_10 rfl ?_
    refine z_iload1 12 dX7_up_11 rfl ?_
    refine z_xV1 15 dX7_up_12 lk_X7_up_66 (ct_X7_where hM (by omega)) rfl (Nat.le_of_ble_eq_true rfl) (Nat.le_of_ble_eq_true rfl) (by assumption) rfl rfl ?_
    refine z_istore2 16 dX7_up_15 (Nat.le_of_ble_eq_true rfl) rfl rfl ?_
    refine z_iload2 17 dX7_up_16 rfl ?_
    refine z_bipush 19 dX7_up_17 (by decide) rfl ?_
    refine z_icmp_ne 25 22 dX7_up_19 (by decide) rfl (by omega) (by omega) (fun h19 => ?_) (fun h19 => ?_)
    · rw [mN_self]
      refine z_aload0 26 dX7_up_25 rfl ?_
      refine z_pV0 29 dX7_up_26 lk_X7_up_160 (ct_X7_notes h) rfl (Nat.le_of_ble_eq_true rfl) (Nat.le_of_ble_eq_true rfl) (by assumption) rfl rfl (fun r0 sh0 I0 L0 R0 hpq => ?_)
      obtain ⟨q1, q2, q3, q4, h2, q5⟩ := hpq
      subst r0 sh0 L0 R0
      have e158 := q5 158 (by decide)
      have eI0 : mN I0 (I 158) (nvw (I 158)) = I0 := by rw [← e158]; exact mN_self I0
      rw [← eI0]
      refine z_aload0 30 dX7_up_29 rfl ?_
      refine z_iload1 31 dX7_up_30 rfl ?_
      refine z_iconst 32 dX7_up_31 rfl ?_
      refine z_bipush 34 dX7_up_32 (by decide) rfl ?_
      refine z_xVv3 37 dX7_up_34 lk_X7_up_70 (ct_X7_tells (w := 3) (k := 6) hM (by omega) (by decide) rfl) rfl (Nat.le_of_ble_eq_true rfl) (Nat.le_of_ble_eq_true rfl) (by assumption) rfl rfl ?_
      refine z_iload2 38 dX7_up_37 rfl ?_
      exact z_ireturn dX7_up_38 rfl ((by
          rw [if_neg (by omega)]
          exact mOp_tr (J := I0) (K := L) (fun a ha => ⟨q5 a (by omega), rfl⟩) (mOp_now (A := oPush A) h2 (fun _ _ => rfl) ⟨zSr_up6 hSr q (by omega), by rw [zup_row _ _ (by omega)]; exact hS7, by rw [zup_row _ _ (by omega)]; exact hS8⟩ (zQe_up hQ (by omega) 30) (by rw [hq.2.2.2]))))
    · refine z_bipush 24 dX7_up_22 (by decide) rfl ?_
      exact z_ireturn dX7_up_24 rfl ((by rw [if_pos (by omega)]; exact mOp_sameN h rfl))
  · have g5 := zwi_eq0 h5
    refine z_iconst 9 dX7_up_8 rfl ?_
    exact z_ireturn dX7_up_9 rfl ((by rw [show oUp A r = (-1, A) by unfold oUp; rw [if_neg (by omega)]]; exact mOp_sameN h rfl))
end MODG
