/-! ===== the reference: drift, undo ===== -/
theorem zuq_sdo {S : zT} (hS : zSr S) (hu : zuq S) : zuq (sdo S) := by
  have hA : zuq (sdoA S) := by
    intro p q hp hq h1 h2 h3
    have e6 : sdoA S 6 = S 6 := zup_row _ _ (by decide)
    have e0 : sdoA S 0 6 = S 0 6 := zup_ne _ _ (by omega)
    rw [e6] at h1 h2 h3
    rw [e0] at hp hq
    exact hu p q hp hq h1 h2 h3
  have hB : zuq (sdoB (sdoA S)) := by
    unfold sdoB
    split
    · rename_i h0
      obtain ⟨q, hq, hq5⟩ := sdq (sdoA S) (sdoA_sr hS) (sdoA_8 S) h0
      have hx2 := Int.emod_lt_of_pos (sdoA S 0 8 / 65536) h0
      rw [hq] at hx2
      rw [hq, Int.toNat_natCast]
      split
      · rename_i h30
        exact zuq_send (sdoA_sr hS) hA hx2 h30
      · exact zuq_30 hA _ (by omega)
    · exact hA
  intro p q hp hq h1 h2 h3
  have e6 : sdo S 6 = sdoB (sdoA S) 6 := by unfold sdo sdoC; exact zup_row _ _ (by decide)
  have e0 : sdo S 0 = sdoB (sdoA S) 0 := by unfold sdo sdoC; exact zup_row _ _ (by decide)
  rw [e6] at h1 h2 h3
  rw [e0] at hp hq
  exact hB p q hp hq h1 h2 h3
theorem zl2i_id {x : Int} (h : -2147483648 ≤ x ∧ x ≤ 2147483647) : zl2i x = x := by
  unfold zl2i
  rw [Int64.toInt_toInt32, zn_TL (by omega)]
  exact Int.bmod_eq_of_le (by omega) (by omega)
section MODH
variable {X : zXs} {sh : zH} {L : zI2} {R : zR2}
/-- the turn of a drift: it is one rougher -/
theorem tl_X7_drift {n : Int} {i : Nat} {z3 : zV} {J : zI2} {N : Nat → Int} {S : zT} {Q : zQ} (hM : zMs sh R) (hi : i ≤ 1000) (hS : zSr S) (hd : 0 ≤ S 0 8 ∧ S 0 8 ≤ 2147483647) (k : ∀ z3, zE X mX7_drift 0 0 33 [zR 157, zI n, zI ((i + 1 : Nat) : Int), z3] [] sh (mN J N (sdoC S)) L R Q) : zE X mX7_drift 0 0 121 [zR 157, zI n, zI (i : Int), z3] [] sh (mN J N S) L R Q := by
  obtain ⟨⟨s0, s1, s2, s3, s4, s5, s6, s7, s8, s9, s10, s11, s12, s13, s14, s15⟩, r0, r1, r2, r3, r4, r5, r6, r7, r8, r9, r10, r11, r12, r13, r14⟩ := id hM
  obtain ⟨t, ht⟩ : ∃ t : Nat, S 0 8 / 128 % 10 = (t : Int) := ⟨(S 0 8 / 128 % 10).toNat, by omega⟩
  have ht10 : t < 10 := by omega
  have hg := hS.2.1 t ht10
  have ec : sdoC S = zup S 1 t (if S 1 t + 1 < 9 then S 1 t + 1 else 9) := by unfold sdoC; rw [ht, Int.toNat_natCast]
  rw [ec] at k
  have hx : nix (3 + t) 1 t := Or.inr (Or.inr (Or.inr (Or.inl ⟨rfl, rfl, ht10⟩)))
  refine z_iconst 122 dX7_drift_121 rfl ?_
  refine z_aload0 123 dX7_drift_122 rfl ?_
  refine z_getR 126 dX7_drift_123 fl_RX7_7 (by assumption) (by assumption) rfl ?_
  refine z_iconst 127 dX7_drift_126 rfl ?_
  refine z_ialdx 128 (2) dX7_drift_127 (by assumption) (by omega) (by omega) (mN_2 _ _ _) rfl ?_
  refine z_sipush 131 dX7_drift_128 (by decide) rfl ?_
  refine z_idiv 132 dX7_drift_131 (by omega) (by omega) rfl ?_
  refine z_bipush 134 dX7_drift_132 (by decide) rfl ?_
  refine z_irem 135 dX7_drift_134 (by omega) (by omega) rfl ?_
  refine z_iadd 136 dX7_drift_135 rfl ?_
  rw [ht]
  refine z_istore3 137 dX7_drift_136 (Nat.le_of_ble_eq_true rfl) rfl rfl ?_
  refine z_aload0 138 dX7_drift_137 rfl ?_
  refine z_getR 141 dX7_drift_138 fl_RX7_7 (by assumption) (by assumption) rfl ?_
  refine z_iload3 142 dX7_drift_141 rfl ?_
  refine z_dup2 143 dX7_drift_142 rfl rfl rfl ?_
  refine z_ialdx 144 (3 + t) dX7_drift_143 (by assumption) (by omega) (by omega) (mN_r _ _ _ ht10) rfl ?_
  refine z_aload0 145 dX7_drift_144 rfl ?_
  refine z_getR 148 dX7_drift_145 fl_RX7_7 (by assumption) (by assumption) rfl ?_
  refine z_iload3 149 dX7_drift_148 rfl ?_
  refine z_ialdx 150 (3 + t) dX7_drift_149 (by assumption) (by omega) (by omega) (mN_r _ _ _ ht10) rfl ?_
  refine z_bipush 152 dX7_drift_150 (by decide) rfl ?_
  refine z_icmp_ge 159 155 dX7_drift_152 (by decide) rfl (by omega) (by omega) (fun h152 => ?_) (fun h152 => ?_)
  · refine z_iconst 160 dX7_drift_159 rfl ?_
    refine z_iadd 161 dX7_drift_160 rfl ?_
    refine z_iastx 162 (3 + t) dX7_drift_161 (by assumption) (by omega) (by omega) (mN_up _ _ _ (i := 1) (j := t) hx _) rfl ?_
    refine z_iinc2 165 dX7_drift_162 (Nat.le_of_ble_eq_true rfl) rfl rfl ?_
    refine z_goto 33 dX7_drift_165 (by decide) ?_
    first | (have k2 := k (zI (3 + (t : Int))); rw [show (if S 1 t + 1 < 9 then S 1 t + 1 else 9) = S 1 t + 1 by split <;> omega] at k2; exact k2) | (have k2 := k (zI (3 + (t : Int))); rw [show (if S 1 t + 1 < 9 then S 1 t + 1 else 9) = S 1 t + 0 by split <;> omega] at k2; exact k2)
  · refine z_iconst 156 dX7_drift_155 rfl ?_
    refine z_goto 160 dX7_drift_156 (by decide) ?_
    refine z_iadd 161 dX7_drift_160 rfl ?_
    refine z_iastx 162 (3 + t) dX7_drift_161 (by assumption) (by omega) (by omega) (mN_up _ _ _ (i := 1) (j := t) hx _) rfl ?_
    refine z_iinc2 165 dX7_drift_162 (Nat.le_of_ble_eq_true rfl) rfl rfl ?_
    refine z_goto 33 dX7_drift_165 (by decide) ?_
    first | (have k2 := k (zI (3 + (t : Int))); rw [show (if S 1 t + 1 < 9 then S 1 t + 1 else 9) = S 1 t + 1 by split <;> omega] at k2; exact k2) | (have k2 := k (zI (3 + (t : Int))); rw [show (if S 1 t + 1 < 9 then S 1 t + 1 else 9) = S 1 t + 0 by split <;> omega] at k2; exact k2)
theorem lp_X7_drift {n : Int} {Ia : zI2} : ∀ (m i : Nat) (I : zI2) (A : zA) (z3 : zV), (i : Int) + m = n → n ≤ 40 → mCA sh R I L A → zuq A.1 → A.1 0 7 + m ≤ 9999 → (∀ a, a < 157 → I a = Ia a) → zE X mX7_drift 0 0 33 [zR 157, zI n, zI (i : Int), z3] [] sh I L R (mOp sh Ia L R (zI (sthr (odri m A).1)) (odri m A))
  | 0, i, I, A, z3, hi, hn, h, hu, h7, hI => by
    obtain ⟨hM, hN, hHis, hKep, hTap, hShe⟩ := id h
    obtain ⟨⟨s0, s1, s2, s3, s4, s5, s6, s7, s8, s9, s10, s11, s12, s13, s14, s15⟩, r0, r1, r2, r3, r4, r5, r6, r7, r8, r9, r10, r11, r12, r13, r14⟩ := id hM
    obtain ⟨⟨hSr, hS7, hS8⟩, hQ⟩ := id hN
    have e6 := hQ.1.1
    have hn5 := hSr.1
    refine z_mN ?_
    refine z_iload2 34 dX7_drift_33 rfl ?_
    refine z_iload1 35 dX7_drift_34 rfl ?_
    refine z_icmp_ge 168 38 dX7_drift_35 (by decide) rfl (by omega) (by omega) (fun h35 => ?_) (fun hz => absurd hz (by omega))
    refine z_aload0 169 dX7_drift_168 rfl ?_
    refine z_xV0 172 dX7_drift_169 lk_X7_drift_114 (ct_X7_through hM hSr) rfl (Nat.le_of_ble_eq_true rfl) (Nat.le_of_ble_eq_true rfl) (by assumption) rfl rfl ?_
    exact z_ireturn dX7_drift_172 rfl (mOp_tr (J := I) (K := L) (fun a ha => ⟨hI a ha, rfl⟩) (mOp_sameN h (by rw [sthr_c hQ]; rfl)))
  | m + 1, i, I, A, z3, hi, hn, h, hu, h7, hI => by
    obtain ⟨hM, hN, hHis, hKep, hTap, hShe⟩ := id h
    obtain ⟨⟨s0, s1, s2, s3, s4, s5, s6, s7, s8, s9, s10, s11, s12, s13, s14, s15⟩, r0, r1, r2, r3, r4, r5, r6, r7, r8, r9, r10, r11, r12, r13, r14⟩ := id hM
    obtain ⟨⟨hSr, hS7, hS8⟩, hQ⟩ := id hN
    have e6 := hQ.1.1
    have hn5 := hSr.1
    have e7 := hQ.1.2.1
    have ih := fun (I' : zI2) (z3 : zV) (h3 : mCA sh R I' L (sdo A.1, (oPush A).2)) (h4 : ∀ a, a < 157 → I' a = Ia a) => lp_X7_drift m (i + 1) I' (sdo A.1, (oPush A).2) z3 (by omega) hn h3 (zuq_q (sdo_c hQ hSr).sy (zuq_sdo hSr (zuq_q hQ hu))) (by show sdo A.1 0 7 + m ≤ 9999; have := sdo_07 A.1; omega) h4
    have hgS : zSg (sdo (nvw (I 158))) := sdo_sg ⟨hSr, hS7, hS8⟩ (by omega)
    have hqS := sdo_c hQ hSr
    have hSA := sdoA_sr hSr
    have hdA := sdoA_8 (nvw (I 158))
    have hSB := sdoB_sr hSA hdA
    have hdB : 0 ≤ sdoB (sdoA (nvw (I 158))) 0 8 ∧ sdoB (sdoA (nvw (I 158))) 0 8 ≤ 2147483647 := by rw [sdoB_8]; exact hdA
    have huA : zuq (sdoA (nvw (I 158))) := by
      intro p q hp hq h1 h2 h3
      have e6 : sdoA (nvw (I 158)) 6 = nvw (I 158) 6 := zup_row _ _ (by decide)
      have e0 : sdoA (nvw (I 158)) 0 6 = nvw (I 158) 0 6 := zup_ne _ _ (by omega)
      rw [e6] at h1 h2 h3
      rw [e0] at hp hq
      exact zuq_q hQ hu p q hp hq h1 h2 h3
    have hA6 := hSA.1
    have hdr : zl2i (zandL (nvw (I 158) 0 8 * 1103515245 + 12345) 2147483647) = sdr (nvw (I 158) 0 8) := by
      rw [zandL_31]
      exact zl2i_id (by omega)
    have esA : zup (nvw (I 158)) 0 8 (sdr (nvw (I 158) 0 8)) = sdoA (nvw (I 158)) := rfl
    have esd : sdo (nvw (I 158)) = sdoC (sdoB (sdoA (nvw (I 158)))) := rfl
    have ebd : sdoB (sdoA (nvw (I 158))) = if 0 < sdoA (nvw (I 158)) 0 6 then (if sdoA (nvw (I 158)) 6 (sdoA (nvw (I 158)) 0 8 / 65536 % sdoA (nvw (I 158)) 0 6).toNat = 30 then send (sdoA (nvw (I 158))) (sdoA (nvw (I 158)) 0 8 / 65536 % sdoA (nvw (I 158)) 0 6).toNat else zup (sdoA (nvw (I 158))) 6 (sdoA (nvw (I 158)) 0 8 / 65536 % sdoA (nvw (I 158)) 0 6).toNat 30) else sdoA (nvw (I 158)) := rfl
    have hsq := sdq (sdoA (nvw (I 158))) hSA hdA
    refine z_iload2 34 dX7_drift_33 rfl ?_
    refine z_iload1 35 dX7_drift_34 rfl ?_
    refine z_icmp_ge 168 38 dX7_drift_35 (by decide) rfl (by omega) (by omega) (fun hz => absurd hz (by omega)) (fun h35 => ?_)
    refine z_aload0 39 dX7_drift_38 rfl ?_
    refine z_pV0 42 dX7_drift_39 lk_X7_drift_160 (ct_X7_notes h) rfl (Nat.le_of_ble_eq_true rfl) (Nat.le_of_ble_eq_true rfl) (by assumption) rfl rfl (fun r0 sh0 I0 L0 R0 hpq => ?_)
    obtain ⟨q1, q2, q3, q4, h2, q5⟩ := hpq
    subst r0 sh0 L0 R0
    have e158 := q5 158 (by decide)
    have eI0 : mN I0 (I 158) (nvw (I 158)) = I0 := by rw [← e158]; exact mN_self I0
    have key : ∀ J : zI2, (∀ a, ¬ mscr a → J a = I0 a) → ∀ z3, zE X mX7_drift 0 0 33 [zR 157, zI n, zI ((i + 1 : Nat) : Int), z3] [] sh (mN J (I 158) (sdo (nvw (I 158)))) L R (mOp sh Ia L R (zI (sthr (odri (m + 1) A).1)) (odri (m + 1) A)) := fun J hJ z3 => ih _ z3 (mOp_now (A := oPush A) (N := I 158) (x := zX) h2 hJ hgS hqS rfl).2.2.2.1 (fun a ha => by rw [mN_o _ _ _ (by omega), hJ a (by unfold mscr; omega), q5 a (by omega)]; exact hI a ha)
    rw [← eI0]
    refine z_aload0 43 dX7_drift_42 rfl ?_
    refine z_getR 46 dX7_drift_43 fl_RX7_7 (by assumption) (by assumption) rfl ?_
    refine z_iconst 47 dX7_drift_46 rfl ?_
    refine z_aload0 48 dX7_drift_47 rfl ?_
    refine z_getR 51 dX7_drift_48 fl_RX7_7 (by assumption) (by assumption) rfl ?_
    refine z_iconst 52 dX7_drift_51 rfl ?_
    refine z_ialdx 53 (2) dX7_drift_52 (by assumption) (by omega) (by omega) (mN_2 _ _ _) rfl ?_
    refine z_i2l 54 dX7_drift_53 (by omega) rfl ?_
    refine z_ldc2 57 dX7_drift_54 kl_RX7_171 rfl ?_
    refine z_lmul 58 dX7_drift_57 rfl ?_
    refine z_ldc2 61 dX7_drift_58 kl_RX7_173 rfl ?_
    refine z_ladd 62 dX7_drift_61 rfl ?_
    refine z_ldc2 65 dX7_drift_62 kl_RX7_175 rfl ?_
    refine z_land 66 dX7_drift_65 rfl ?_
    refine z_l2i 67 dX7_drift_66 rfl ?_
    rw [hdr]
    refine z_iastx 68 (2) dX7_drift_67 (by assumption) (by omega) (by omega) ((mN_up _ _ _ (i := 0) (j := 8) (Or.inr (Or.inr (Or.inl ⟨rfl, rfl, rfl⟩))) _).trans (congrArg (mN I0 (I 158)) esA)) rfl ?_
    refine z_aload0 69 dX7_drift_68 rfl ?_
    refine z_getR 72 dX7_drift_69 fl_RX7_7 (by assumption) (by assumption) rfl ?_
    refine z_iconst 73 dX7_drift_72 rfl ?_
    refine z_ialdx 74 (0) dX7_drift_73 (by assumption) (by omega) (by omega) (mN_0 _ _ _) rfl ?_
    refine z_if_le 121 77 dX7_drift_74 (by decide) rfl (by omega) (fun h74 => ?_) (fun h74 => ?_)
    · first
        | (have ebd2 : sdoB (sdoA (nvw (I 158))) = sdoA (nvw (I 158)) := by rw [ebd, if_neg (by omega)]
           rw [esd, ebd2] at key
           exact tl_X7_drift hM (by omega) hSA hdA (key I0 (fun _ _ => rfl)))
        | (rw [esd, ebd] at key
           rw [ebd] at hSB hdB
           exact tl_X7_drift hM (by omega) hSB hdB (key _ (fun a ha => zrow_oR _ _ (fun z => ha (Or.inr (Or.inl z))))))
        | (rw [if_neg (by omega)] at ebd
           rw [esd, ebd] at key
           rw [ebd] at hSB hdB
           exact tl_X7_drift hM (by omega) hSB hdB (key I0 (fun _ _ => rfl)))
    · refine z_aload0 78 dX7_drift_77 rfl ?_
      refine z_getR 81 dX7_drift_78 fl_RX7_7 (by assumption) (by assumption) rfl ?_
      refine z_iconst 82 dX7_drift_81 rfl ?_
      refine z_ialdx 83 (2) dX7_drift_82 (by assumption) (by omega) (by omega) (mN_2 _ _ _) rfl ?_
      refine z_ldc 85 dX7_drift_83 kc_RX7_177 rfl ?_
      refine z_idiv 86 dX7_drift_85 (by omega) (by omega) rfl ?_
      refine z_aload0 87 dX7_drift_86 rfl ?_
      refine z_getR 90 dX7_drift_87 fl_RX7_7 (by assumption) (by assumption) rfl ?_
      refine z_iconst 91 dX7_drift_90 rfl ?_
      refine z_ialdx 92 (0) dX7_drift_91 (by assumption) (by omega) (by omega) (mN_0 _ _ _) rfl ?_
      refine z_irem 93 dX7_drift_92 (by omega) (by omega) rfl ?_
      obtain ⟨q, hq, hq5⟩ := hsq (by omega)
      rw [hq]
      have hp := hSA.2.2.2.2.2.2 q hq5
      have hq6 : (q : Int) < sdoA (nvw (I 158)) 0 6 := by rw [← hq]; exact Int.emod_lt_of_pos _ (by omega)
      rw [if_pos (by omega), hq, Int.toNat_natCast] at ebd
      refine z_istore3 94 dX7_drift_93 (Nat.le_of_ble_eq_true rfl) rfl rfl ?_
      refine z_aload0 95 dX7_drift_94 rfl ?_
      refine z_iload3 96 dX7_drift_95 rfl ?_
      refine z_xV1 99 dX7_drift_96 lk_X7_drift_66 (ct_X7_where hM hq5) rfl (Nat.le_of_ble_eq_true rfl) (Nat.le_of_ble_eq_true rfl) (by assumption) rfl rfl ?_
      refine z_bipush 101 dX7_drift_99 (by decide) rfl ?_
      refine z_icmp_ne 113 104 dX7_drift_101 (by decide) rfl (by omega) (by omega) (fun h101 => ?_) (fun h101 => ?_)
      · refine z_aload0 114 dX7_drift_113 rfl ?_
        refine z_iload3 115 dX7_drift_114 rfl ?_
        refine z_iconst 116 dX7_drift_115 rfl ?_
        refine z_bipush 118 dX7_drift_116 (by decide) rfl ?_
        refine z_xVv3 121 dX7_drift_118 lk_X7_drift_70 (ct_X7_tells (w := 3) (k := 6) hM hq5 (by decide) rfl) rfl (Nat.le_of_ble_eq_true rfl) (Nat.le_of_ble_eq_true rfl) (by assumption) rfl rfl ?_
        first
          | (have ebd2 : sdoB (sdoA (nvw (I 158))) = sdoA (nvw (I 158)) := by rw [ebd, if_neg (by omega)]
             rw [esd, ebd2] at key
             exact tl_X7_drift hM (by omega) hSA hdA (key I0 (fun _ _ => rfl)))
          | (rw [esd, ebd] at key
             rw [ebd] at hSB hdB
             exact tl_X7_drift hM (by omega) hSB hdB (key _ (fun a ha => zrow_oR _ _ (fun z => ha (Or.inr (Or.inl z))))))
          | (rw [if_neg (by omega)] at ebd
             rw [esd, ebd] at key
             rw [ebd] at hSB hdB
             exact tl_X7_drift hM (by omega) hSB hdB (key I0 (fun _ _ => rfl)))
      · have h30 : sdoA (nvw (I 158)) 6 q = 30 := by omega
        obtain ⟨B', hB, kr⟩ := cx_rides (X := X) (J := I0) (L := L) (R := R) (N := I 158) (r := q) hM hq5 hSA huA
        rw [show zup (sdoA (nvw (I 158))) 6 q 30 = sdoA (nvw (I 158)) by rw [← h30]; exact zup_self _ _ _] at kr
        rw [if_pos h30] at ebd
        refine z_aload0 105 dX7_drift_104 rfl ?_
        refine z_iload3 106 dX7_drift_105 rfl ?_
        refine z_xV1 109 dX7_drift_106 lk_X7_drift_163 (kr) rfl (Nat.le_of_ble_eq_true rfl) (Nat.le_of_ble_eq_true rfl) (by assumption) rfl rfl ?_
        refine z_pop 110 dX7_drift_109 rfl rfl ?_
        refine z_goto 121 dX7_drift_110 (by decide) ?_
        first
          | (have ebd2 : sdoB (sdoA (nvw (I 158))) = sdoA (nvw (I 158)) := by rw [ebd, if_neg (by omega)]
             rw [esd, ebd2] at key
             exact tl_X7_drift hM (by omega) hSA hdA (key I0 (fun _ _ => rfl)))
          | (rw [esd, ebd] at key
             rw [ebd] at hSB hdB
             exact tl_X7_drift hM (by omega) hSB hdB (key _ (fun a ha => zrow_oR _ _ (fun z => ha (Or.inr (Or.inl z))))))
          | (rw [if_neg (by omega)] at ebd
             rw [esd, ebd] at key
             rw [ebd] at hSB hdB
             exact tl_X7_drift hM (by omega) hSB hdB (key I0 (fun _ _ => rfl)))
variable {I : zI2} {A : zA}
theorem op_X7_drift {n : Int} (h : mCA sh R I L A) (hu : zuq A.1) (hn : -2147483648 ≤ n ∧ n ≤ 2147483647) : zE X mX7_drift 0 0 0 [zR 157, zI n, zX, zX] [] sh I L R (mOp sh I L R (zI (oDrift A n).1) (oDrift A n).2) := by
  obtain ⟨hM, hN, hHis, hKep, hTap, hShe⟩ := id h
  obtain ⟨⟨s0, s1, s2, s3, s4, s5, s6, s7, s8, s9, s10, s11, s12, s13, s14, s15⟩, r0, r1, r2, r3, r4, r5, r6, r7, r8, r9, r10, r11, r12, r13, r14⟩ := id hM
  obtain ⟨⟨hSr, hS7, hS8⟩, hQ⟩ := id hN
  have e6 := hQ.1.1
  have hn5 := hSr.1
  have e7 := hQ.1.2.1
  have z1 := zwi_r n 1 40
  refine z_mN ?_
  refine z_iload1 1 dX7_drift_0 rfl ?_
  refine z_i2l 2 dX7_drift_1 (by omega) rfl ?_
  refine z_lconst1 3 dX7_drift_2 rfl ?_
  refine z_ldc2 6 dX7_drift_3 kl_RX7_169 rfl ?_
  refine z_xS3 9 dX7_drift_6 lk_X7_drift_56 (ct_X7_in (by omega) (by omega) (by omega)) rfl (Nat.le_of_ble_eq_true rfl) (Nat.le_of_ble_eq_true rfl) rfl ?_
  refine z_if_ne 14 12 dX7_drift_9 (by decide) rfl (by omega) (fun h9 => ?_) (fun h9 => ?_)
  · have g9 := zwi_ne0 h9
    refine z_aload0 15 dX7_drift_14 rfl ?_
    refine z_getR 18 dX7_drift_15 fl_RX7_7 (by assumption) (by assumption) rfl ?_
    refine z_iconst 19 dX7_drift_18 rfl ?_
    refine z_ialdx 20 (1) dX7_drift_19 (by assumption) (by omega) (by omega) (mN_1 _ _ _) rfl ?_
    refine z_iload1 21 dX7_drift_20 rfl ?_
    refine z_iadd 22 dX7_drift_21 rfl ?_
    refine z_sipush 25 dX7_drift_22 (by decide) rfl ?_
    refine z_icmp_le 31 28 dX7_drift_25 (by decide) rfl (by omega) (by omega) (fun h25 => ?_) (fun h25 => ?_)
    · refine z_iconst 32 dX7_drift_31 rfl ?_
      refine z_istore2 33 dX7_drift_32 (Nat.le_of_ble_eq_true rfl) rfl rfl ?_
      rw [mN_self]
      rw [show oDrift A n = (sthr (odri n.toNat A).1, odri n.toNat A) by unfold oDrift; rw [if_pos (by omega), if_neg (by omega)]]
      exact lp_X7_drift n.toNat 0 I A _ (by omega) (by omega) h hu (by omega) (fun _ _ => rfl)
    · refine z_bipush 30 dX7_drift_28 (by decide) rfl ?_
      exact z_ireturn dX7_drift_30 rfl ((by rw [show oDrift A n = (-3, A) by unfold oDrift; rw [if_pos (by omega), if_pos (by omega)]]; exact mOp_sameN h rfl))
  · have g9 := zwi_eq0 h9
    refine z_iconst 13 dX7_drift_12 rfl ?_
    exact z_ireturn dX7_drift_13 rfl ((by rw [show oDrift A n = (-1, A) by unfold oDrift; rw [if_neg (by omega)]]; exact mOp_sameN h rfl))
/-- the row behind an undo: all as it was noted, but lean -/
def mun (N V : Nat → Int) : Nat → Int := fun j => if j < 43 then (if 23 ≤ j ∧ (j - 23) % 4 = 2 then N j else V j) else N j
theorem mun_v (N V : Nat → Int) : ∀ i j, i ≠ 5 → nvw (mun N V) i j = nvw V i j := by
  intro i j hi
  unfold nvw mun
  repeat' split
  all_goals first | rfl | omega
theorem mun_5 (N V : Nat → Int) : nvw (mun N V) 5 = nvw N 5 := by
  funext j
  show (if j < 5 then mun N V (23 + 4 * j + 2) else 0) = (if j < 5 then N (23 + 4 * j + 2) else 0)
  split
  · unfold mun
    rw [if_pos (by omega), if_pos (by omega)]
  · rfl
/-- what is noted is of the riders that there are -/
def zSm (S s : zT) : Prop := s 0 6 = S 0 6 ∧ ∀ r : Nat, (r : Int) < S 0 6 → s 3 r = S 3 r ∧ s 4 r = S 4 r
theorem mun_re {N V : Nat → Int} {S s : zT} (hN : mRe N S) (hV : mRe V s) (hm : zSm S s) : mRe (mun N V) (sgb s S) := by
  obtain ⟨⟨⟨a1, a2, a3, a4, a5, a6, a7⟩, a8, a9⟩, q⟩ := hN
  obtain ⟨⟨⟨b1, b2, b3, b4, b5, b6, b7⟩, b8, b9⟩, p⟩ := hV
  have e : ∀ i, i ≠ 5 → nvw (mun N V) i = nvw V i := fun i hi => funext fun j => mun_v N V i j hi
  refine ⟨⟨⟨?_, ?_, ?_, ?_, ?_, ?_, ?_⟩, ?_, ?_⟩, ⟨?_, ?_, ?_⟩, fun t ht => ?_, fun r hr => ?_⟩
  · rw [e 0 (by decide)]; exact b1
  · rw [e 1 (by decide)]; exact b2
  · rw [e 2 (by decide)]; exact b3
  · rw [e 3 (by decide)]; exact b4
  · rw [e 4 (by decide)]; exact b5
  · rw [mun_5]; exact a6
  · rw [e 6 (by decide)]; exact b7
  · rw [e 0 (by decide)]; exact b8
  · rw [e 0 (by decide)]; exact b9
  · rw [e 0 (by decide), sgb_06, ← hm.1]; exact p.1.1
  · rw [e 0 (by decide), sgb_07]; exact p.1.2.1
  · rw [e 0 (by decide), sgb_08]; exact p.1.2.2
  · rw [e 1 (by decide), e 2 (by decide), sgb_1 _ _ ht, sgb_2 _ _ ht]; exact p.2.1 t ht
  · rw [e 0 (by decide)] at hr
    have h1 := p.2.2 r hr
    have hr2 : (r : Int) < S 0 6 := by rw [← hm.1, ← p.1.1]; exact hr
    have h2 := hm.2 r hr2
    have h3 := q.2.2 r (by rw [q.1.1]; exact hr2)
    rw [e 3 (by decide), e 4 (by decide), mun_5, e 6 (by decide), sgb_k _ _ (Or.inl rfl), sgb_k _ _ (Or.inr (Or.inl rfl)), sgb_k _ _ (Or.inr (Or.inr rfl)), sgb_6 _ _ (by omega)]
    exact ⟨h1.1.trans h2.1, h1.2.1.trans h2.2, h3.2.2.1, h1.2.2.2⟩
theorem lp_X7_undo {n : Nat} {N : Nat → Int} (hM : zMs sh R) (hn : n < 8) (h9 : I 157 9 = (n : Int)) : ∀ (m k : Nat) (z2 : zV), k + m = 43 → zE X mX7_undo 0 0 22 [zR 157, zI (k : Int), z2] [] sh (zrow I 158 (fun j => if j < k then mun N (mrw (I 163) (43 * n)) j else N j)) L R (zEq [zI (n : Int)] sh (zrow I 158 (mun N (mrw (I 163) (43 * n)))) L R)
  | 0, k, z2, h => by
    have e : k = 43 := by omega
    subst e
    have e2 : (fun j => if j < 43 then mun N (mrw (I 163) (43 * n)) j else N j) = mun N (mrw (I 163) (43 * n)) := funext fun j => by
      by_cases hj : j < 43
      · rw [if_pos hj]
      · rw [if_neg hj]
        unfold mun
        rw [if_neg hj]
    rw [e2]
    obtain ⟨⟨s0, s1, s2, s3, s4, s5, s6, s7, s8, s9, s10, s11, s12, s13, s14, s15⟩, r0, r1, r2, r3, r4, r5, r6, r7, r8, r9, r10, r11, r12, r13, r14⟩ := id hM
    refine z_iload1 23 dX7_undo_22 rfl ?_
    refine z_bipush 25 dX7_undo_23 (by decide) rfl ?_
    refine z_icmp_ge 89 28 dX7_undo_25 (by decide) rfl (by omega) (by omega) (fun h25 => ?_) (fun hz => absurd hz (by omega))
    refine z_aload0 90 dX7_undo_89 rfl ?_
    refine z_getIx 93 dX7_undo_90 fl_RX7_81 (by assumption) ((congrFun (zrow_oR _ _ (by decide)) 9).trans h9) rfl ?_
    exact z_ireturn dX7_undo_93 rfl (⟨rfl, rfl, rfl, rfl, rfl⟩)
  | m + 1, k, z2, h => by
    obtain ⟨⟨s0, s1, s2, s3, s4, s5, s6, s7, s8, s9, s10, s11, s12, s13, s14, s15⟩, r0, r1, r2, r3, r4, r5, r6, r7, r8, r9, r10, r11, r12, r13, r14⟩ := id hM
    have hN : zrow I 158 (fun j => if j < k then mun N (mrw (I 163) (43 * n)) j else N j) 158 k = N k := by rw [zrow_at, if_neg (by omega)]
    have e : ∀ v : Int, v = mun N (mrw (I 163) (43 * n)) k → (fun q => if q = k then v else if q < k then mun N (mrw (I 163) (43 * n)) q else N q) = (fun j => if j < k + 1 then mun N (mrw (I 163) (43 * n)) j else N j) := fun v hv => by
      funext q
      by_cases h1 : q = k
      · rw [if_pos h1, if_pos (by omega), hv, h1]
      · rw [if_neg h1]
        by_cases h2 : q < k
        · rw [if_pos h2, if_pos (by omega)]
        · rw [if_neg h2, if_neg (by omega)]
    have em : mun N (mrw (I 163) (43 * n)) k = if 23 ≤ k ∧ (k - 23) % 4 = 2 then N k else I 163 (43 * n + k) := by
      unfold mun
      rw [if_pos (by omega)]
      rfl
    refine z_iload1 23 dX7_undo_22 rfl ?_
    refine z_bipush 25 dX7_undo_23 (by decide) rfl ?_
    refine z_icmp_ge 89 28 dX7_undo_25 (by decide) rfl (by omega) (by omega) (fun hz => absurd hz (by omega)) (fun h25 => ?_)
    refine z_iload1 29 dX7_undo_28 rfl ?_
    refine z_bipush 31 dX7_undo_29 (by decide) rfl ?_
    refine z_icmp_lt 48 34 dX7_undo_31 (by decide) rfl (by omega) (by omega) (fun h31 => ?_) (fun h31 => ?_)
    · refine z_iconst 49 dX7_undo_48 rfl ?_
      refine z_istore2 50 dX7_undo_49 (Nat.le_of_ble_eq_true rfl) rfl rfl ?_
      refine z_aload0 51 dX7_undo_50 rfl ?_
      refine z_getR 54 dX7_undo_51 fl_RX7_7 (by assumption) (by assumption) rfl ?_
      refine z_iload1 55 dX7_undo_54 rfl ?_
      refine z_iload2 56 dX7_undo_55 rfl ?_
      refine z_if_eq 68 59 dX7_undo_56 (by decide) rfl (by omega) (fun h56 => ?_) (fun hz => absurd hz (by omega))
      refine z_aload0 69 dX7_undo_68 rfl ?_
      refine z_getR 72 dX7_undo_69 fl_RX7_25 (by assumption) (by assumption) rfl ?_
      refine z_bipush 74 dX7_undo_72 (by decide) rfl ?_
      refine z_aload0 75 dX7_undo_74 rfl ?_
      refine z_getIx 78 dX7_undo_75 fl_RX7_81 (by assumption) ((congrFun (zrow_oR _ _ (by decide)) 9).trans h9) rfl ?_
      refine z_imul 79 dX7_undo_78 rfl ?_
      refine z_iload1 80 dX7_undo_79 rfl ?_
      refine z_iadd 81 dX7_undo_80 rfl ?_
      refine z_ialdx 82 (43 * n + k) dX7_undo_81 (by assumption) (by omega) (by omega) (zrow_o _ _ (by decide) _) rfl ?_
      refine z_iastx 83 (k) dX7_undo_82 (by assumption) (by omega) (by omega) (zrow_up _ _ _ _ _) rfl ?_
      refine z_iinc1 86 dX7_undo_83 (Nat.le_of_ble_eq_true rfl) rfl rfl ?_
      refine z_goto 22 dX7_undo_86 (by decide) ?_
      first | (rw [e (N k) (by rw [em, if_pos (by omega)])]; exact lp_X7_undo hM hn h9 m (k + 1) _ (by omega)) | (rw [e (I 163 (43 * n + k)) (by rw [em, if_neg (by omega)])]; exact lp_X7_undo hM hn h9 m (k + 1) _ (by omega))
    · refine z_iload1 35 dX7_undo_34 rfl ?_
      refine z_bipush 37 dX7_undo_35 (by decide) rfl ?_
      refine z_isub 38 dX7_undo_37 rfl ?_
      refine z_iconst 39 dX7_undo_38 rfl ?_
      refine z_irem 40 dX7_undo_39 (by omega) (by omega) rfl ?_
      refine z_iconst 41 dX7_undo_40 rfl ?_
      refine z_icmp_ne 48 44 dX7_undo_41 (by decide) rfl (by omega) (by omega) (fun h41 => ?_) (fun h41 => ?_)
      · refine z_iconst 49 dX7_undo_48 rfl ?_
        refine z_istore2 50 dX7_undo_49 (Nat.le_of_ble_eq_true rfl) rfl rfl ?_
        refine z_aload0 51 dX7_undo_50 rfl ?_
        refine z_getR 54 dX7_undo_51 fl_RX7_7 (by assumption) (by assumption) rfl ?_
        refine z_iload1 55 dX7_undo_54 rfl ?_
        refine z_iload2 56 dX7_undo_55 rfl ?_
        refine z_if_eq 68 59 dX7_undo_56 (by decide) rfl (by omega) (fun h56 => ?_) (fun hz => absurd hz (by omega))
        refine z_aload0 69 dX7_undo_68 rfl ?_
        refine z_getR 72 dX7_undo_69 fl_RX7_25 (by assumption) (by assumption) rfl ?_
        refine z_bipush 74 dX7_undo_72 (by decide) rfl ?_
        refine z_aload0 75 dX7_undo_74 rfl ?_
        refine z_getIx 78 dX7_undo_75 fl_RX7_81 (by assumption) ((congrFun (zrow_oR _ _ (by decide)) 9).trans h9) rfl ?_
        refine z_imul 79 dX7_undo_78 rfl ?_
        refine z_iload1 80 dX7_undo_79 rfl ?_
        refine z_iadd 81 dX7_undo_80 rfl ?_
        refine z_ialdx 82 (43 * n + k) dX7_undo_81 (by assumption) (by omega) (by omega) (zrow_o _ _ (by decide) _) rfl ?_
        refine z_iastx 83 (k) dX7_undo_82 (by assumption) (by omega) (by omega) (zrow_up _ _ _ _ _) rfl ?_
        refine z_iinc1 86 dX7_undo_83 (Nat.le_of_ble_eq_true rfl) rfl rfl ?_
        refine z_goto 22 dX7_undo_86 (by decide) ?_
        first | (rw [e (N k) (by rw [em, if_pos (by omega)])]; exact lp_X7_undo hM hn h9 m (k + 1) _ (by omega)) | (rw [e (I 163 (43 * n + k)) (by rw [em, if_neg (by omega)])]; exact lp_X7_undo hM hn h9 m (k + 1) _ (by omega))
      · refine z_iconst 45 dX7_undo_44 rfl ?_
        refine z_goto 49 dX7_undo_45 (by decide) ?_
        refine z_istore2 50 dX7_undo_49 (Nat.le_of_ble_eq_true rfl) rfl rfl ?_
        refine z_aload0 51 dX7_undo_50 rfl ?_
        refine z_getR 54 dX7_undo_51 fl_RX7_7 (by assumption) (by assumption) rfl ?_
        refine z_iload1 55 dX7_undo_54 rfl ?_
        refine z_iload2 56 dX7_undo_55 rfl ?_
        refine z_if_eq 68 59 dX7_undo_56 (by decide) rfl (by omega) (fun hz => absurd hz (by omega)) (fun h56 => ?_)
        refine z_aload0 60 dX7_undo_59 rfl ?_
        refine z_getR 63 dX7_undo_60 fl_RX7_7 (by assumption) (by assumption) rfl ?_
        refine z_iload1 64 dX7_undo_63 rfl ?_
        refine z_ialdx 65 (k) dX7_undo_64 (by assumption) (by omega) (by omega) (hN) rfl ?_
        refine z_goto 82 dX7_undo_65 (by decide) ?_
        refine z_iastx 83 (k) dX7_undo_82 (by assumption) (by omega) (by omega) (zrow_up _ _ _ _ _) rfl ?_
        refine z_iinc1 86 dX7_undo_83 (Nat.le_of_ble_eq_true rfl) rfl rfl ?_
        refine z_goto 22 dX7_undo_86 (by decide) ?_
        first | (rw [e (N k) (by rw [em, if_pos (by omega)])]; exact lp_X7_undo hM hn h9 m (k + 1) _ (by omega)) | (rw [e (I 163 (43 * n + k)) (by rw [em, if_neg (by omega)])]; exact lp_X7_undo hM hn h9 m (k + 1) _ (by omega))
theorem op_X7_undo (h : mCA sh R I L A) (hA : ∀ s ∈ A.2.1, zSm A.1 s) : zE X mX7_undo 0 0 0 [zR 157, zX, zX] [] sh I L R (mOp sh I L R (zI (oUndo A).1) (oUndo A).2) := by
  obtain ⟨hM, hN, hHis, hKep, hTap, hShe⟩ := id h
  obtain ⟨⟨s0, s1, s2, s3, s4, s5, s6, s7, s8, s9, s10, s11, s12, s13, s14, s15⟩, r0, r1, r2, r3, r4, r5, r6, r7, r8, r9, r10, r11, r12, r13, r14⟩ := id hM
  obtain ⟨⟨hSr, hS7, hS8⟩, hQ⟩ := id hN
  have e6 := hQ.1.1
  have hn5 := hSr.1
  obtain ⟨h9, h8, hH⟩ := id hHis
  rcases List.eq_nil_or_concat A.2.1 with hl | ⟨l, s, hl⟩
  · rw [hl] at h9
    have h90 : I 157 9 = 0 := h9
    refine z_aload0 1 dX7_undo_0 rfl ?_
    refine z_getIx 4 dX7_undo_1 fl_RX7_81 (by assumption) (h90) rfl ?_
    refine z_if_ne 10 7 dX7_undo_4 (by decide) rfl (by omega) (fun hz => absurd hz (by omega)) (fun h4 => ?_)
    refine z_bipush 9 dX7_undo_7 (by decide) rfl ?_
    exact z_ireturn dX7_undo_9 rfl ((by rw [show oUndo A = (-4, A) by unfold oUndo; rw [hl]; rfl]; exact mOp_same h rfl))
  · rw [hl] at h9 h8
    simp at h9 h8
    have hs6 := hA s (by rw [hl]; simp)
    have hqs : mRe (mrw (I 163) (43 * l.length)) s := hH l.length s (by rw [hl]; simp)
    have k1 := lp_X7_undo (X := X) (I := zup I 157 9 (l.length : Int)) (L := L) (n := l.length) (N := I 158) hM (by omega) (zup_at _ _ _ _) 43 0 zX rfl
    rw [show (fun j => if j < 0 then mun (I 158) (mrw (zup I 157 9 (l.length : Int) 163) (43 * l.length)) j else I 158 j) = zup I 157 9 (l.length : Int) 158 from funext fun j => if_neg (by omega), zrow_self, zup_row I (l.length : Int) (show (163 : Nat) ≠ 157 by decide)] at k1
    refine z_aload0 1 dX7_undo_0 rfl ?_
    refine z_getIx 4 dX7_undo_1 fl_RX7_81 (by assumption) (h9) rfl ?_
    refine z_if_ne 10 7 dX7_undo_4 (by decide) rfl (by omega) (fun h4 => ?_) (fun hz => absurd hz (by omega))
    refine z_aload0 11 dX7_undo_10 rfl ?_
    refine z_dup 12 dX7_undo_11 rfl rfl ?_
    refine z_getIx 15 dX7_undo_12 fl_RX7_81 (by assumption) (h9) rfl ?_
    refine z_iconst 16 dX7_undo_15 rfl ?_
    refine z_isub 17 dX7_undo_16 rfl ?_
    rw [show (l.length : Int) + 1 - 1 = l.length by omega]
    refine z_putI 20 dX7_undo_17 fp_RX7_81 (by assumption) rfl ?_
    refine z_iconst 21 dX7_undo_20 rfl ?_
    refine z_istore1 22 dX7_undo_21 (Nat.le_of_ble_eq_true rfl) rfl rfl ?_
    refine zE_mono (fun r' sh' I' L' R' hz => ?_) k1
    obtain ⟨p1, p2, p3, p4, p5⟩ := hz
    subst p1 p2 p3 p4 p5
    rw [show oUndo A = ((l.length : Int), (sgb s A.1, (l, A.2.2))) by unfold oUndo; rw [hl]; simp]
    have hd : ∀ a, ¬ (a = 157 ∨ a = 158) → zrow (zup I 157 9 (l.length : Int)) 158 (mun (I 158) (mrw (I 163) (43 * l.length))) a = I a := fun a ha => by rw [zrow_oR _ _ (by omega), zup_row _ _ (by omega)]
    have h7 : ∀ c, c ≠ 9 → zrow (zup I 157 9 (l.length : Int)) 158 (mun (I 158) (mrw (I 163) (43 * l.length))) 157 c = I 157 c := fun c hc => by rw [zrow_oR _ _ (by decide), zup_ne _ _ (by omega)]
    refine ⟨rfl, rfl, rfl, ⟨hM, ?_, ⟨?_, by show l.length ≤ 8; omega, fun i q hq => ?_⟩, mKep_of (h7 16 (by decide)) (h7 15 (by decide)) (hd 168 (by omega)) hKep, mTap_of (h7 3 (by decide)) (hd 160 (by omega)) hTap, mShe_of (hd 169 (by omega)) (hd 170 (by omega)) rfl hShe⟩, fun a ha => ⟨hd a (by omega), rfl⟩⟩
    · rw [show zrow (zup I 157 9 (l.length : Int)) 158 (mun (I 158) (mrw (I 163) (43 * l.length))) 158 = mun (I 158) (mrw (I 163) (43 * l.length)) from funext (zrow_at _ 158 _)]
      exact mun_re hN hqs hs6
    · rw [zrow_oR _ _ (by decide), zup_at]
    · rw [hd 163 (by omega)]
      have hi := (List.getElem?_eq_some_iff.mp hq).1
      exact hH i q (by rw [hl, List.concat_eq_append, List.getElem?_append_left hi]; exact hq)
end MODH
