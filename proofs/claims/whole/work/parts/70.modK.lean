section MODK
variable {X : zXs} {sh : zH} {I L : zI2} {R : zR2} {A : zA}
theorem lp_X7_bump36 {w a c : Int} {t : Nat} {Q : zQ} (h : mCA sh R I L A) (hu : zuq A.1) (ht : t < 10) : ∀ (m i x : Nat) (J : zI2), i + m = (A.1 0 6).toNat → x ≤ i → mFo I J → (∀ (J' : zI2) (z6 : zV), mFo I J' → zE X mX7_bump 0 0 85 [zR 157, zI w, zI a, zI c, zI (t : Int), zI (scn (zup A.1 2 t 0) m i x : Int), z6] [] sh (mN J' (I 158) (nvw (I 158))) L R Q) → zE X mX7_bump 0 0 36 [zR 157, zI w, zI a, zI c, zI (t : Int), zI (x : Int), zI (i : Int)] [] sh (mN J (I 158) (nvw (I 158))) L R Q
  | 0, i, x, J, hi, hx, hJ, k => by
    obtain ⟨hM, hN, hHis, hKep, hTap, hShe⟩ := id h
    obtain ⟨⟨s0, s1, s2, s3, s4, s5, s6, s7, s8, s9, s10, s11, s12, s13, s14, s15⟩, r0, r1, r2, r3, r4, r5, r6, r7, r8, r9, r10, r11, r12, r13, r14⟩ := id hM
    obtain ⟨⟨hSr, hS7, hS8⟩, hQ⟩ := id hN
    have e6 := hQ.1.1
    have hn5 := hSr.1
    refine z_iload6 38 dX7_bump_36 rfl ?_
    refine z_aload0 39 dX7_bump_38 rfl ?_
    refine z_getR 42 dX7_bump_39 fl_RX7_7 (by assumption) (by assumption) rfl ?_
    refine z_iconst 43 dX7_bump_42 rfl ?_
    refine z_ialdx 44 (0) dX7_bump_43 (by assumption) (by omega) (by omega) ((mN_0 _ _ _).trans e6) rfl ?_
    refine z_icmp_ge 85 47 dX7_bump_44 (by decide) rfl (by omega) (by omega) (fun h44 => ?_) (fun hz => absurd hz (by omega))
    exact k J _ hJ
  | m + 1, i, x, J, hi, hx, hJ, k => by
    obtain ⟨hM, hN, hHis, hKep, hTap, hShe⟩ := id h
    obtain ⟨⟨s0, s1, s2, s3, s4, s5, s6, s7, s8, s9, s10, s11, s12, s13, s14, s15⟩, r0, r1, r2, r3, r4, r5, r6, r7, r8, r9, r10, r11, r12, r13, r14⟩ := id hM
    obtain ⟨⟨hSr, hS7, hS8⟩, hQ⟩ := id hN
    have e6 := hQ.1.1
    have hn5 := hSr.1
    have hSi : zSr (zup (nvw (I 158)) 2 t 0) := zSr_up2 hSr t (by omega)
    obtain ⟨B', hJ2, hB, kw⟩ := fo_would (X := X) (L := L) (S := zup (nvw (I 158)) 2 t 0) (r := i) hM hJ (by omega) hSi (zuq_up (zuq_q hQ hu) (by decide) (by decide) _ _) (by rw [zup_row _ _ (by decide)]; omega)
    have hsf := sfe_r (zup (nvw (I 158)) 2 t 0) i hSi (by omega)
    rw [sfe_c (zQe_up hQ (i := 2) (j := t) (by omega) _) (by rw [zup_row _ _ (by decide)]; omega)] at kw hsf
    have hxx : nix (13 + t) 2 t := Or.inr (Or.inr (Or.inr (Or.inr (Or.inl ⟨rfl, rfl, ht⟩))))
    have kr : scn (zup A.1 2 t 0) (m + 1) i x = scn (zup A.1 2 t 0) m (i + 1) (if 0 ≤ sfe (zup A.1 2 t 0) i ∧ sfe (zup A.1 2 t 0) i ≤ 7 then x + 1 else x) := rfl
    rw [kr] at k
    refine z_iload6 38 dX7_bump_36 rfl ?_
    refine z_aload0 39 dX7_bump_38 rfl ?_
    refine z_getR 42 dX7_bump_39 fl_RX7_7 (by assumption) (by assumption) rfl ?_
    refine z_iconst 43 dX7_bump_42 rfl ?_
    refine z_ialdx 44 (0) dX7_bump_43 (by assumption) (by omega) (by omega) ((mN_0 _ _ _).trans e6) rfl ?_
    refine z_icmp_ge 85 47 dX7_bump_44 (by decide) rfl (by omega) (by omega) (fun hz => absurd hz (by omega)) (fun h44 => ?_)
    refine z_aload0 48 dX7_bump_47 rfl ?_
    refine z_getR 51 dX7_bump_48 fl_RX7_7 (by assumption) (by assumption) rfl ?_
    refine z_bipush 53 dX7_bump_51 (by decide) rfl ?_
    refine z_iload4 55 dX7_bump_53 rfl ?_
    refine z_iadd 56 dX7_bump_55 rfl ?_
    refine z_iconst 57 dX7_bump_56 rfl ?_
    refine z_iastx 58 (13 + t) dX7_bump_57 (by assumption) (by omega) (by omega) (mN_up _ _ _ (i := 2) (j := t) hxx _) rfl ?_
    refine z_iload5 60 dX7_bump_58 rfl ?_
    refine z_aload0 61 dX7_bump_60 rfl ?_
    refine z_iload6 63 dX7_bump_61 rfl ?_
    refine z_xV1 66 dX7_bump_63 lk_X7_bump_184 (kw) rfl (Nat.le_of_ble_eq_true rfl) (Nat.le_of_ble_eq_true rfl) (by assumption) rfl rfl ?_
    refine z_bipush 68 dX7_bump_66 (by decide) rfl ?_
    refine z_icmp_ge 75 71 dX7_bump_68 (by decide) rfl (by omega) (by omega) (fun h68 => ?_) (fun h68 => ?_)
    · refine z_iconst 76 dX7_bump_75 rfl ?_
      refine z_iadd 77 dX7_bump_76 rfl ?_
      refine z_istore5 79 dX7_bump_77 (Nat.le_of_ble_eq_true rfl) rfl rfl ?_
      refine z_iinc6 82 dX7_bump_79 (Nat.le_of_ble_eq_true rfl) rfl rfl ?_
      refine z_goto 36 dX7_bump_82 (by decide) ?_
      first | (rw [if_pos (by omega)] at k; exact lp_X7_bump36 h hu ht m (i + 1) (x + 1) _ (by omega) (by omega) hJ2 k) | (rw [if_neg (by omega)] at k; rw [show (x : Int) + 0 = (x : Int) by omega]; exact lp_X7_bump36 h hu ht m (i + 1) x _ (by omega) (by omega) hJ2 k)
    · refine z_iconst 72 dX7_bump_71 rfl ?_
      refine z_goto 76 dX7_bump_72 (by decide) ?_
      refine z_iadd 77 dX7_bump_76 rfl ?_
      refine z_istore5 79 dX7_bump_77 (Nat.le_of_ble_eq_true rfl) rfl rfl ?_
      refine z_iinc6 82 dX7_bump_79 (Nat.le_of_ble_eq_true rfl) rfl rfl ?_
      refine z_goto 36 dX7_bump_82 (by decide) ?_
      first | (rw [if_pos (by omega)] at k; exact lp_X7_bump36 h hu ht m (i + 1) (x + 1) _ (by omega) (by omega) hJ2 k) | (rw [if_neg (by omega)] at k; rw [show (x : Int) + 0 = (x : Int) by omega]; exact lp_X7_bump36 h hu ht m (i + 1) x _ (by omega) (by omega) hJ2 k)
theorem tl_X7_bump85 {w a c : Int} {m t y : Nat} {z6 : zV} {J : zI2} (k : ∀ (z5 z6 : zV) (a' c' : Int), -1 ≤ c' ∧ c' ≤ 5 → zE X mX7_bump 0 0 23 [zR 157, zI w, zI a', zI c', zI ((t + 1 : Nat) : Int), z5, z6] [] sh J L R (mOp sh I L R (zI (if w = 0 then (sbm A.1 m (t + 1) a' c').1 else (sbm A.1 m (t + 1) a' c').2)) A)) (hc : -1 ≤ c ∧ c ≤ 5) (hy : y ≤ 5) (ht : t < 10) : zE X mX7_bump 0 0 85 [zR 157, zI w, zI a, zI c, zI (t : Int), zI (y : Int), z6] [] sh J L R (mOp sh I L R (zI (if w = 0 then (if c < (y : Int) then sbm A.1 m (t + 1) (t : Int) (y : Int) else sbm A.1 m (t + 1) a c).1 else (if c < (y : Int) then sbm A.1 m (t + 1) (t : Int) (y : Int) else sbm A.1 m (t + 1) a c).2)) A) := by
  by_cases hcy : c < (y : Int)
  · rw [if_pos hcy]
    refine z_iload5 87 dX7_bump_85 rfl ?_
    refine z_iload3 88 dX7_bump_87 rfl ?_
    refine z_icmp_le 96 91 dX7_bump_88 (by decide) rfl (by omega) (by omega) (fun hz => absurd hz (by omega)) (fun h88 => ?_)
    refine z_iload4 93 dX7_bump_91 rfl ?_
    refine z_goto 97 dX7_bump_93 (by decide) ?_
    refine z_istore2 98 dX7_bump_97 (Nat.le_of_ble_eq_true rfl) rfl rfl ?_
    refine z_iload5 100 dX7_bump_98 rfl ?_
    refine z_iload3 101 dX7_bump_100 rfl ?_
    refine z_icmp_le 109 104 dX7_bump_101 (by decide) rfl (by omega) (by omega) (fun hz => absurd hz (by omega)) (fun h101 => ?_)
    refine z_iload5 106 dX7_bump_104 rfl ?_
    refine z_goto 110 dX7_bump_106 (by decide) ?_
    refine z_istore3 111 dX7_bump_110 (Nat.le_of_ble_eq_true rfl) rfl rfl ?_
    refine z_iinc4 114 dX7_bump_111 (Nat.le_of_ble_eq_true rfl) rfl rfl ?_
    refine z_goto 23 dX7_bump_114 (by decide) ?_
    exact k _ _ _ _ (by omega)
  · rw [if_neg hcy]
    refine z_iload5 87 dX7_bump_85 rfl ?_
    refine z_iload3 88 dX7_bump_87 rfl ?_
    refine z_icmp_le 96 91 dX7_bump_88 (by decide) rfl (by omega) (by omega) (fun h88 => ?_) (fun hz => absurd hz (by omega))
    refine z_iload2 97 dX7_bump_96 rfl ?_
    refine z_istore2 98 dX7_bump_97 (Nat.le_of_ble_eq_true rfl) rfl rfl ?_
    refine z_iload5 100 dX7_bump_98 rfl ?_
    refine z_iload3 101 dX7_bump_100 rfl ?_
    refine z_icmp_le 109 104 dX7_bump_101 (by decide) rfl (by omega) (by omega) (fun h101 => ?_) (fun hz => absurd hz (by omega))
    refine z_iload3 110 dX7_bump_109 rfl ?_
    refine z_istore3 111 dX7_bump_110 (Nat.le_of_ble_eq_true rfl) rfl rfl ?_
    refine z_iinc4 114 dX7_bump_111 (Nat.le_of_ble_eq_true rfl) rfl rfl ?_
    refine z_goto 23 dX7_bump_114 (by decide) ?_
    exact k _ _ _ _ hc
theorem lp_X7_bump {w : Int} (h : mCA sh R I L A) (hu : zuq A.1) (hw : 0 ≤ w ∧ w ≤ 1) : ∀ (m t : Nat) (a c : Int) (J : zI2) (z5 z6 : zV), t + m = 10 → mFo I J → -1 ≤ c ∧ c ≤ 5 → zE X mX7_bump 0 0 23 [zR 157, zI w, zI a, zI c, zI (t : Int), z5, z6] [] sh (mN J (I 158) (nvw (I 158))) L R (mOp sh I L R (zI (if w = 0 then (sbm A.1 m t a c).1 else (sbm A.1 m t a c).2)) A)
  | 0, t, a, c, J, z5, z6, ht, hJ, hc => by
    refine z_iload4 25 dX7_bump_23 rfl ?_
    refine z_bipush 27 dX7_bump_25 (by decide) rfl ?_
    refine z_icmp_ge 117 30 dX7_bump_27 (by decide) rfl (by omega) (by omega) (fun h27 => ?_) (fun hz => absurd hz (by omega))
    refine z_iload1 118 dX7_bump_117 rfl ?_
    refine z_if_ne 125 121 dX7_bump_118 (by decide) rfl (by omega) (fun h118 => ?_) (fun h118 => ?_)
    · refine z_iload3 126 dX7_bump_125 rfl ?_
      exact z_ireturn dX7_bump_126 rfl (mOp_fo h hJ (by first | (rw [if_pos (by omega)]; rfl) | (rw [if_neg (by omega)]; rfl)))
    · refine z_iload2 122 dX7_bump_121 rfl ?_
      refine z_goto 126 dX7_bump_122 (by decide) ?_
      exact z_ireturn dX7_bump_126 rfl (mOp_fo h hJ (by first | (rw [if_pos (by omega)]; rfl) | (rw [if_neg (by omega)]; rfl)))
  | m + 1, t, a, c, J, z5, z6, ht, hJ, hc => by
    obtain ⟨hM, hN, hHis, hKep, hTap, hShe⟩ := id h
    obtain ⟨⟨s0, s1, s2, s3, s4, s5, s6, s7, s8, s9, s10, s11, s12, s13, s14, s15⟩, r0, r1, r2, r3, r4, r5, r6, r7, r8, r9, r10, r11, r12, r13, r14⟩ := id hM
    obtain ⟨⟨hSr, hS7, hS8⟩, hQ⟩ := id hN
    have e6 := hQ.1.1
    have hn5 := hSr.1
    have hsr := scn_r (zup A.1 2 t 0) (A.1 0 6).toNat 0 0
    have kr : sbm A.1 (m + 1) t a c = if c < (scn (zup A.1 2 t 0) (A.1 0 6).toNat 0 0 : Int) then sbm A.1 m (t + 1) (t : Int) (scn (zup A.1 2 t 0) (A.1 0 6).toNat 0 0 : Int) else sbm A.1 m (t + 1) a c := rfl
    refine z_iload4 25 dX7_bump_23 rfl ?_
    refine z_bipush 27 dX7_bump_25 (by decide) rfl ?_
    refine z_icmp_ge 117 30 dX7_bump_27 (by decide) rfl (by omega) (by omega) (fun hz => absurd hz (by omega)) (fun h27 => ?_)
    refine z_iconst 31 dX7_bump_30 rfl ?_
    refine z_istore5 33 dX7_bump_31 (Nat.le_of_ble_eq_true rfl) rfl rfl ?_
    refine z_iconst 34 dX7_bump_33 rfl ?_
    refine z_istore6 36 dX7_bump_34 (Nat.le_of_ble_eq_true rfl) rfl rfl ?_
    refine lp_X7_bump36 h hu (by omega) (A.1 0 6).toNat 0 0 _ (by omega) (by omega) hJ (fun J' z6 hJ' => ?_)
    rw [kr]
    generalize scn (zup A.1 2 t 0) (A.1 0 6).toNat 0 0 = y at hsr ⊢
    exact tl_X7_bump85 (fun z5 z6 a' c' => lp_X7_bump h hu hw m (t + 1) a' c' J' z5 z6 (by omega) hJ') hc (by omega) (by omega)
theorem op_X7_bump {w : Int} (h : mCA sh R I L A) (hu : zuq A.1) (hw : -2147483648 ≤ w ∧ w ≤ 2147483647) : zE X mX7_bump 0 0 0 [zR 157, zI w, zX, zX, zX, zX, zX] [] sh I L R (mOp sh I L R (zI (oBump A w)) A) := by
  obtain ⟨hM, hN, hHis, hKep, hTap, hShe⟩ := id h
  obtain ⟨⟨s0, s1, s2, s3, s4, s5, s6, s7, s8, s9, s10, s11, s12, s13, s14, s15⟩, r0, r1, r2, r3, r4, r5, r6, r7, r8, r9, r10, r11, r12, r13, r14⟩ := id hM
  obtain ⟨⟨hSr, hS7, hS8⟩, hQ⟩ := id hN
  have e6 := hQ.1.1
  have hn5 := hSr.1
  have z1 := zwi_r w 0 1
  refine z_mN ?_
  refine z_iload1 1 dX7_bump_0 rfl ?_
  refine z_i2l 2 dX7_bump_1 (by omega) rfl ?_
  refine z_lconst0 3 dX7_bump_2 rfl ?_
  refine z_lconst1 4 dX7_bump_3 rfl ?_
  refine z_xS3 7 dX7_bump_4 lk_X7_bump_56 (ct_X7_in (by omega) (by omega) (by omega)) rfl (Nat.le_of_ble_eq_true rfl) (Nat.le_of_ble_eq_true rfl) rfl ?_
  refine z_if_ne 12 10 dX7_bump_7 (by decide) rfl (by omega) (fun h7 => ?_) (fun h7 => ?_)
  · have g7 := zwi_ne0 h7
    refine z_iconst 13 dX7_bump_12 rfl ?_
    refine z_istore2 14 dX7_bump_13 (Nat.le_of_ble_eq_true rfl) rfl rfl ?_
    refine z_iconst 15 dX7_bump_14 rfl ?_
    refine z_istore3 16 dX7_bump_15 (Nat.le_of_ble_eq_true rfl) rfl rfl ?_
    refine z_aload0 17 dX7_bump_16 rfl ?_
    refine z_xVv0 20 dX7_bump_17 lk_X7_bump_181 (fo_asides hM) rfl (Nat.le_of_ble_eq_true rfl) (Nat.le_of_ble_eq_true rfl) (by assumption) rfl rfl ?_
    refine z_iconst 21 dX7_bump_20 rfl ?_
    refine z_istore4 23 dX7_bump_21 (Nat.le_of_ble_eq_true rfl) rfl rfl ?_
    rw [show oBump A w = (if w = 0 then (sbm A.1 10 0 0 (-1)).1 else (sbm A.1 10 0 0 (-1)).2) by unfold oBump; rw [if_pos g7]]
    exact lp_X7_bump h hu g7 10 0 0 (-1) _ _ _ rfl (mFo_0 I) (by omega)
  · have g7 := zwi_eq0 h7
    refine z_iconst 11 dX7_bump_10 rfl ?_
    exact z_ireturn dX7_bump_11 rfl (mOp_sameN h (by unfold oBump; rw [if_neg (by omega)]))
/-! sheets -/
theorem ct_X7_why {q : Nat} {lane i n ln z : Int} (hM : zMs sh R) (hq : q < 4) (h9 : I 169 q = ln) (hl : ln = -1 ∨ (0 ≤ ln ∧ ln ≤ 3)) (h0 : 0 ≤ I 170 q ∧ I 170 q ≤ 24) (hz : ln = -1 ∨ I 170 q = z) (hla : 0 ≤ lane ∧ lane ≤ 3) (hi : -2147483648 ≤ i ∧ i ≤ 2147483647) (hn : -2147483648 ≤ n ∧ n ≤ 2147483647) : zE X mX7_why 0 0 0 [zR 157, zI (q : Int), zI lane, zI i, zI n] [] sh I L R (zEq [zI (sref ln z lane i n)] sh I L R) := by
  obtain ⟨⟨s0, s1, s2, s3, s4, s5, s6, s7, s8, s9, s10, s11, s12, s13, s14, s15⟩, r0, r1, r2, r3, r4, r5, r6, r7, r8, r9, r10, r11, r12, r13, r14⟩ := id hM
  have c1 := zcmr (i + n) (I 170 q)
  have c2 : 0 < zcmpL (i + n) (I 170 q) ↔ I 170 q < i + n := by unfold zcmpL; split <;> (try split) <;> omega
  refine z_aload0 1 dX7_why_0 rfl ?_
  refine z_getR 4 dX7_why_1 fl_RX7_43 (by assumption) (by assumption) rfl ?_
  refine z_iload1 5 dX7_why_4 rfl ?_
  refine z_ialdx 6 (q) dX7_why_5 (by assumption) (by omega) (by omega) (h9) rfl ?_
  refine z_if_ge 12 9 dX7_why_6 (by decide) rfl (by omega) (fun h6 => ?_) (fun h6 => ?_)
  · refine z_aload0 13 dX7_why_12 rfl ?_
    refine z_getR 16 dX7_why_13 fl_RX7_43 (by assumption) (by assumption) rfl ?_
    refine z_iload1 17 dX7_why_16 rfl ?_
    refine z_ialdx 18 (q) dX7_why_17 (by assumption) (by omega) (by omega) (h9) rfl ?_
    refine z_iload2 19 dX7_why_18 rfl ?_
    refine z_icmp_eq 25 22 dX7_why_19 (by decide) rfl (by omega) (by omega) (fun h19 => ?_) (fun h19 => ?_)
    · refine z_iload3 26 dX7_why_25 rfl ?_
      refine z_if_lt 51 29 dX7_why_26 (by decide) rfl (by omega) (fun h26 => ?_) (fun h26 => ?_)
      · refine z_bipush 53 dX7_why_51 (by decide) rfl ?_
        refine z_goto 57 dX7_why_53 (by decide) ?_
        exact z_ireturn dX7_why_57 rfl (⟨by unfold sref; rw [if_neg (by omega), if_pos (by omega)]; first | rw [if_pos (by omega)] | rw [if_neg (by omega)], rfl, rfl, rfl, rfl⟩)
      · refine z_iload4 31 dX7_why_29 rfl ?_
        refine z_if_lt 51 34 dX7_why_31 (by decide) rfl (by omega) (fun h31 => ?_) (fun h31 => ?_)
        · refine z_bipush 53 dX7_why_51 (by decide) rfl ?_
          refine z_goto 57 dX7_why_53 (by decide) ?_
          exact z_ireturn dX7_why_57 rfl (⟨by unfold sref; rw [if_neg (by omega), if_pos (by omega)]; first | rw [if_pos (by omega)] | rw [if_neg (by omega)], rfl, rfl, rfl, rfl⟩)
        · refine z_iload3 35 dX7_why_34 rfl ?_
          refine z_i2l 36 dX7_why_35 (by omega) rfl ?_
          refine z_iload4 38 dX7_why_36 rfl ?_
          refine z_i2l 39 dX7_why_38 (by omega) rfl ?_
          refine z_ladd 40 dX7_why_39 rfl ?_
          refine z_aload0 41 dX7_why_40 rfl ?_
          refine z_getR 44 dX7_why_41 fl_RX7_46 (by assumption) (by assumption) rfl ?_
          refine z_iload1 45 dX7_why_44 rfl ?_
          refine z_ialdN 46 (q) dX7_why_45 (by assumption) (by omega) (by omega) rfl ?_
          refine z_i2l 47 dX7_why_46 (by omega) rfl ?_
          refine z_lcmp 48 dX7_why_47 (by omega) (by omega) rfl ?_
          refine z_if_le 56 51 dX7_why_48 (by decide) rfl (by omega) (fun h48 => ?_) (fun h48 => ?_)
          · refine z_iconst 57 dX7_why_56 rfl ?_
            exact z_ireturn dX7_why_57 rfl (⟨by unfold sref; rw [if_neg (by omega), if_pos (by omega)]; first | rw [if_pos (by omega)] | rw [if_neg (by omega)], rfl, rfl, rfl, rfl⟩)
          · refine z_bipush 53 dX7_why_51 (by decide) rfl ?_
            refine z_goto 57 dX7_why_53 (by decide) ?_
            exact z_ireturn dX7_why_57 rfl (⟨by unfold sref; rw [if_neg (by omega), if_pos (by omega)]; first | rw [if_pos (by omega)] | rw [if_neg (by omega)], rfl, rfl, rfl, rfl⟩)
    · refine z_bipush 24 dX7_why_22 (by decide) rfl ?_
      exact z_ireturn dX7_why_24 rfl (⟨by unfold sref; rw [if_neg (by omega), if_neg (by omega)], rfl, rfl, rfl, rfl⟩)
  · refine z_bipush 11 dX7_why_9 (by decide) rfl ?_
    exact z_ireturn dX7_why_11 rfl (⟨by unfold sref; rw [if_pos (by omega)], rfl, rfl, rfl, rfl⟩)
theorem stell_s {f g w : Nat → Int} {o : Nat} : ∀ (n i t : Nat), (∀ j, i ≤ j → j < i + n → f (o + j) = g j) → stell f w n (o + i) t = stell g w n i t
  | 0, i, t, _ => rfl
  | n + 1, i, t, h => by
    unfold stell
    rw [h i (by omega) (by omega), show o + i + 1 = o + (i + 1) by omega, stell_s n (i + 1) (t + 1) (fun j a c => h j (by omega) (by omega))]
theorem lp_X7_isSo {r : Int} {t0 f0 n0 : Nat} {J : zI2} {B : Nat → Int} (hM : zMs sh R) (hB : ∀ j, j < 10 → J 159 j = B j ∧ -4 ≤ B j ∧ B j ≤ 30) (hL : ∀ j, j < 96 → -9223372036854775808 ≤ L 171 j ∧ L 171 j ≤ 9223372036854775807) (ht : t0 + n0 ≤ 10) (hf : f0 + n0 ≤ 96) : ∀ (m k : Nat) (b : Int), k + m = n0 → b = 0 ∨ b = 1 → zE X mX7_isSo 0 0 12 [zR 157, zI r, zI (t0 : Int), zI (f0 : Int), zI (n0 : Int), zI b, zI (k : Int)] [] sh J L R (zEq [zI (if b = 0 then 0 else stell (L 171) B m (f0 + k) (t0 + k))] sh J L R)
  | 0, k, b, hk, hb => by
    refine z_iload6 14 dX7_isSo_12 rfl ?_
    refine z_iload4 16 dX7_isSo_14 rfl ?_
    refine z_icmp_ge 60 19 dX7_isSo_16 (by decide) rfl (by omega) (by omega) (fun h16 => ?_) (fun hz => absurd hz (by omega))
    refine z_iload5 62 dX7_isSo_60 rfl ?_
    exact z_zreturn dX7_isSo_62 rfl (by omega) (⟨by rcases hb with rfl | rfl <;> rfl, rfl, rfl, rfl, rfl⟩)
  | m + 1, k, b, hk, hb => by
    obtain ⟨⟨s0, s1, s2, s3, s4, s5, s6, s7, s8, s9, s10, s11, s12, s13, s14, s15⟩, r0, r1, r2, r3, r4, r5, r6, r7, r8, r9, r10, r11, r12, r13, r14⟩ := id hM
    have h1 := hB (t0 + k) (by omega)
    have h2 := hL (f0 + k) (by omega)
    have c1 := zcmr (B (t0 + k)) (L 171 (f0 + k))
    have c2 : zcmpL (B (t0 + k)) (L 171 (f0 + k)) = 0 ↔ L 171 (f0 + k) = B (t0 + k) := by unfold zcmpL; split <;> (try split) <;> omega
    rcases hb with rfl | rfl
    · rw [if_pos rfl]
      have ih := lp_X7_isSo (r := r) hM hB hL ht hf m (k + 1) 0 (by omega) (Or.inl rfl)
      rw [if_pos rfl] at ih
      refine z_iload6 14 dX7_isSo_12 rfl ?_
      refine z_iload4 16 dX7_isSo_14 rfl ?_
      refine z_icmp_ge 60 19 dX7_isSo_16 (by decide) rfl (by omega) (by omega) (fun hz => absurd hz (by omega)) (fun h16 => ?_)
      refine z_iload5 21 dX7_isSo_19 rfl ?_
      refine z_if_eq 51 24 dX7_isSo_21 (by decide) rfl (by omega) (fun h21 => ?_) (fun hz => absurd hz (by omega))
      refine z_iconst 52 dX7_isSo_51 rfl ?_
      refine z_istore5 54 dX7_isSo_52 (Nat.le_of_ble_eq_true rfl) rfl rfl ?_
      refine z_iinc6 57 dX7_isSo_54 (Nat.le_of_ble_eq_true rfl) rfl rfl ?_
      refine z_goto 12 dX7_isSo_57 (by decide) ?_
      exact ih
    · rw [if_neg (by decide)]
      have ih0 := lp_X7_isSo (r := r) hM hB hL ht hf m (k + 1) 0 (by omega) (Or.inl rfl)
      rw [if_pos rfl] at ih0
      have ih1 := lp_X7_isSo (r := r) hM hB hL ht hf m (k + 1) 1 (by omega) (Or.inr rfl)
      rw [if_neg (by decide)] at ih1
      refine z_iload6 14 dX7_isSo_12 rfl ?_
      refine z_iload4 16 dX7_isSo_14 rfl ?_
      refine z_icmp_ge 60 19 dX7_isSo_16 (by decide) rfl (by omega) (by omega) (fun hz => absurd hz (by omega)) (fun h16 => ?_)
      refine z_iload5 21 dX7_isSo_19 rfl ?_
      refine z_if_eq 51 24 dX7_isSo_21 (by decide) rfl (by omega) (fun hz => absurd hz (by omega)) (fun h21 => ?_)
      refine z_aload0 25 dX7_isSo_24 rfl ?_
      refine z_getR 28 dX7_isSo_25 fl_RX7_13 (by assumption) (by assumption) rfl ?_
      refine z_iload2 29 dX7_isSo_28 rfl ?_
      refine z_iload6 31 dX7_isSo_29 rfl ?_
      refine z_iadd 32 dX7_isSo_31 rfl ?_
      refine z_ialdx 33 (t0 + k) dX7_isSo_32 (by assumption) (by omega) (by omega) (h1.1) rfl ?_
      refine z_i2l 34 dX7_isSo_33 (by omega) rfl ?_
      refine z_aload0 35 dX7_isSo_34 rfl ?_
      refine z_getR 38 dX7_isSo_35 fl_RX7_49 (by assumption) (by assumption) rfl ?_
      refine z_iload3 39 dX7_isSo_38 rfl ?_
      refine z_iload6 41 dX7_isSo_39 rfl ?_
      refine z_iadd 42 dX7_isSo_41 rfl ?_
      refine z_laldN 43 (f0 + k) dX7_isSo_42 (by assumption) (by omega) (by omega) rfl ?_
      refine z_lcmp 44 dX7_isSo_43 (by omega) (by omega) rfl ?_
      refine z_if_ne 51 47 dX7_isSo_44 (by decide) rfl (by omega) (fun h44 => ?_) (fun h44 => ?_)
      · have g44 := fun e => h44 (c2.mpr e)
        refine z_iconst 52 dX7_isSo_51 rfl ?_
        refine z_istore5 54 dX7_isSo_52 (Nat.le_of_ble_eq_true rfl) rfl rfl ?_
        refine z_iinc6 57 dX7_isSo_54 (Nat.le_of_ble_eq_true rfl) rfl rfl ?_
        refine z_goto 12 dX7_isSo_57 (by decide) ?_
        first | (rw [show stell (L 171) B (m + 1) (f0 + k) (t0 + k) = 0 by rw [stell, if_neg g44]]; exact ih0) | (rw [show stell (L 171) B (m + 1) (f0 + k) (t0 + k) = stell (L 171) B m (f0 + (k + 1)) (t0 + (k + 1)) by rw [stell, if_pos g44]; rfl]; exact ih1)
      · have g44 := c2.mp h44
        refine z_iconst 48 dX7_isSo_47 rfl ?_
        refine z_goto 52 dX7_isSo_48 (by decide) ?_
        refine z_istore5 54 dX7_isSo_52 (Nat.le_of_ble_eq_true rfl) rfl rfl ?_
        refine z_iinc6 57 dX7_isSo_54 (Nat.le_of_ble_eq_true rfl) rfl rfl ?_
        refine z_goto 12 dX7_isSo_57 (by decide) ?_
        first | (rw [show stell (L 171) B (m + 1) (f0 + k) (t0 + k) = 0 by rw [stell, if_neg g44]]; exact ih0) | (rw [show stell (L 171) B (m + 1) (f0 + k) (t0 + k) = stell (L 171) B m (f0 + (k + 1)) (t0 + (k + 1)) by rw [stell, if_pos g44]; rfl]; exact ih1)
theorem fo_isSo {J : zI2} {S : zT} {r t f n : Nat} (hM : zMs sh R) (hJ : mFo I J) (h5 : r < 5) (hS : zSr S) (hu : zuq S) (hr : (r : Int) < S 0 6) (hL : ∀ j, j < 96 → -9223372036854775808 ≤ L 171 j ∧ L 171 j ≤ 9223372036854775807) (ht : t + n ≤ 10) (hf : f + n ≤ 96) : ∃ J' : zI2, mFo I J' ∧ zE X mX7_isSo 0 0 0 [zR 157, zI (r : Int), zI (t : Int), zI (f : Int), zI (n : Int), zX, zX] [] sh (mN J (I 158) S) L R (zEq [zI (stell (L 171) (sfw S r) n f t)] sh (mN J' (I 158) (nvw (I 158))) L R) := by
  obtain ⟨B', hJ2, hB, kw⟩ := fo_would (X := X) (L := L) (S := S) (r := r) hM hJ h5 hS hu hr
  refine ⟨_, hJ2, ?_⟩
  have s0 := hM.1.1
  have kl := lp_X7_isSo (X := X) (L := L) (r := (r : Int)) (t0 := t) (f0 := f) (n0 := n) (J := mN (zrow J 159 B') (I 158) (nvw (I 158))) (B := sfw S r) hM (fun j hj => ⟨by rw [mN_o _ _ _ (by decide), zrow_at, hB j hj], sfw_r S r j hj⟩) hL ht hf n 0 1 (by omega) (Or.inr rfl)
  rw [if_neg (by decide)] at kl
  refine z_iconst 1 dX7_isSo_0 rfl ?_
  refine z_istore5 3 dX7_isSo_1 (Nat.le_of_ble_eq_true rfl) rfl rfl ?_
  refine z_aload0 4 dX7_isSo_3 rfl ?_
  refine z_iload1 5 dX7_isSo_4 rfl ?_
  refine z_xV1 8 dX7_isSo_5 lk_X7_isSo_184 (kw) rfl (Nat.le_of_ble_eq_true rfl) (Nat.le_of_ble_eq_true rfl) (by assumption) rfl rfl ?_
  refine z_pop 9 dX7_isSo_8 rfl rfl ?_
  refine z_iconst 10 dX7_isSo_9 rfl ?_
  refine z_istore6 12 dX7_isSo_10 (Nat.le_of_ble_eq_true rfl) rfl rfl ?_
  exact kl
end MODK
