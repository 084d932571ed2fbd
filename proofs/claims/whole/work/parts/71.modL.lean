section MODL
variable {X : zXs} {sh : zH} {I L : zI2} {R : zR2} {A : zA}
theorem mShe_L (h : mShe I L A.2.2.2.2) : ∀ j, j < 96 → -9223372036854775808 ≤ L 171 j ∧ L 171 j ≤ 9223372036854775807 := fun j hj => by
  have h1 := (h (j / 24) (by omega)).2.2.2 (j % 24) (by omega)
  rw [show 24 * (j / 24) + j % 24 = j by omega] at h1
  rw [h1.1]
  exact h1.2
theorem lp_X7_clocked {r t q p u f e : Nat} {l w z8 : Int} (h : mCA sh R I L A) (hu : zuq A.1) (hr : (r : Int) < A.1 0 6) (hq : q < 4) (hp : p + u ≤ 24) (ht : t + u ≤ 10) (hw : (w = 0 ∧ f = 3 ∧ e = 5) ∨ (w = 1 ∧ f = 4 ∧ e = 21)) : ∀ (m k : Nat) (x : Int) (J : zI2), k + m = e → mFo I J → (-2147483648 ≤ x ∧ x ≤ 2147483647) → (w = 1 → 1 ≤ k) → zE X mX7_clocked 0 0 90 [zR 157, zI (r : Int), zI (t : Int), zI (q : Int), zI l, zI (p : Int), zI (u : Int), zI w, zI z8, zI x, zI (k : Int)] [] sh (mN J (I 158) (nvw (I 158))) L R (mOp sh I L R (zI (skc f A.1 r t u p (A.2.2.2.2 q).2.2 m k x)) A)
  | 0, k, x, J, hk, hJ, hx, hk1 => by
    refine z_iload10 92 dX7_clocked_90 rfl ?_
    refine z_iload7 94 dX7_clocked_92 rfl ?_
    refine z_if_ne 101 97 dX7_clocked_94 (by decide) rfl (by omega) (fun h94 => ?_) (fun h94 => ?_)
    · refine z_bipush 103 dX7_clocked_101 (by decide) rfl ?_
      refine z_icmp_ge 152 106 dX7_clocked_103 (by decide) rfl (by omega) (by omega) (fun h103 => ?_) (fun hz => absurd hz (by omega))
      refine z_iload9 154 dX7_clocked_152 rfl ?_
      exact z_ireturn dX7_clocked_154 rfl (mOp_fo h hJ rfl)
    · refine z_iconst 98 dX7_clocked_97 rfl ?_
      refine z_goto 103 dX7_clocked_98 (by decide) ?_
      refine z_icmp_ge 152 106 dX7_clocked_103 (by decide) rfl (by omega) (by omega) (fun h103 => ?_) (fun hz => absurd hz (by omega))
      refine z_iload9 154 dX7_clocked_152 rfl ?_
      exact z_ireturn dX7_clocked_154 rfl (mOp_fo h hJ rfl)
  | m + 1, k, x, J, hk, hJ, hx, hk1 => by
    obtain ⟨hM, hN, hHis, hKep, hTap, hShe⟩ := id h
    obtain ⟨⟨s0, s1, s2, s3, s4, s5, s6, s7, s8, s9, s10, s11, s12, s13, s14, s15⟩, r0, r1, r2, r3, r4, r5, r6, r7, r8, r9, r10, r11, r12, r13, r14⟩ := id hM
    obtain ⟨⟨hSr, hS7, hS8⟩, hQ⟩ := id hN
    have e6 := hQ.1.1
    have hn5 := hSr.1
    have hSi : zSr (zup (nvw (I 158)) f r (k : Int)) := by
      rcases hw with ⟨-, rfl, rfl⟩ | ⟨h1, rfl, rfl⟩
      · exact zSr_up3 hSr r (by omega)
      · exact zSr_up4 hSr r (by omega)
    have hf6 : f ≠ 0 ∧ f ≠ 6 := by omega
    obtain ⟨J', hJ2, kw⟩ := fo_isSo (X := X) (L := L) (S := zup (nvw (I 158)) f r (k : Int)) (r := r) (t := t) (f := 24 * q + p) (n := u) hM hJ (by omega) hSi (zuq_up (zuq_q hQ hu) hf6.1 hf6.2 _ _) (by rw [zup_row _ _ (Ne.symm hf6.1)]; omega) (mShe_L hShe) ht (by omega)
    rw [stell_s (g := (A.2.2.2.2 q).2.2) u p t (fun j h1 h2 => ((hShe q hq).2.2.2 j (by omega)).1), sfw_c (zQe_up hQ (i := f) (j := r) (by omega) _) (by rw [zup_row _ _ (Ne.symm hf6.1)]; omega)] at kw
    have hst := stell_r (A.2.2.2.2 q).2.2 (sfw (zup A.1 f r (k : Int)) r) u p t
    have hz := zor_0 hx
    have hz2 := zor_r x (zshl 1 (k : Int))
    have ki : zE X mX7_tells 0 0 0 [zR 157, zI (r : Int), zI w, zI (k : Int)] [] sh (mN J (I 158) (nvw (I 158))) L R (zEq [] sh (mN J (I 158) (zup (nvw (I 158)) f r (k : Int))) L R) := by
      rcases hw with ⟨rfl, rfl, -⟩ | ⟨rfl, rfl, -⟩
      · exact ct_X7_tells (w := 0) (k := 3) hM (by omega) (by decide) rfl
      · exact ct_X7_tells (w := 1) (k := 4) hM (by omega) (by decide) rfl
    have ec : ((24 * q + p : Nat) : Int) = 24 * (q : Int) + (p : Int) := by omega
    rw [ec] at kw
    have kr : skc f A.1 r t u p (A.2.2.2.2 q).2.2 (m + 1) k x = skc f A.1 r t u p (A.2.2.2.2 q).2.2 m (k + 1) (if stell (A.2.2.2.2 q).2.2 (sfw (zup A.1 f r (k : Int)) r) u p t = 1 then zor x (zshl 1 (k : Int)) else x) := rfl
    rw [kr]
    generalize stell (A.2.2.2.2 q).2.2 (sfw (zup A.1 f r (k : Int)) r) u p t = b at kw hst ⊢
    refine z_iload10 92 dX7_clocked_90 rfl ?_
    refine z_iload7 94 dX7_clocked_92 rfl ?_
    refine z_if_ne 101 97 dX7_clocked_94 (by decide) rfl (by omega) (fun h94 => ?_) (fun h94 => ?_)
    · refine z_bipush 103 dX7_clocked_101 (by decide) rfl ?_
      refine z_icmp_ge 152 106 dX7_clocked_103 (by decide) rfl (by omega) (by omega) (fun hz => absurd hz (by omega)) (fun h103 => ?_)
      refine z_aload0 107 dX7_clocked_106 rfl ?_
      refine z_iload1 108 dX7_clocked_107 rfl ?_
      refine z_iload7 110 dX7_clocked_108 rfl ?_
      refine z_iload10 112 dX7_clocked_110 rfl ?_
      refine z_xVv3 115 dX7_clocked_112 lk_X7_clocked_70 (ki) rfl (Nat.le_of_ble_eq_true rfl) (Nat.le_of_ble_eq_true rfl) (by assumption) rfl rfl ?_
      refine z_iload9 117 dX7_clocked_115 rfl ?_
      refine z_aload0 118 dX7_clocked_117 rfl ?_
      refine z_iload1 119 dX7_clocked_118 rfl ?_
      refine z_iload2 120 dX7_clocked_119 rfl ?_
      refine z_bipush 122 dX7_clocked_120 (by decide) rfl ?_
      refine z_iload3 123 dX7_clocked_122 rfl ?_
      refine z_imul 124 dX7_clocked_123 rfl ?_
      refine z_iload5 126 dX7_clocked_124 rfl ?_
      refine z_iadd 127 dX7_clocked_126 rfl ?_
      refine z_iload6 129 dX7_clocked_127 rfl ?_
      refine z_xV4 132 dX7_clocked_129 lk_X7_clocked_214 (kw) rfl (Nat.le_of_ble_eq_true rfl) (Nat.le_of_ble_eq_true rfl) (by assumption) rfl rfl ?_
      refine z_if_eq 142 135 dX7_clocked_132 (by decide) rfl (by omega) (fun h132 => ?_) (fun h132 => ?_)
      · refine z_iconst 143 dX7_clocked_142 rfl ?_
        refine z_ior 144 dX7_clocked_143 rfl ?_
        refine z_istore9 146 dX7_clocked_144 (Nat.le_of_ble_eq_true rfl) rfl rfl ?_
        refine z_iinc10 149 dX7_clocked_146 (Nat.le_of_ble_eq_true rfl) rfl rfl ?_
        refine z_goto 90 dX7_clocked_149 (by decide) ?_
        first | (rw [if_neg (by omega), hz]; exact lp_X7_clocked h hu hr hq hp ht hw m (k + 1) x _ (by omega) hJ2 hx (by omega)) | (rw [if_pos (by omega)]; exact lp_X7_clocked h hu hr hq hp ht hw m (k + 1) _ _ (by omega) hJ2 hz2 (by omega))
      · refine z_iconst 136 dX7_clocked_135 rfl ?_
        refine z_iload10 138 dX7_clocked_136 rfl ?_
        refine z_ishl 139 dX7_clocked_138 rfl ?_
        refine z_goto 143 dX7_clocked_139 (by decide) ?_
        refine z_ior 144 dX7_clocked_143 rfl ?_
        refine z_istore9 146 dX7_clocked_144 (Nat.le_of_ble_eq_true rfl) rfl rfl ?_
        refine z_iinc10 149 dX7_clocked_146 (Nat.le_of_ble_eq_true rfl) rfl rfl ?_
        refine z_goto 90 dX7_clocked_149 (by decide) ?_
        first | (rw [if_neg (by omega), hz]; exact lp_X7_clocked h hu hr hq hp ht hw m (k + 1) x _ (by omega) hJ2 hx (by omega)) | (rw [if_pos (by omega)]; exact lp_X7_clocked h hu hr hq hp ht hw m (k + 1) _ _ (by omega) hJ2 hz2 (by omega))
    · refine z_iconst 98 dX7_clocked_97 rfl ?_
      refine z_goto 103 dX7_clocked_98 (by decide) ?_
      refine z_icmp_ge 152 106 dX7_clocked_103 (by decide) rfl (by omega) (by omega) (fun hz => absurd hz (by omega)) (fun h103 => ?_)
      refine z_aload0 107 dX7_clocked_106 rfl ?_
      refine z_iload1 108 dX7_clocked_107 rfl ?_
      refine z_iload7 110 dX7_clocked_108 rfl ?_
      refine z_iload10 112 dX7_clocked_110 rfl ?_
      refine z_xVv3 115 dX7_clocked_112 lk_X7_clocked_70 (ki) rfl (Nat.le_of_ble_eq_true rfl) (Nat.le_of_ble_eq_true rfl) (by assumption) rfl rfl ?_
      refine z_iload9 117 dX7_clocked_115 rfl ?_
      refine z_aload0 118 dX7_clocked_117 rfl ?_
      refine z_iload1 119 dX7_clocked_118 rfl ?_
      refine z_iload2 120 dX7_clocked_119 rfl ?_
      refine z_bipush 122 dX7_clocked_120 (by decide) rfl ?_
      refine z_iload3 123 dX7_clocked_122 rfl ?_
      refine z_imul 124 dX7_clocked_123 rfl ?_
      refine z_iload5 126 dX7_clocked_124 rfl ?_
      refine z_iadd 127 dX7_clocked_126 rfl ?_
      refine z_iload6 129 dX7_clocked_127 rfl ?_
      refine z_xV4 132 dX7_clocked_129 lk_X7_clocked_214 (kw) rfl (Nat.le_of_ble_eq_true rfl) (Nat.le_of_ble_eq_true rfl) (by assumption) rfl rfl ?_
      refine z_if_eq 142 135 dX7_clocked_132 (by decide) rfl (by omega) (fun h132 => ?_) (fun h132 => ?_)
      · refine z_iconst 143 dX7_clocked_142 rfl ?_
        refine z_ior 144 dX7_clocked_143 rfl ?_
        refine z_istore9 146 dX7_clocked_144 (Nat.le_of_ble_eq_true rfl) rfl rfl ?_
        refine z_iinc10 149 dX7_clocked_146 (Nat.le_of_ble_eq_true rfl) rfl rfl ?_
        refine z_goto 90 dX7_clocked_149 (by decide) ?_
        first | (rw [if_neg (by omega), hz]; exact lp_X7_clocked h hu hr hq hp ht hw m (k + 1) x _ (by omega) hJ2 hx (by omega)) | (rw [if_pos (by omega)]; exact lp_X7_clocked h hu hr hq hp ht hw m (k + 1) _ _ (by omega) hJ2 hz2 (by omega))
      · refine z_iconst 136 dX7_clocked_135 rfl ?_
        refine z_iload10 138 dX7_clocked_136 rfl ?_
        refine z_ishl 139 dX7_clocked_138 rfl ?_
        refine z_goto 143 dX7_clocked_139 (by decide) ?_
        refine z_ior 144 dX7_clocked_143 rfl ?_
        refine z_istore9 146 dX7_clocked_144 (Nat.le_of_ble_eq_true rfl) rfl rfl ?_
        refine z_iinc10 149 dX7_clocked_146 (Nat.le_of_ble_eq_true rfl) rfl rfl ?_
        refine z_goto 90 dX7_clocked_149 (by decide) ?_
        first | (rw [if_neg (by omega), hz]; exact lp_X7_clocked h hu hr hq hp ht hw m (k + 1) x _ (by omega) hJ2 hx (by omega)) | (rw [if_pos (by omega)]; exact lp_X7_clocked h hu hr hq hp ht hw m (k + 1) _ _ (by omega) hJ2 hz2 (by omega))
theorem op_X7_clocked {r t s l i n w : Int} (h : mCA sh R I L A) (hu : zuq A.1) (hr : -2147483648 ≤ r ∧ r ≤ 2147483647) (ht : -2147483648 ≤ t ∧ t ≤ 2147483647) (hs : -2147483648 ≤ s ∧ s ≤ 2147483647) (hl : -2147483648 ≤ l ∧ l ≤ 2147483647) (hi : -2147483648 ≤ i ∧ i ≤ 2147483647) (hn : -2147483648 ≤ n ∧ n ≤ 2147483647) (hw : -2147483648 ≤ w ∧ w ≤ 2147483647) (hz : ∀ q, q < 4 → 0 ≤ (A.2.2.2.2 q).2.1 ∧ (A.2.2.2.2 q).2.1 ≤ 24) : zE X mX7_clocked 0 0 0 [zR 157, zI r, zI t, zI s, zI l, zI i, zI n, zI w, zX, zX, zX] [] sh I L R (mOp sh I L R (zI (oClocked A r t s l i n w)) A) := by
  obtain ⟨hM, hN, hHis, hKep, hTap, hShe⟩ := id h
  obtain ⟨⟨s0, s1, s2, s3, s4, s5, s6, s7, s8, s9, s10, s11, s12, s13, s14, s15⟩, r0, r1, r2, r3, r4, r5, r6, r7, r8, r9, r10, r11, r12, r13, r14⟩ := id hM
  obtain ⟨⟨hSr, hS7, hS8⟩, hQ⟩ := id hN
  have e6 := hQ.1.1
  have hn5 := hSr.1
  have z0 := zwi_r r 0 (nvw (I 158) 0 6 - 1)
  have z5 := zwi_r t 0 9
  have z1 := zwi_r n 1 (10 - t)
  have z2 := zwi_r s 0 3
  have z3 := zwi_r l 0 3
  have z4 := zwi_r w 0 1
  refine z_mN ?_
  refine z_aload0 1 dX7_clocked_0 rfl ?_
  refine z_iload1 2 dX7_clocked_1 rfl ?_
  refine z_xV1 5 dX7_clocked_2 lk_X7_clocked_94 (ct_X7_isRider hM hn5 hr) rfl (Nat.le_of_ble_eq_true rfl) (Nat.le_of_ble_eq_true rfl) (by assumption) rfl rfl ?_
  refine z_if_eq 56 8 dX7_clocked_5 (by decide) rfl (by omega) (fun h5 => ?_) (fun h5 => ?_)
  · have g5 := zwi_eq0 h5
    refine z_iconst 57 dX7_clocked_56 rfl ?_
    exact z_ireturn dX7_clocked_57 rfl (mOp_sameN h (by unfold oClocked; rw [if_neg (by omega)]))
  · have g5 := zwi_ne0 h5
    refine z_iload2 9 dX7_clocked_8 rfl ?_
    refine z_xS1 12 dX7_clocked_9 lk_X7_clocked_100 (ct_X7_isTurn ht) rfl (Nat.le_of_ble_eq_true rfl) (Nat.le_of_ble_eq_true rfl) rfl ?_
    refine z_if_eq 56 15 dX7_clocked_12 (by decide) rfl (by omega) (fun h12 => ?_) (fun h12 => ?_)
    · have g12 := zwi_eq0 h12
      refine z_iconst 57 dX7_clocked_56 rfl ?_
      exact z_ireturn dX7_clocked_57 rfl (mOp_sameN h (by unfold oClocked; rw [if_neg (by omega)]))
    · have g12 := zwi_ne0 h12
      refine z_iload3 16 dX7_clocked_15 rfl ?_
      refine z_xS1 19 dX7_clocked_16 lk_X7_clocked_204 (ct_X7_isSheet hs) rfl (Nat.le_of_ble_eq_true rfl) (Nat.le_of_ble_eq_true rfl) rfl ?_
      refine z_if_eq 56 22 dX7_clocked_19 (by decide) rfl (by omega) (fun h19 => ?_) (fun h19 => ?_)
      · have g19 := zwi_eq0 h19
        refine z_iconst 57 dX7_clocked_56 rfl ?_
        exact z_ireturn dX7_clocked_57 rfl (mOp_sameN h (by unfold oClocked; rw [if_neg (by omega)]))
      · have g19 := zwi_ne0 h19
        refine z_iload4 24 dX7_clocked_22 rfl ?_
        refine z_xS1 27 dX7_clocked_24 lk_X7_clocked_207 (ct_X7_isLane hl) rfl (Nat.le_of_ble_eq_true rfl) (Nat.le_of_ble_eq_true rfl) rfl ?_
        refine z_if_eq 56 30 dX7_clocked_27 (by decide) rfl (by omega) (fun h27 => ?_) (fun h27 => ?_)
        · have g27 := zwi_eq0 h27
          refine z_iconst 57 dX7_clocked_56 rfl ?_
          exact z_ireturn dX7_clocked_57 rfl (mOp_sameN h (by unfold oClocked; rw [if_neg (by omega)]))
        · have g27 := zwi_ne0 h27
          refine z_iload6 32 dX7_clocked_30 rfl ?_
          refine z_i2l 33 dX7_clocked_32 (by omega) rfl ?_
          refine z_lconst1 34 dX7_clocked_33 rfl ?_
          refine z_bipush 36 dX7_clocked_34 (by decide) rfl ?_
          refine z_iload2 37 dX7_clocked_36 rfl ?_
          refine z_isub 38 dX7_clocked_37 rfl ?_
          refine z_i2l 39 dX7_clocked_38 (by omega) rfl ?_
          refine z_xS3 42 dX7_clocked_39 lk_X7_clocked_56 (ct_X7_in (by omega) (by omega) (by omega)) rfl (Nat.le_of_ble_eq_true rfl) (Nat.le_of_ble_eq_true rfl) rfl ?_
          refine z_if_eq 56 45 dX7_clocked_42 (by decide) rfl (by omega) (fun h42 => ?_) (fun h42 => ?_)
          · have g42 := zwi_eq0 h42
            refine z_iconst 57 dX7_clocked_56 rfl ?_
            exact z_ireturn dX7_clocked_57 rfl (mOp_sameN h (by unfold oClocked; rw [if_neg (by omega)]))
          · have g42 := zwi_ne0 h42
            refine z_iload7 47 dX7_clocked_45 rfl ?_
            refine z_i2l 48 dX7_clocked_47 (by omega) rfl ?_
            refine z_lconst0 49 dX7_clocked_48 rfl ?_
            refine z_lconst1 50 dX7_clocked_49 rfl ?_
            refine z_xS3 53 dX7_clocked_50 lk_X7_clocked_56 (ct_X7_in (by omega) (by omega) (by omega)) rfl (Nat.le_of_ble_eq_true rfl) (Nat.le_of_ble_eq_true rfl) rfl ?_
            refine z_if_ne 58 56 dX7_clocked_53 (by decide) rfl (by omega) (fun h53 => ?_) (fun h53 => ?_)
            · have g53 := zwi_ne0 h53
              obtain ⟨q, rfl⟩ : ∃ q : Nat, s = (q : Int) := ⟨s.toNat, by omega⟩
              obtain ⟨v, rfl⟩ : ∃ q : Nat, r = (q : Int) := ⟨r.toNat, by omega⟩
              obtain ⟨u, rfl⟩ : ∃ q : Nat, n = (q : Int) := ⟨n.toNat, by omega⟩
              obtain ⟨d, rfl⟩ : ∃ q : Nat, t = (q : Int) := ⟨t.toNat, by omega⟩
              have hcs := hShe q (by omega)
              have hzq := hz q (by omega)
              have kw := ct_X7_why (X := X) (I := I) (L := L) (R := R) (q := q) (lane := l) (i := i) (n := (u : Int)) hM (by omega) hcs.1.1 hcs.1.2 hcs.2.2.1 hcs.2.1 g27 hi (by omega)
              have eo : oClocked A v d q l i u w = (if sref (A.2.2.2.2 q).1 (A.2.2.2.2 q).2.1 l i u = 0 then (if w = 0 then skc 3 A.1 v d u i.toNat (A.2.2.2.2 q).2.2 5 0 0 else skc 4 A.1 v d u i.toNat (A.2.2.2.2 q).2.2 20 1 0) else sref (A.2.2.2.2 q).1 (A.2.2.2.2 q).2.1 l i u) := by unfold oClocked; rw [if_pos (by omega), Int.toNat_natCast, Int.toNat_natCast, Int.toNat_natCast, Int.toNat_natCast]
              rw [eo]
              have hr0 : sref (A.2.2.2.2 q).1 (A.2.2.2.2 q).2.1 l i u = 0 → 0 ≤ i ∧ i + u ≤ (A.2.2.2.2 q).2.1 := fun e => by
                unfold sref at e
                repeat' split at e
                all_goals omega
              have hr1 : -100 ≤ sref (A.2.2.2.2 q).1 (A.2.2.2.2 q).2.1 l i u ∧ sref (A.2.2.2.2 q).1 (A.2.2.2.2 q).2.1 l i u ≤ 0 := by
                unfold sref
                repeat' split
                all_goals omega
              generalize sref (A.2.2.2.2 q).1 (A.2.2.2.2 q).2.1 l i u = g at kw hr0 hr1 ⊢
              rw [mN_self]
              refine z_aload0 59 dX7_clocked_58 rfl ?_
              refine z_iload3 60 dX7_clocked_59 rfl ?_
              refine z_iload4 62 dX7_clocked_60 rfl ?_
              refine z_iload5 64 dX7_clocked_62 rfl ?_
              refine z_iload6 66 dX7_clocked_64 rfl ?_
              refine z_xV4 69 dX7_clocked_66 lk_X7_clocked_210 (kw) rfl (Nat.le_of_ble_eq_true rfl) (Nat.le_of_ble_eq_true rfl) (by assumption) rfl rfl ?_
              refine z_istore8 71 dX7_clocked_69 (Nat.le_of_ble_eq_true rfl) rfl rfl ?_
              refine z_iload8 73 dX7_clocked_71 rfl ?_
              refine z_if_ge 79 76 dX7_clocked_73 (by decide) rfl (by omega) (fun h73 => ?_) (fun h73 => ?_)
              · have hi2 := hr0 (by omega)
                obtain ⟨p, rfl⟩ : ∃ p : Nat, i = (p : Int) := ⟨i.toNat, by omega⟩
                have hg0 : g = 0 := by omega
                subst hg0
                rw [if_pos rfl, Int.toNat_natCast]
                refine z_mN ?_
                refine z_iconst 80 dX7_clocked_79 rfl ?_
                refine z_istore9 82 dX7_clocked_80 (Nat.le_of_ble_eq_true rfl) rfl rfl ?_
                refine z_aload0 83 dX7_clocked_82 rfl ?_
                refine z_xVv0 86 dX7_clocked_83 lk_X7_clocked_181 (fo_asides hM) rfl (Nat.le_of_ble_eq_true rfl) (Nat.le_of_ble_eq_true rfl) (by assumption) rfl rfl ?_
                refine z_iload7 88 dX7_clocked_86 rfl ?_
                refine z_istore10 90 dX7_clocked_88 (Nat.le_of_ble_eq_true rfl) rfl rfl ?_
                by_cases hw0 : w = 0
                · rw [if_pos hw0]
                  have k := lp_X7_clocked (X := X) (r := v) (t := d) (q := q) (p := p) (u := u) (f := 3) (e := 5) (l := l) (w := w) (z8 := 0) h hu (by omega) (by omega) (by omega) (by omega) (Or.inl ⟨hw0, rfl, rfl⟩) 5 0 0 _ rfl (mFo_0 I) (by omega) (by omega)
                  rw [hw0] at k ⊢
                  exact k
                · rw [if_neg hw0]
                  have hw1 : w = 1 := by omega
                  have k := lp_X7_clocked (X := X) (r := v) (t := d) (q := q) (p := p) (u := u) (f := 4) (e := 21) (l := l) (w := w) (z8 := 0) h hu (by omega) (by omega) (by omega) (by omega) (Or.inr ⟨hw1, rfl, rfl⟩) 20 1 0 _ rfl (mFo_0 I) (by omega) (by omega)
                  rw [hw1] at k ⊢
                  exact k
              · refine z_iload8 78 dX7_clocked_76 rfl ?_
                exact z_ireturn dX7_clocked_78 rfl (mOp_same h (by rw [if_neg (by omega)]))
            · have g53 := zwi_eq0 h53
              refine z_iconst 57 dX7_clocked_56 rfl ?_
              exact z_ireturn dX7_clocked_57 rfl (mOp_sameN h (by unfold oClocked; rw [if_neg (by omega)]))
theorem mShe_set {I J L K : zI2} {s : Nat → Int × (Int × (Nat → Int))} {k : Nat} {v : Int × (Int × (Nat → Int))} (hJ : ∀ q, q < 4 → q ≠ k → J 169 q = I 169 q ∧ J 170 q = I 170 q) (hK : ∀ q j, q < 4 → q ≠ k → j < 24 → K 171 (24 * q + j) = L 171 (24 * q + j)) (hn : (J 169 k = v.1 ∧ (v.1 = -1 ∨ (0 ≤ v.1 ∧ v.1 ≤ 3))) ∧ (v.1 = -1 ∨ J 170 k = v.2.1) ∧ (0 ≤ J 170 k ∧ J 170 k ≤ 24) ∧ ∀ j, j < 24 → K 171 (24 * k + j) = v.2.2 j ∧ -9223372036854775808 ≤ v.2.2 j ∧ v.2.2 j ≤ 9223372036854775807) (c : mShe I L s) : mShe J K (ssh s k v) := by
  intro q hq
  unfold ssh
  by_cases h : q = k
  · subst h
    rw [if_pos rfl]
    exact hn
  · rw [if_neg h]
    have c1 := c q hq
    have e1 := hJ q hq h
    rw [e1.1, e1.2]
    exact ⟨c1.1, c1.2.1, c1.2.2.1, fun j hj => by rw [hK q j hq h hj]; exact c1.2.2.2 j hj⟩
theorem mOp_she {J K : zI2} {k : Nat} {v : Int × (Int × (Nat → Int))} {x y : zV} (h : mCA sh R I L A) (hJ : ∀ a, ¬ (a = 169 ∨ a = 170) → ¬ mscr a → J a = I a) (h8 : J 158 = I 158) (hK : ∀ a, ¬ (a = 171 ∨ a = 172) → K a = L a) (hs : mShe J K (ssh A.2.2.2.2 k v)) (e : x = y) : mOp sh I L R y (sset A k v) [x] sh J K R := by
  subst e
  obtain ⟨h1, h2, h3, h4, h5, h6⟩ := h
  have f : ∀ a, ¬ (a = 169 ∨ a = 170) → ¬ (a = 158 ∨ a = 159 ∨ a = 161 ∨ a = 162 ∨ a = 164 ∨ a = 165 ∨ a = 166 ∨ a = 167) → J a = I a := hJ
  exact ⟨rfl, rfl, rfl, ⟨h1, by rw [h8]; exact h2, mHis_of (by rw [f 157 (by omega) (by omega)]) (f 163 (by omega) (by omega)) h3, mKep_of (by rw [f 157 (by omega) (by omega)]) (by rw [f 157 (by omega) (by omega)]) (f 168 (by omega) (by omega)) h4, mTap_of (by rw [f 157 (by omega) (by omega)]) (f 160 (by omega) (by omega)) h5, hs⟩, fun a ha => ⟨f a (by omega) (by omega), hK a (by omega)⟩⟩
theorem lp_X7_film {r l z6 : Int} {n q p : Nat} {J : zI2} {B : Nat → Int} (hM : zMs sh R) (hq : q < 4) (hB : ∀ j, j < 10 → J 159 j = B j ∧ -4 ≤ B j ∧ B j ≤ 30) (hn : n ≤ 10) (hp : p + n ≤ 24) : ∀ (m k : Nat), k + m = n → zE X mX7_film 0 0 70 [zR 157, zI r, zI (n : Int), zI (q : Int), zI l, zI (p : Int), zI z6, zI (k : Int)] [] sh J (zrow L 171 (fln (L 171) B (24 * q + p) k)) R (zEq [zI (n : Int)] sh J (zrow L 171 (fln (L 171) B (24 * q + p) n)) R)
  | 0, k, hk => by
    have e : k = n := by omega
    subst e
    refine z_iload7 72 dX7_film_70 rfl ?_
    refine z_iload2 73 dX7_film_72 rfl ?_
    refine z_icmp_ge 105 76 dX7_film_73 (by decide) rfl (by omega) (by omega) (fun h73 => ?_) (fun hz => absurd hz (by omega))
    refine z_iload2 106 dX7_film_105 rfl ?_
    exact z_ireturn dX7_film_106 rfl (⟨rfl, rfl, rfl, rfl, rfl⟩)
  | m + 1, k, hk => by
    obtain ⟨⟨s0, s1, s2, s3, s4, s5, s6, s7, s8, s9, s10, s11, s12, s13, s14, s15⟩, r0, r1, r2, r3, r4, r5, r6, r7, r8, r9, r10, r11, r12, r13, r14⟩ := id hM
    have h1 := hB k (by omega)
    refine z_iload7 72 dX7_film_70 rfl ?_
    refine z_iload2 73 dX7_film_72 rfl ?_
    refine z_icmp_ge 105 76 dX7_film_73 (by decide) rfl (by omega) (by omega) (fun hz => absurd hz (by omega)) (fun h73 => ?_)
    refine z_aload0 77 dX7_film_76 rfl ?_
    refine z_getR 80 dX7_film_77 fl_RX7_49 (by assumption) (by assumption) rfl ?_
    refine z_bipush 82 dX7_film_80 (by decide) rfl ?_
    refine z_iload3 83 dX7_film_82 rfl ?_
    refine z_imul 84 dX7_film_83 rfl ?_
    refine z_iload5 86 dX7_film_84 rfl ?_
    refine z_iadd 87 dX7_film_86 rfl ?_
    refine z_iload7 89 dX7_film_87 rfl ?_
    refine z_iadd 90 dX7_film_89 rfl ?_
    refine z_aload0 91 dX7_film_90 rfl ?_
    refine z_getR 94 dX7_film_91 fl_RX7_13 (by assumption) (by assumption) rfl ?_
    refine z_iload7 96 dX7_film_94 rfl ?_
    refine z_ialdx 97 (k) dX7_film_96 (by assumption) (by omega) (by omega) (h1.1) rfl ?_
    refine z_i2l 98 dX7_film_97 (by omega) rfl ?_
    refine z_lastx 99 (24 * q + p + k) dX7_film_98 (by assumption) (by omega) (by omega) (zrow_up _ _ _ _ _) rfl ?_
    refine z_iinc7 102 dX7_film_99 (Nat.le_of_ble_eq_true rfl) rfl rfl ?_
    refine z_goto 70 dX7_film_102 (by decide) ?_
    rw [fln_s]
    exact lp_X7_film hM hq hB hn hp m (k + 1) (by omega)
theorem op_X7_film {r n s l i : Int} (h : mCA sh R I L A) (hu : zuq A.1) (hr : -2147483648 ≤ r ∧ r ≤ 2147483647) (hn : -2147483648 ≤ n ∧ n ≤ 2147483647) (hs : -2147483648 ≤ s ∧ s ≤ 2147483647) (hl : -2147483648 ≤ l ∧ l ≤ 2147483647) (hi : -2147483648 ≤ i ∧ i ≤ 2147483647) (hz : ∀ q, q < 4 → 0 ≤ (A.2.2.2.2 q).2.1 ∧ (A.2.2.2.2 q).2.1 ≤ 24) : zE X mX7_film 0 0 0 [zR 157, zI r, zI n, zI s, zI l, zI i, zX, zX] [] sh I L R (mOp sh I L R (zI (oFilm A r n s l i).1) (oFilm A r n s l i).2) := by
  obtain ⟨hM, hN, hHis, hKep, hTap, hShe⟩ := id h
  obtain ⟨⟨s0, s1, s2, s3, s4, s5, s6, s7, s8, s9, s10, s11, s12, s13, s14, s15⟩, r0, r1, r2, r3, r4, r5, r6, r7, r8, r9, r10, r11, r12, r13, r14⟩ := id hM
  obtain ⟨⟨hSr, hS7, hS8⟩, hQ⟩ := id hN
  have e6 := hQ.1.1
  have hn5 := hSr.1
  have z0 := zwi_r r 0 (nvw (I 158) 0 6 - 1)
  have z1 := zwi_r n 1 10
  have z2 := zwi_r s 0 3
  have z3 := zwi_r l 0 3
  refine z_mN ?_
  refine z_aload0 1 dX7_film_0 rfl ?_
  refine z_iload1 2 dX7_film_1 rfl ?_
  refine z_xV1 5 dX7_film_2 lk_X7_film_94 (ct_X7_isRider hM hn5 hr) rfl (Nat.le_of_ble_eq_true rfl) (Nat.le_of_ble_eq_true rfl) (by assumption) rfl rfl ?_
  refine z_if_eq 35 8 dX7_film_5 (by decide) rfl (by omega) (fun h5 => ?_) (fun h5 => ?_)
  · have g5 := zwi_eq0 h5
    refine z_iconst 36 dX7_film_35 rfl ?_
    exact z_ireturn dX7_film_36 rfl ((by rw [show oFilm A r n s l i = (-1, A) by unfold oFilm; rw [if_neg (by omega)]]; exact mOp_sameN h rfl))
  · have g5 := zwi_ne0 h5
    refine z_iload2 9 dX7_film_8 rfl ?_
    refine z_i2l 10 dX7_film_9 (by omega) rfl ?_
    refine z_lconst1 11 dX7_film_10 rfl ?_
    refine z_ldc2 14 dX7_film_11 kl_RX7_194 rfl ?_
    refine z_xS3 17 dX7_film_14 lk_X7_film_56 (ct_X7_in (by omega) (by omega) (by omega)) rfl (Nat.le_of_ble_eq_true rfl) (Nat.le_of_ble_eq_true rfl) rfl ?_
    refine z_if_eq 35 20 dX7_film_17 (by decide) rfl (by omega) (fun h17 => ?_) (fun h17 => ?_)
    · have g17 := zwi_eq0 h17
      refine z_iconst 36 dX7_film_35 rfl ?_
      exact z_ireturn dX7_film_36 rfl ((by rw [show oFilm A r n s l i = (-1, A) by unfold oFilm; rw [if_neg (by omega)]]; exact mOp_sameN h rfl))
    · have g17 := zwi_ne0 h17
      refine z_iload3 21 dX7_film_20 rfl ?_
      refine z_xS1 24 dX7_film_21 lk_X7_film_204 (ct_X7_isSheet hs) rfl (Nat.le_of_ble_eq_true rfl) (Nat.le_of_ble_eq_true rfl) rfl ?_
      refine z_if_eq 35 27 dX7_film_24 (by decide) rfl (by omega) (fun h24 => ?_) (fun h24 => ?_)
      · have g24 := zwi_eq0 h24
        refine z_iconst 36 dX7_film_35 rfl ?_
        exact z_ireturn dX7_film_36 rfl ((by rw [show oFilm A r n s l i = (-1, A) by unfold oFilm; rw [if_neg (by omega)]]; exact mOp_sameN h rfl))
      · have g24 := zwi_ne0 h24
        refine z_iload4 29 dX7_film_27 rfl ?_
        refine z_xS1 32 dX7_film_29 lk_X7_film_207 (ct_X7_isLane hl) rfl (Nat.le_of_ble_eq_true rfl) (Nat.le_of_ble_eq_true rfl) rfl ?_
        refine z_if_ne 37 35 dX7_film_32 (by decide) rfl (by omega) (fun h32 => ?_) (fun h32 => ?_)
        · have g32 := zwi_ne0 h32
          obtain ⟨q, rfl⟩ : ∃ q : Nat, s = (q : Int) := ⟨s.toNat, by omega⟩
          obtain ⟨v, rfl⟩ : ∃ q : Nat, r = (q : Int) := ⟨r.toNat, by omega⟩
          obtain ⟨u, rfl⟩ : ∃ q : Nat, n = (q : Int) := ⟨n.toNat, by omega⟩
          have hcs := hShe q (by omega)
          have hzq := hz q (by omega)
          have kw := ct_X7_why (X := X) (I := I) (L := L) (R := R) (q := q) (lane := l) (i := i) (n := (u : Int)) hM (by omega) hcs.1.1 hcs.1.2 hcs.2.2.1 hcs.2.1 g32 hi (by omega)
          have eo : oFilm A v u q l i = (if sref (A.2.2.2.2 q).1 (A.2.2.2.2 q).2.1 l i u = 0 then ((u : Int), sset A q ((A.2.2.2.2 q).1, (A.2.2.2.2 q).2.1, fln (A.2.2.2.2 q).2.2 (sfw A.1 v) i.toNat u)) else (sref (A.2.2.2.2 q).1 (A.2.2.2.2 q).2.1 l i u, A)) := by unfold oFilm; rw [if_pos (by omega), Int.toNat_natCast, Int.toNat_natCast, Int.toNat_natCast]
          rw [eo]
          have hr0 : sref (A.2.2.2.2 q).1 (A.2.2.2.2 q).2.1 l i u = 0 → 0 ≤ i ∧ i + u ≤ (A.2.2.2.2 q).2.1 := fun e => by
            unfold sref at e
            repeat' split at e
            all_goals omega
          have hr1 : -100 ≤ sref (A.2.2.2.2 q).1 (A.2.2.2.2 q).2.1 l i u ∧ sref (A.2.2.2.2 q).1 (A.2.2.2.2 q).2.1 l i u ≤ 0 := by
            unfold sref
            repeat' split
            all_goals omega
          generalize sref (A.2.2.2.2 q).1 (A.2.2.2.2 q).2.1 l i u = g at kw hr0 hr1 ⊢
          rw [mN_self]
          refine z_aload0 38 dX7_film_37 rfl ?_
          refine z_iload3 39 dX7_film_38 rfl ?_
          refine z_iload4 41 dX7_film_39 rfl ?_
          refine z_iload5 43 dX7_film_41 rfl ?_
          refine z_iload2 44 dX7_film_43 rfl ?_
          refine z_xV4 47 dX7_film_44 lk_X7_film_210 (kw) rfl (Nat.le_of_ble_eq_true rfl) (Nat.le_of_ble_eq_true rfl) (by assumption) rfl rfl ?_
          refine z_istore6 49 dX7_film_47 (Nat.le_of_ble_eq_true rfl) rfl rfl ?_
          refine z_iload6 51 dX7_film_49 rfl ?_
          refine z_if_ge 57 54 dX7_film_51 (by decide) rfl (by omega) (fun h51 => ?_) (fun h51 => ?_)
          · have hi2 := hr0 (by omega)
            obtain ⟨p, rfl⟩ : ∃ p : Nat, i = (p : Int) := ⟨i.toNat, by omega⟩
            have hg0 : g = 0 := by omega
            subst hg0
            rw [if_pos rfl, Int.toNat_natCast]
            refine z_mN ?_
            obtain ⟨B', hJ2, hB, kwo⟩ := fo_would (X := X) (L := L) (S := nvw (I 158)) (r := v) hM (mFo_0 I) (by omega) hSr (zuq_q hQ hu) (by omega)
            have hF : ∀ j, j < 10 → mN (zrow (zrow I 164 (npk (I 164) (nvw (I 158)))) 159 B') (I 158) (nvw (I 158)) 159 j = sfw A.1 v j ∧ -4 ≤ sfw A.1 v j ∧ sfw A.1 v j ≤ 30 := fun j hj => ⟨by rw [mN_o _ _ _ (by decide), zrow_at, hB j hj, sfw_c hQ (by omega)], sfw_r A.1 v j hj⟩
            refine z_aload0 58 dX7_film_57 rfl ?_
            refine z_xVv0 61 dX7_film_58 lk_X7_film_181 (fo_asides hM) rfl (Nat.le_of_ble_eq_true rfl) (Nat.le_of_ble_eq_true rfl) (by assumption) rfl rfl ?_
            refine z_aload0 62 dX7_film_61 rfl ?_
            refine z_iload1 63 dX7_film_62 rfl ?_
            refine z_xV1 66 dX7_film_63 lk_X7_film_184 (kwo) rfl (Nat.le_of_ble_eq_true rfl) (Nat.le_of_ble_eq_true rfl) (by assumption) rfl rfl ?_
            refine z_pop 67 dX7_film_66 rfl rfl ?_
            refine z_iconst 68 dX7_film_67 rfl ?_
            refine z_istore7 70 dX7_film_68 (Nat.le_of_ble_eq_true rfl) rfl rfl ?_
            have k := lp_X7_film (X := X) (L := L) (r := (v : Int)) (l := l) (z6 := 0) (n := u) (q := q) (p := p) hM (by omega) hF (by omega) (by omega) u 0 (by omega)
            rw [fln_0, zrow_self] at k
            refine zE_mono (fun r' sh' I' L' R' hz => ?_) k
            obtain ⟨y1, y2, y3, y4, y5⟩ := hz
            subst y1 y2 y3 y4 y5
            have e8 : mN (zrow (zrow I 164 (npk (I 164) (nvw (I 158)))) 159 B') (I 158) (nvw (I 158)) 158 = I 158 := by
              funext j
              rw [mN_at, npk_nvw]
            have hJ : ∀ a, ¬ mscr a → mN (zrow (zrow I 164 (npk (I 164) (nvw (I 158)))) 159 B') (I 158) (nvw (I 158)) a = I a := fun a ha => by rw [mN_o _ _ _ (fun z => ha (Or.inl z))]; exact hJ2.1 a ha
            have e9 := hJ 169 (by unfold mscr; omega)
            have e0 := hJ 170 (by unfold mscr; omega)
            refine mOp_she h (fun a _ ha => hJ a ha) e8 (fun a ha => zrow_oR _ _ (by omega)) (mShe_set (I := I) (L := L) (fun q' _ _ => by rw [e9, e0]; exact ⟨rfl, rfl⟩) (fun q' j h1 h2 hj => ?_) ⟨by rw [e9]; exact hcs.1, by rw [e0]; exact hcs.2.1, by rw [e0]; exact hcs.2.2.1, fun j hj => ?_⟩ hShe) rfl
            · rw [zrow_at]
              unfold fln
              rw [if_neg (by omega)]
            · rw [zrow_at]
              have hj2 := hcs.2.2.2 j hj
              show fln (L 171) (sfw A.1 v) (24 * q + p) u (24 * q + j) = fln (A.2.2.2.2 q).2.2 (sfw A.1 v) p u j ∧ _ ≤ fln (A.2.2.2.2 q).2.2 (sfw A.1 v) p u j ∧ fln (A.2.2.2.2 q).2.2 (sfw A.1 v) p u j ≤ _
              unfold fln
              by_cases hc : p ≤ j ∧ j < p + u
              · have hs := sfw_r A.1 v (j - p) (by omega)
                rw [if_pos (by omega), if_pos hc, show 24 * q + j - (24 * q + p) = j - p by omega]
                exact ⟨rfl, by omega, by omega⟩
              · rw [if_neg (by omega), if_neg hc]
                exact hj2
          · refine z_iload6 56 dX7_film_54 rfl ?_
            exact z_ireturn dX7_film_56 rfl ((by rw [if_neg (by omega)]; exact mOp_same h rfl))
        · have g32 := zwi_eq0 h32
          refine z_iconst 36 dX7_film_35 rfl ?_
          exact z_ireturn dX7_film_36 rfl ((by rw [show oFilm A r n s l i = (-1, A) by unfold oFilm; rw [if_neg (by omega)]]; exact mOp_sameN h rfl))
end MODL
