section MODP
variable {X : zXs} {sh : zH} {I L : zI2} {R : zR2} {A : zA}
theorem lp_X7_order14 {k z3 : Int} {Q : zQ} (h : mCA sh R I L A) (F : Nat → Int) (n' : Nat) (kk : ∀ r : Int, zE X mX7_order 0 0 53 [zR 157, zI k, zI (n' : Int), zI z3, zI r, zX, zX, zX] [] sh (mN (zrow I 165 F) (I 158) (nvw (I 158))) L R Q) : ∀ (m r : Nat) (f : Nat → Int) (n : Nat), r + m = (A.1 0 6).toNat → n ≤ r → obg (nvw (I 158) 6) m r f n = (F, n') → zE X mX7_order 0 0 14 [zR 157, zI k, zI (n : Int), zI z3, zI (r : Int), zX, zX, zX] [] sh (mN (zrow I 165 f) (I 158) (nvw (I 158))) L R Q
  | 0, r, f, n, hr, hn, e => by
    obtain ⟨hM, hN, hHis, hKep, hTap, hShe⟩ := id h
    obtain ⟨⟨s0, s1, s2, s3, s4, s5, s6, s7, s8, s9, s10, s11, s12, s13, s14, s15⟩, r0, r1, r2, r3, r4, r5, r6, r7, r8, r9, r10, r11, r12, r13, r14⟩ := id hM
    obtain ⟨⟨hSr, hS7, hS8⟩, hQ⟩ := id hN
    have e6 := hQ.1.1
    have hn5 := hSr.1
    obtain ⟨rfl, rfl⟩ := Prod.mk.inj (show (f, n) = (F, n') from e)
    refine z_iload4 16 dX7_order_14 rfl ?_
    refine z_aload0 17 dX7_order_16 rfl ?_
    refine z_getR 20 dX7_order_17 fl_RX7_7 (by assumption) (by assumption) rfl ?_
    refine z_iconst 21 dX7_order_20 rfl ?_
    refine z_ialdx 22 (0) dX7_order_21 (by assumption) (by omega) (by omega) ((mN_0 _ _ _).trans e6) rfl ?_
    refine z_icmp_ge 53 25 dX7_order_22 (by decide) rfl (by omega) (by omega) (fun h22 => ?_) (fun hz => absurd hz (by omega))
    exact kk _
  | m + 1, r, f, n, hr, hn, e => by
    obtain ⟨hM, hN, hHis, hKep, hTap, hShe⟩ := id h
    obtain ⟨⟨s0, s1, s2, s3, s4, s5, s6, s7, s8, s9, s10, s11, s12, s13, s14, s15⟩, r0, r1, r2, r3, r4, r5, r6, r7, r8, r9, r10, r11, r12, r13, r14⟩ := id hM
    obtain ⟨⟨hSr, hS7, hS8⟩, hQ⟩ := id hN
    have e6 := hQ.1.1
    have hn5 := hSr.1
    have hp := hSr.2.2.2.2.2.2 r (by omega)
    unfold obg at e
    refine z_iload4 16 dX7_order_14 rfl ?_
    refine z_aload0 17 dX7_order_16 rfl ?_
    refine z_getR 20 dX7_order_17 fl_RX7_7 (by assumption) (by assumption) rfl ?_
    refine z_iconst 21 dX7_order_20 rfl ?_
    refine z_ialdx 22 (0) dX7_order_21 (by assumption) (by omega) (by omega) ((mN_0 _ _ _).trans e6) rfl ?_
    refine z_icmp_ge 53 25 dX7_order_22 (by decide) rfl (by omega) (by omega) (fun hz => absurd hz (by omega)) (fun h22 => ?_)
    refine z_aload0 26 dX7_order_25 rfl ?_
    refine z_iload4 28 dX7_order_26 rfl ?_
    refine z_xV1 31 dX7_order_28 lk_X7_order_66 (ct_X7_where hM (by omega)) rfl (Nat.le_of_ble_eq_true rfl) (Nat.le_of_ble_eq_true rfl) (by assumption) rfl rfl ?_
    refine z_bipush 33 dX7_order_31 (by decide) rfl ?_
    refine z_icmp_ne 47 36 dX7_order_33 (by decide) rfl (by omega) (by omega) (fun h33 => ?_) (fun h33 => ?_)
    · refine z_iinc4 50 dX7_order_47 (Nat.le_of_ble_eq_true rfl) rfl rfl ?_
      refine z_goto 14 dX7_order_50 (by decide) ?_
      first | (rw [if_pos (by omega)] at e; exact lp_X7_order14 h F n' kk m (r + 1) _ (n + 1) (by omega) (by omega) e) | (rw [if_neg (by omega)] at e; exact lp_X7_order14 h F n' kk m (r + 1) _ n (by omega) (by omega) e)
    · refine z_aload0 37 dX7_order_36 rfl ?_
      refine z_getR 40 dX7_order_37 fl_RX7_31 (by assumption) (by assumption) rfl ?_
      refine z_iload2 41 dX7_order_40 rfl ?_
      refine z_iload4 43 dX7_order_41 rfl ?_
      refine z_iastx 44 (n) dX7_order_43 (by assumption) (by omega) (by omega) ((mN_upo _ _ _ (by decide) _ _).trans (congrArg (fun J => mN J _ _) (zrow_up _ _ _ _ _))) rfl ?_
      refine z_iinc2 47 dX7_order_44 (Nat.le_of_ble_eq_true rfl) rfl rfl ?_
      refine z_iinc4 50 dX7_order_47 (Nat.le_of_ble_eq_true rfl) rfl rfl ?_
      refine z_goto 14 dX7_order_50 (by decide) ?_
      first | (rw [if_pos (by omega)] at e; exact lp_X7_order14 h F n' kk m (r + 1) _ (n + 1) (by omega) (by omega) e) | (rw [if_neg (by omega)] at e; exact lp_X7_order14 h F n' kk m (r + 1) _ n (by omega) (by omega) e)
theorem lp_X7_order56 {k : Int} {m : Nat} {J : zI2} {Q : zQ} (hm : m ≤ 5) (kk : ∀ r : Int, zE X mX7_order 0 0 72 [zR 157, zI k, zI (m : Int), zI ((m ^ m : Nat) : Int), zI r, zX, zX, zX] [] sh J L R Q) : ∀ (c i : Nat), i + c = m → zE X mX7_order 0 0 56 [zR 157, zI k, zI (m : Int), zI ((m ^ i : Nat) : Int), zI (i : Int), zX, zX, zX] [] sh J L R Q
  | 0, i, h => by
    have e : i = m := by omega
    subst e
    refine z_iload4 58 dX7_order_56 rfl ?_
    refine z_iload2 59 dX7_order_58 rfl ?_
    refine z_icmp_ge 72 62 dX7_order_59 (by decide) rfl (by omega) (by omega) (fun h59 => ?_) (fun hz => absurd hz (by omega))
    exact kk _
  | c + 1, i, h => by
    have e : ((m ^ i : Nat) : Int) * (m : Int) = ((m ^ (i + 1) : Nat) : Int) := by rw [Nat.pow_succ, Int.natCast_mul]
    refine z_iload4 58 dX7_order_56 rfl ?_
    refine z_iload2 59 dX7_order_58 rfl ?_
    refine z_icmp_ge 72 62 dX7_order_59 (by decide) rfl (by omega) (by omega) (fun hz => absurd hz (by omega)) (fun h59 => ?_)
    refine z_iload3 63 dX7_order_62 rfl ?_
    refine z_iload2 64 dX7_order_63 rfl ?_
    refine z_imul 65 dX7_order_64 rfl ?_
    rw [e]
    refine z_istore3 66 dX7_order_65 (Nat.le_of_ble_eq_true rfl) rfl rfl ?_
    refine z_iinc4 69 dX7_order_66 (Nat.le_of_ble_eq_true rfl) rfl rfl ?_
    refine z_goto 56 dX7_order_69 (by decide) ?_
    exact lp_X7_order56 hm kk c (i + 1) (by omega)
/-- the memory in the loop over numbers: tops, the order told, the best -/
def mOr (I J : zI2) (T O B : Nat → Int) : Prop := mFo I J ∧ J 165 = T ∧ J 166 = O ∧ J 167 = B
theorem mOr_b {I J : zI2} {T O B : Nat → Int} (h : mOr I J T O B) (W : Nat → Int) : mOr I (zrow J 159 W) T O B := ⟨mFo_b h.1 W, by rw [zrow_oR _ _ (by decide)]; exact h.2.1, by rw [zrow_oR _ _ (by decide)]; exact h.2.2.1, by rw [zrow_oR _ _ (by decide)]; exact h.2.2.2⟩
theorem lp_X7_order101 {k z3 z4 : Int} {z7 : zV} {m x : Nat} {T O B tp : Nat → Int} {Q : zQ} (hM : zMs sh R) (hm : m ≤ 5) (F : zT) (kk : ∀ (J' : zI2) (z6 : Int) , mOr I J' T O B → zE X mX7_order 0 0 125 [zR 157, zI k, zI (m : Int), zI z3, zI z4, zI (x : Int), zI z6, z7] [] sh (mN J' (I 158) F) L R Q) : ∀ (l : List Nat) (t : Nat) (J : zI2) (S : zT), t + l.length = m → mOr I J T O B → zSr S → zuq S → (∀ i (hi : i < l.length), O (t + i) = tp l[i]) → (∀ i ∈ l, 0 ≤ tp i ∧ tp i < S 0 6 ∧ S 6 (tp i).toNat = 30) → (∀ i ∈ l, ∀ j ∈ l, i ≠ j → tp i ≠ tp j) → nodupB l = true → osq tp l S = F → zE X mX7_order 0 0 101 [zR 157, zI k, zI (m : Int), zI z3, zI z4, zI (x : Int), zI (t : Int), z7] [] sh (mN J (I 158) S) L R Q
  | [], t, J, S, ht, hJ, hS, hu, hO, h30, hne, hnd, hF => by
    have e : osq tp [] S = S := rfl
    rw [e] at hF
    subst hF
    simp only [List.length_nil] at ht
    refine z_iload6 103 dX7_order_101 rfl ?_
    refine z_iload2 104 dX7_order_103 rfl ?_
    refine z_icmp_ge 125 107 dX7_order_104 (by decide) rfl (by omega) (by omega) (fun h104 => ?_) (fun hz => absurd hz (by omega))
    exact kk J _ hJ
  | i :: l, t, J, S, ht, hJ, hS, hu, hO, h30, hne, hnd, hF => by
    obtain ⟨⟨s0, s1, s2, s3, s4, s5, s6, s7, s8, s9, s10, s11, s12, s13, s14, s15⟩, r0, r1, r2, r3, r4, r5, r6, r7, r8, r9, r10, r11, r12, r13, r14⟩ := id hM
    simp only [List.length_cons] at ht
    have h0 := hO 0 (by simp)
    simp only [Nat.add_zero, List.getElem_cons_zero] at h0
    have hi := h30 i (by simp)
    obtain ⟨q, hq⟩ : ∃ q : Nat, tp i = (q : Int) := ⟨(tp i).toNat, by omega⟩
    have hS6 := hS.1
    rw [hq, Int.toNat_natCast] at hi
    have hOt : mN J (I 158) S 166 t = (q : Int) := by rw [mN_o _ _ _ (by decide), hJ.2.2.1, h0, hq]
    obtain ⟨B', hB, kr⟩ := cx_rides (X := X) (J := J) (L := L) (R := R) (N := I 158) (S := S) (r := q) hM (by omega) hS hu
    rw [show zup S 6 q 30 = S by rw [← hi.2.2]; exact zup_self _ _ _] at kr
    have hnd2 : (∀ j ∈ l, i ≠ j) ∧ nodupB l = true := by
      unfold nodupB at hnd
      rw [Bool.and_eq_true, List.all_eq_true] at hnd
      exact ⟨fun j hj => of_decide_eq_true (hnd.1 j hj), hnd.2⟩
    have ih := lp_X7_order101 hM hm F kk l (t + 1) (zrow J 159 B') (send S q) (by omega) (mOr_b hJ B') (send_sr hS (by omega)) (zuq_send hS hu (by omega) hi.2.2) (fun j hj => by
      have := hO (j + 1) (by simp; omega)
      simp only [List.getElem_cons_succ] at this
      rw [show t + 1 + j = t + (j + 1) by omega]
      exact this) (fun j hj => by
      have h1 := h30 j (by simp [hj])
      have h2 := hne i (by simp) j (by simp [hj]) (hnd2.1 j hj)
      refine ⟨h1.1, by rw [send_06 _ _ 6 (by decide)]; exact h1.2.1, send_30 (by omega) h1.2.2⟩) (fun a ha b hb hab => hne a (by simp [ha]) b (by simp [hb]) hab) hnd2.2 (by rw [← hF]; show _ = osq tp l (send S (tp i).toNat); rw [hq, Int.toNat_natCast])
    refine z_iload6 103 dX7_order_101 rfl ?_
    refine z_iload2 104 dX7_order_103 rfl ?_
    refine z_icmp_ge 125 107 dX7_order_104 (by decide) rfl (by omega) (by omega) (fun hz => absurd hz (by omega)) (fun h104 => ?_)
    refine z_aload0 108 dX7_order_107 rfl ?_
    refine z_aload0 109 dX7_order_108 rfl ?_
    refine z_getR 112 dX7_order_109 fl_RX7_34 (by assumption) (by assumption) rfl ?_
    refine z_iload6 114 dX7_order_112 rfl ?_
    refine z_ialdx 115 (t) dX7_order_114 (by assumption) (by omega) (by omega) (hOt) rfl ?_
    refine z_xV1 118 dX7_order_115 lk_X7_order_163 (kr) rfl (Nat.le_of_ble_eq_true rfl) (Nat.le_of_ble_eq_true rfl) (by assumption) rfl rfl ?_
    refine z_pop 119 dX7_order_118 rfl rfl ?_
    refine z_iinc6 122 dX7_order_119 (Nat.le_of_ble_eq_true rfl) rfl rfl ?_
    refine z_goto 101 dX7_order_122 (by decide) ?_
    exact ih
theorem lp_X7_order141 {k z3 own most : Int} {m x : Nat} {T O B : Nat → Int} {Q : zQ} (hM : zMs sh R) (hm : m ≤ 5) (ho : own > most) (hr : -5 ≤ most ∧ own ≤ 5) (kk : ∀ (J' : zI2) (z7 : Int), mOr I J' T O (fln B O 0 m) → zE X mX7_order 0 0 174 [zR 157, zI k, zI (m : Int), zI z3, zI most, zI (x : Int), zI own, zI z7] [] sh (mN J' (I 158) (nvw (I 158))) L R Q) : ∀ (c t : Nat) (J : zI2), t + c = m → mOr I J T O (fln B O 0 t) → zE X mX7_order 0 0 141 [zR 157, zI k, zI (m : Int), zI z3, zI most, zI (x : Int), zI own, zI (t : Int)] [] sh (mN J (I 158) (nvw (I 158))) L R Q
  | 0, t, J, ht, hJ => by
    have e : t = m := by omega
    subst e
    refine z_iload7 143 dX7_order_141 rfl ?_
    refine z_iload2 144 dX7_order_143 rfl ?_
    refine z_icmp_ge 174 147 dX7_order_144 (by decide) rfl (by omega) (by omega) (fun h144 => ?_) (fun hz => absurd hz (by omega))
    exact kk J _ hJ
  | c + 1, t, J, ht, hJ => by
    obtain ⟨⟨s0, s1, s2, s3, s4, s5, s6, s7, s8, s9, s10, s11, s12, s13, s14, s15⟩, r0, r1, r2, r3, r4, r5, r6, r7, r8, r9, r10, r11, r12, r13, r14⟩ := id hM
    have hOt : mN J (I 158) (nvw (I 158)) 166 t = O t := by rw [mN_o _ _ _ (by decide), hJ.2.2.1]
    have hJ2 : mOr I (zup J 167 t (O t)) T O (fln B O 0 (t + 1)) := by
      refine ⟨⟨fun a ha => ?_, ?_⟩, ?_, ?_, ?_⟩
      · rw [zup_row _ _ (fun z => ha (by unfold mscr; omega))]
        exact hJ.1.1 a ha
      · rw [zup_row _ _ (by decide)]; exact hJ.1.2
      · rw [zup_row _ _ (by decide)]; exact hJ.2.1
      · rw [zup_row _ _ (by decide)]; exact hJ.2.2.1
      · have ef := fln_s B O 0 t
        rw [Nat.zero_add] at ef
        rw [← ef, ← hJ.2.2.2]
        funext j
        unfold zup
        by_cases hj : j = t
        · rw [if_pos ⟨rfl, hj⟩, if_pos hj]
        · rw [if_neg (fun z => hj z.2), if_neg hj]
    refine z_iload7 143 dX7_order_141 rfl ?_
    refine z_iload2 144 dX7_order_143 rfl ?_
    refine z_icmp_ge 174 147 dX7_order_144 (by decide) rfl (by omega) (by omega) (fun hz => absurd hz (by omega)) (fun h144 => ?_)
    refine z_iload6 149 dX7_order_147 rfl ?_
    refine z_iload4 151 dX7_order_149 rfl ?_
    refine z_icmp_le 174 154 dX7_order_151 (by decide) rfl (by omega) (by omega) (fun hz => absurd hz (by omega)) (fun h151 => ?_)
    refine z_aload0 155 dX7_order_154 rfl ?_
    refine z_getR 158 dX7_order_155 fl_RX7_37 (by assumption) (by assumption) rfl ?_
    refine z_iload7 160 dX7_order_158 rfl ?_
    refine z_aload0 161 dX7_order_160 rfl ?_
    refine z_getR 164 dX7_order_161 fl_RX7_34 (by assumption) (by assumption) rfl ?_
    refine z_iload7 166 dX7_order_164 rfl ?_
    refine z_ialdx 167 (t) dX7_order_166 (by assumption) (by omega) (by omega) (hOt) rfl ?_
    refine z_iastx 168 (t) dX7_order_167 (by assumption) (by omega) (by omega) (mN_upo _ _ _ (by decide) _ _) rfl ?_
    refine z_iinc7 171 dX7_order_168 (Nat.le_of_ble_eq_true rfl) rfl rfl ?_
    refine z_goto 141 dX7_order_171 (by decide) ?_
    exact lp_X7_order141 hM hm ho hr kk c (t + 1) _ (by omega) hJ2
end MODP
