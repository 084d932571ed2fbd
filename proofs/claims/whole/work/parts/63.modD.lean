/-! ===== the reference: rides, what is laid aside; what it is of the abstract state ===== -/
section MODD
variable {X : zXs} {sh : zH} {I J L : zI2} {R : zR2} {N K : Nat → Int} {S S0 : zT}
theorem lp_X7_rides15 {r : Nat} {B : Nat → Int} (hM : zMs sh R) (h5 : r < 5) (hS : zSr S) : ∀ (m t : Nat), t + m = 10 → zE X mX7_rides 0 0 15 [zR 157, zI (r : Int), zI 2, zI 0, zI (t : Int)] [] sh (mN (zrow J 159 (zfl B t (-4))) N S) L R (zEq [zI (mfe r (mrl r 10 0 2 S (zfl B 10 (-4))))] sh (mN (zrow J 159 (mrl r 10 0 2 S (zfl B 10 (-4))).2.2) N (mfs r (mrl r 10 0 2 S (zfl B 10 (-4))))) L R)
  | 0, t, h => by
    have e : t = 10 := by omega
    subst e
    refine z_iload4 17 dX7_rides_15 rfl ?_
    refine z_bipush 19 dX7_rides_17 (by decide) rfl ?_
    refine z_icmp_ge 37 22 dX7_rides_19 (by decide) rfl (by omega) (by omega) (fun h19 => ?_) (fun hz => absurd hz (by omega))
    exact lp_X7_rides37 hM h5 10 0 2 S (zfl B 10 (-4)) _ rfl hS (by omega)
  | m + 1, t, h => by
    obtain ⟨⟨s0, s1, s2, s3, s4, s5, s6, s7, s8, s9, s10, s11, s12, s13, s14, s15⟩, r0, r1, r2, r3, r4, r5, r6, r7, r8, r9, r10, r11, r12, r13, r14⟩ := id hM
    refine z_iload4 17 dX7_rides_15 rfl ?_
    refine z_bipush 19 dX7_rides_17 (by decide) rfl ?_
    refine z_icmp_ge 37 22 dX7_rides_19 (by decide) rfl (by omega) (by omega) (fun hz => absurd hz (by omega)) (fun h19 => ?_)
    refine z_aload0 23 dX7_rides_22 rfl ?_
    refine z_getR 26 dX7_rides_23 fl_RX7_13 (by assumption) (by assumption) rfl ?_
    refine z_iload4 28 dX7_rides_26 rfl ?_
    refine z_bipush 30 dX7_rides_28 (by decide) rfl ?_
    refine z_iastx 31 (t) dX7_rides_30 (by assumption) (by omega) (by omega) ((mN_upo _ _ _ (by decide) _ _).trans (congrArg (fun J => mN J N _) (zrow_up _ _ _ _ _))) rfl ?_
    refine z_iinc4 34 dX7_rides_31 (Nat.le_of_ble_eq_true rfl) rfl rfl ?_
    refine z_goto 15 dX7_rides_34 (by decide) ?_
    have e : (fun q => if q = t then (-4 : Int) else zfl B t (-4) q) = zfl B (t + 1) (-4) := by
      funext q
      unfold zfl
      by_cases h1 : q = t
      · rw [if_pos h1, if_pos (by omega)]
      · rw [if_neg h1]
        by_cases h2 : q < t
        · rw [if_pos h2, if_pos (by omega)]
        · rw [if_neg h2, if_neg (by omega)]
    rw [e]
    exact lp_X7_rides15 hM h5 hS m (t + 1) (by omega)
theorem ct_X7_rides {r : Nat} {B : Nat → Int} (hM : zMs sh R) (h5 : r < 5) (hS : zSr S) : zE X mX7_rides 0 0 0 [zR 157, zI (r : Int), zX, zX, zX] [] sh (mN (zrow J 159 B) N S) L R (zEq [zI (mfe r (mrq S r B))] sh (mN (zrow J 159 (mrq S r B).2.2) N (mfs r (mrq S r B))) L R) := by
  have s0 := hM.1.1
  have k := lp_X7_rides15 (X := X) (J := J) (L := L) (N := N) (S := zup S 6 r 30) (B := B) hM h5 (zSr_up6 hS r (by omega)) 10 0 rfl
  rw [show zfl B 0 (-4) = B from funext fun q => by unfold zfl; rw [if_neg (by omega)]] at k
  refine z_iconst 1 dX7_rides_0 rfl ?_
  refine z_istore2 2 dX7_rides_1 (Nat.le_of_ble_eq_true rfl) rfl rfl ?_
  refine z_iconst 3 dX7_rides_2 rfl ?_
  refine z_istore3 4 dX7_rides_3 (Nat.le_of_ble_eq_true rfl) rfl rfl ?_
  refine z_aload0 5 dX7_rides_4 rfl ?_
  refine z_iload1 6 dX7_rides_5 rfl ?_
  refine z_iconst 7 dX7_rides_6 rfl ?_
  refine z_bipush 9 dX7_rides_7 (by decide) rfl ?_
  refine z_xVv3 12 dX7_rides_9 lk_X7_rides_70 (ct_X7_tells (w := 3) (k := 6) hM h5 (by decide) rfl) rfl (Nat.le_of_ble_eq_true rfl) (Nat.le_of_ble_eq_true rfl) (by assumption) rfl rfl ?_
  refine z_iconst 13 dX7_rides_12 rfl ?_
  refine z_istore4 15 dX7_rides_13 (Nat.le_of_ble_eq_true rfl) rfl rfl ?_
  exact k
theorem cx_rides {r : Nat} (hM : zMs sh R) (h5 : r < 5) (hS : zSr S) (hu : zuq S) : ∃ B' : Nat → Int, (∀ j, j < 10 → B' j = sfw (zup S 6 r 30) r j) ∧ zE X mX7_rides 0 0 0 [zR 157, zI (r : Int), zX, zX, zX] [] sh (mN J N S) L R (zEq [zI (sfe (zup S 6 r 30) r)] sh (mN (zrow J 159 B') N (send (zup S 6 r 30) r)) L R) := by
  have h := ct_X7_rides (X := X) (J := J) (L := L) (N := N) (S := S) (r := r) (B := J 159) hM h5 hS
  have e := mrq_e (r := r) hS hu (J 159)
  rw [zrow_self, e.1, e.2.2] at h
  exact ⟨_, e.2.1, h⟩
theorem lp_X7_asides (hM : zMs sh R) : ∀ (m k : Nat), k + m = 43 → zE X mX7_asides 0 0 2 [zR 157, zI (k : Int)] [] sh (mN (zrow J 164 (fun j => if j < k then npk N S j else K j)) N S) L R (zEq [] sh (mN (zrow J 164 (npk K S)) N S) L R)
  | 0, k, h => by
    have e : k = 43 := by omega
    subst e
    have e2 : (fun j => if j < 43 then npk N S j else K j) = npk K S := funext fun j => by
      by_cases hj : j < 43
      · rw [if_pos hj]
        unfold npk
        repeat' split
        all_goals first | rfl | omega
      · rw [if_neg hj, npk_hi K S (by omega)]
    rw [e2]
    refine z_iload1 3 dX7_asides_2 rfl ?_
    refine z_bipush 5 dX7_asides_3 (by decide) rfl ?_
    refine z_icmp_ge 26 8 dX7_asides_5 (by decide) rfl (by omega) (by omega) (fun h5 => ?_) (fun hz => absurd hz (by omega))
    exact z_return dX7_asides_26 rfl (⟨rfl, rfl, rfl, rfl, rfl⟩)
  | m + 1, k, h => by
    obtain ⟨⟨s0, s1, s2, s3, s4, s5, s6, s7, s8, s9, s10, s11, s12, s13, s14, s15⟩, r0, r1, r2, r3, r4, r5, r6, r7, r8, r9, r10, r11, r12, r13, r14⟩ := id hM
    refine z_iload1 3 dX7_asides_2 rfl ?_
    refine z_bipush 5 dX7_asides_3 (by decide) rfl ?_
    refine z_icmp_ge 26 8 dX7_asides_5 (by decide) rfl (by omega) (by omega) (fun hz => absurd hz (by omega)) (fun h5 => ?_)
    refine z_aload0 9 dX7_asides_8 rfl ?_
    refine z_getR 12 dX7_asides_9 fl_RX7_28 (by assumption) (by assumption) rfl ?_
    refine z_iload1 13 dX7_asides_12 rfl ?_
    refine z_aload0 14 dX7_asides_13 rfl ?_
    refine z_getR 17 dX7_asides_14 fl_RX7_7 (by assumption) (by assumption) rfl ?_
    refine z_iload1 18 dX7_asides_17 rfl ?_
    refine z_ialdx 19 (k) dX7_asides_18 (by assumption) (by omega) (by omega) (mN_at _ _ _ _) rfl ?_
    refine z_iastx 20 (k) dX7_asides_19 (by assumption) (by omega) (by omega) ((mN_upo _ _ _ (by decide) _ _).trans (congrArg (fun J => mN J N _) (zrow_up _ _ _ _ _))) rfl ?_
    refine z_iinc1 23 dX7_asides_20 (Nat.le_of_ble_eq_true rfl) rfl rfl ?_
    refine z_goto 2 dX7_asides_23 (by decide) ?_
    have e : (fun q => if q = k then npk N S k else if q < k then npk N S q else K q) = (fun j => if j < k + 1 then npk N S j else K j) := by
      funext q
      by_cases h1 : q = k
      · subst h1
        rw [if_pos rfl, if_pos (by omega)]
      · rw [if_neg h1]
        by_cases h2 : q < k
        · rw [if_pos h2, if_pos (by omega)]
        · rw [if_neg h2, if_neg (by omega)]
    rw [e]
    exact lp_X7_asides hM m (k + 1) (by omega)
theorem ct_X7_asides (hM : zMs sh R) : zE X mX7_asides 0 0 0 [zR 157, zX] [] sh (mN J N S) L R (zEq [] sh (mN (zrow J 164 (npk (J 164) S)) N S) L R) := by
  have k := lp_X7_asides (X := X) (J := J) (L := L) (N := N) (K := J 164) (S := S) hM 43 0 rfl
  rw [show (fun j => if j < 0 then npk N S j else J 164 j) = J 164 from funext fun j => if_neg (by omega), zrow_self] at k
  refine z_iconst 1 dX7_asides_0 rfl ?_
  refine z_istore1 2 dX7_asides_1 (Nat.le_of_ble_eq_true rfl) rfl rfl ?_
  exact k
theorem lp_X7_backs (hM : zMs sh R) (hJ : J 164 = npk K S0) : ∀ (m k : Nat), k + m = 43 → zE X mX7_backs 0 0 2 [zR 157, zI (k : Int)] [] sh (zrow J 158 (fun j => if j < k then npk K S0 j else npk N S j)) L R (zEq [] sh (mN J N S0) L R)
  | 0, k, h => by
    have e : k = 43 := by omega
    subst e
    have e2 : (fun j => if j < 43 then npk K S0 j else npk N S j) = npk N S0 := funext fun j => by
      by_cases hj : j < 43
      · rw [if_pos hj]
        unfold npk
        repeat' split
        all_goals first | rfl | omega
      · rw [if_neg hj, npk_hi N S (by omega), npk_hi N S0 (by omega)]
    rw [e2]
    refine z_iload1 3 dX7_backs_2 rfl ?_
    refine z_bipush 5 dX7_backs_3 (by decide) rfl ?_
    refine z_icmp_ge 26 8 dX7_backs_5 (by decide) rfl (by omega) (by omega) (fun h5 => ?_) (fun hz => absurd hz (by omega))
    exact z_return dX7_backs_26 rfl (⟨rfl, rfl, rfl, rfl, rfl⟩)
  | m + 1, k, h => by
    obtain ⟨⟨s0, s1, s2, s3, s4, s5, s6, s7, s8, s9, s10, s11, s12, s13, s14, s15⟩, r0, r1, r2, r3, r4, r5, r6, r7, r8, r9, r10, r11, r12, r13, r14⟩ := id hM
    have e164 : ∀ f, zrow J 158 f 164 k = npk K S0 k := fun f => by rw [zrow_o _ _ (by decide), hJ]
    refine z_iload1 3 dX7_backs_2 rfl ?_
    refine z_bipush 5 dX7_backs_3 (by decide) rfl ?_
    refine z_icmp_ge 26 8 dX7_backs_5 (by decide) rfl (by omega) (by omega) (fun hz => absurd hz (by omega)) (fun h5 => ?_)
    refine z_aload0 9 dX7_backs_8 rfl ?_
    refine z_getR 12 dX7_backs_9 fl_RX7_7 (by assumption) (by assumption) rfl ?_
    refine z_iload1 13 dX7_backs_12 rfl ?_
    refine z_aload0 14 dX7_backs_13 rfl ?_
    refine z_getR 17 dX7_backs_14 fl_RX7_28 (by assumption) (by assumption) rfl ?_
    refine z_iload1 18 dX7_backs_17 rfl ?_
    refine z_ialdx 19 (k) dX7_backs_18 (by assumption) (by omega) (by omega) (e164 _) rfl ?_
    refine z_iastx 20 (k) dX7_backs_19 (by assumption) (by omega) (by omega) (zrow_up _ _ _ _ _) rfl ?_
    refine z_iinc1 23 dX7_backs_20 (Nat.le_of_ble_eq_true rfl) rfl rfl ?_
    refine z_goto 2 dX7_backs_23 (by decide) ?_
    have e : (fun q => if q = k then npk K S0 k else if q < k then npk K S0 q else npk N S q) = (fun j => if j < k + 1 then npk K S0 j else npk N S j) := by
      funext q
      by_cases h1 : q = k
      · subst h1
        rw [if_pos rfl, if_pos (by omega)]
      · rw [if_neg h1]
        by_cases h2 : q < k
        · rw [if_pos h2, if_pos (by omega)]
        · rw [if_neg h2, if_neg (by omega)]
    rw [e]
    exact lp_X7_backs hM hJ m (k + 1) (by omega)
theorem ct_X7_backs (hM : zMs sh R) (hJ : J 164 = npk K S0) : zE X mX7_backs 0 0 0 [zR 157, zX] [] sh (mN J N S) L R (zEq [] sh (mN J N S0) L R) := by
  have k := lp_X7_backs (X := X) (L := L) (N := N) (S := S) hM hJ 43 0 rfl
  rw [show (fun j => if j < 0 then npk K S0 j else npk N S j) = npk N S from funext fun j => if_neg (by omega)] at k
  refine z_iconst 1 dX7_backs_0 rfl ?_
  refine z_istore1 2 dX7_backs_1 (Nat.le_of_ble_eq_true rfl) rfl rfl ?_
  exact k
theorem cx_would {r : Nat} (hM : zMs sh R) (h5 : r < 5) (hS : zSr S) (hu : zuq S) (hr : (r : Int) < S 0 6) (hJ : J 164 = npk K S0) : ∃ B' : Nat → Int, (∀ j, j < 10 → B' j = sfw S r j) ∧ zE X mX7_would 0 0 0 [zR 157, zI (r : Int), zX] [] sh (mN J N S) L R (zEq [zI (sfe S r)] sh (mN (zrow J 159 B') N S0) L R) := by
  obtain ⟨B', hB, k⟩ := cx_rides (X := X) (J := J) (L := L) (N := N) hM h5 hS hu
  rw [sfe_30 hS.1 hu hr] at k
  rw [sfw_30 hS.1 hu hr] at hB
  refine ⟨B', hB, ?_⟩
  have s0 := hM.1.1
  have kb := ct_X7_backs (X := X) (J := zrow J 159 B') (L := L) (N := N) (S := send (zup S 6 r 30) r) (S0 := S0) (K := K) hM (by rw [zrow_oR _ _ (by decide)]; exact hJ)
  refine z_aload0 1 dX7_would_0 rfl ?_
  refine z_iload1 2 dX7_would_1 rfl ?_
  refine z_xV1 5 dX7_would_2 lk_X7_would_163 (k) rfl (Nat.le_of_ble_eq_true rfl) (Nat.le_of_ble_eq_true rfl) (by assumption) rfl rfl ?_
  refine z_istore2 6 dX7_would_5 (Nat.le_of_ble_eq_true rfl) rfl rfl ?_
  refine z_aload0 7 dX7_would_6 rfl ?_
  refine z_xVv0 10 dX7_would_7 lk_X7_would_178 (kb) rfl (Nat.le_of_ble_eq_true rfl) (Nat.le_of_ble_eq_true rfl) (by assumption) rfl rfl ?_
  refine z_iload2 11 dX7_would_10 rfl ?_
  exact z_ireturn dX7_would_11 rfl (⟨rfl, rfl, rfl, rfl, rfl⟩)
end MODD
/-! what the memory of the reference is -/
theorem nvw_e (N : Nat → Int) (S : zT) : (nvw (npk N S) 0 6 = S 0 6 ∧ nvw (npk N S) 0 7 = S 0 7 ∧ nvw (npk N S) 0 8 = S 0 8) ∧ (∀ t, t < 10 → nvw (npk N S) 1 t = S 1 t ∧ nvw (npk N S) 2 t = S 2 t) ∧ ∀ r, r < 5 → nvw (npk N S) 3 r = S 3 r ∧ nvw (npk N S) 4 r = S 4 r ∧ nvw (npk N S) 5 r = S 5 r ∧ nvw (npk N S) 6 r = S 6 r := by
  refine ⟨⟨rfl, rfl, rfl⟩, fun t ht => ⟨?_, ?_⟩, fun r hr => ⟨?_, ?_, ?_, ?_⟩⟩
  · show (if t < 10 then npk N S (3 + t) else 0) = _
    rw [if_pos ht, npk_r N S ht]
  · show (if t < 10 then npk N S (13 + t) else 0) = _
    rw [if_pos ht, npk_b N S ht]
  · show (if r < 5 then npk N S (23 + 4 * r + 0) else 0) = _
    rw [if_pos hr, npk_k N S hr (by decide)]
  · show (if r < 5 then npk N S (23 + 4 * r + 1) else 0) = _
    rw [if_pos hr, npk_k N S hr (by decide)]
  · show (if r < 5 then npk N S (23 + 4 * r + 2) else 0) = _
    rw [if_pos hr, npk_k N S hr (by decide)]
  · show (if r < 5 then npk N S (23 + 4 * r + 3) else 0) = _
    rw [if_pos hr, npk_k N S hr (by decide)]
theorem zSg_a {S S' : zT} (h : (S 0 6 = S' 0 6 ∧ S 0 7 = S' 0 7 ∧ S 0 8 = S' 0 8) ∧ (∀ t, t < 10 → S 1 t = S' 1 t ∧ S 2 t = S' 2 t) ∧ ∀ r, r < 5 → S 3 r = S' 3 r ∧ S 4 r = S' 4 r ∧ S 5 r = S' 5 r ∧ S 6 r = S' 6 r) (hs : zSg S') : zSg S := by
  obtain ⟨⟨a1, a2, a3⟩, a4, a5⟩ := h
  obtain ⟨⟨p1, p2, p3, p4, p5, p6, p7⟩, q1, q2⟩ := hs
  exact ⟨⟨by rw [a1]; exact p1, fun t ht => by rw [(a4 t ht).1]; exact p2 t ht, fun t ht => by rw [(a4 t ht).2]; exact p3 t ht, fun r hr => by rw [(a5 r hr).1]; exact p4 r hr, fun r hr => by rw [(a5 r hr).2.1]; exact p5 r hr, fun r hr => by rw [(a5 r hr).2.2.1]; exact p6 r hr, fun r hr => by rw [(a5 r hr).2.2.2]; exact p7 r hr⟩, by rw [a2]; exact q1, by rw [a3]; exact q2⟩
theorem zQe_a {S S' : zT} (h : (S 0 6 = S' 0 6 ∧ S 0 7 = S' 0 7 ∧ S 0 8 = S' 0 8) ∧ (∀ t, t < 10 → S 1 t = S' 1 t ∧ S 2 t = S' 2 t) ∧ ∀ r, r < 5 → S 3 r = S' 3 r ∧ S 4 r = S' 4 r ∧ S 5 r = S' 5 r ∧ S 6 r = S' 6 r) (h5 : S 0 6 ≤ 5) : zQe S S' := ⟨h.1, h.2.1, fun r hr => h.2.2 r (by omega)⟩
def mRe (N : Nat → Int) (s : zT) : Prop := zSg (nvw N) ∧ zQe (nvw N) s
theorem mRe_pk (N : Nat → Int) {S S' : zT} (hg : zSg S) (hq : zQe S S') : mRe (npk N S) S' := ⟨zSg_a (nvw_e N S) hg, (zQe_a (nvw_e N S) (by rw [(nvw_e N S).1.1]; exact hg.1.1.2)).tr hq⟩
def mrw (f : Nat → Int) (o : Nat) : Nat → Int := fun k => f (o + k)
def mHis (I : zI2) (h : List zT) : Prop := I 157 9 = (h.length : Int) ∧ h.length ≤ 8 ∧ ∀ i s, h[i]? = some s → mRe (mrw (I 163) (43 * i)) s
def mKep (I : zI2) (k : Option (zT × List zT)) : Prop := match k with
  | none => I 157 16 = 0
  | some q => I 157 16 = 1 ∧ mRe (I 168) q.1 ∧ I 157 15 = (q.2.length : Int) ∧ q.2.length ≤ 8 ∧ ∀ i s, q.2[i]? = some s → mRe (mrw (I 168) (43 + 43 * i)) s
def mTap (I : zI2) (t : List Int) : Prop := I 157 3 = (t.length : Int) ∧ t.length ≤ 70 ∧ ∀ j x, t[j]? = some x → I 160 j = x ∧ 32 ≤ x ∧ x ≤ 126
def mShe (I L : zI2) (s : Nat → Int × (Int × (Nat → Int))) : Prop := ∀ k, k < 4 → (I 169 k = (s k).1 ∧ ((s k).1 = -1 ∨ (0 ≤ (s k).1 ∧ (s k).1 ≤ 3))) ∧ ((s k).1 = -1 ∨ I 170 k = (s k).2.1) ∧ (0 ≤ I 170 k ∧ I 170 k ≤ 24) ∧ ∀ j, j < 24 → L 171 (24 * k + j) = (s k).2.2 j ∧ -9223372036854775808 ≤ (s k).2.2 j ∧ (s k).2.2 j ≤ 9223372036854775807
def mCA (sh : zH) (R : zR2) (I L : zI2) (A : zA) : Prop := zMs sh R ∧ mRe (I 158) A.1 ∧ mHis I A.2.1 ∧ mKep I A.2.2.1 ∧ mTap I A.2.2.2.1 ∧ mShe I L A.2.2.2.2
def mOp (sh : zH) (I L : zI2) (R : zR2) (v : zV) (A : zA) : zQ := fun r' sh' I' L' R' => r' = [v] ∧ sh' = sh ∧ R' = R ∧ mCA sh R I' L' A ∧ ∀ a, a < 157 → I' a = I a ∧ L' a = L a
theorem mKep_of {I J : zI2} {k : Option (zT × List zT)} (h1 : J 157 16 = I 157 16) (h2 : J 157 15 = I 157 15) (h3 : J 168 = I 168) (c : mKep I k) : mKep J k := by
  unfold mKep at c ⊢
  rw [h1, h2, h3]
  exact c
theorem mHis_of {I J : zI2} {l : List zT} (h1 : J 157 9 = I 157 9) (h3 : J 163 = I 163) (c : mHis I l) : mHis J l := by
  unfold mHis at c ⊢
  rw [h1, h3]
  exact c
theorem mTap_of {I J : zI2} {t : List Int} (h1 : J 157 3 = I 157 3) (h3 : J 160 = I 160) (c : mTap I t) : mTap J t := by
  unfold mTap at c ⊢
  rw [h1, h3]
  exact c
theorem mShe_of {I J L K : zI2} {s : Nat → Int × (Int × (Nat → Int))} (h1 : J 169 = I 169) (h2 : J 170 = I 170) (h3 : K 171 = L 171) (c : mShe I L s) : mShe J K s := by
  unfold mShe at c ⊢
  rw [h1, h2, h3]
  exact c
/-- scratch: rows that nobody looks at from call to call -/
def mscr (a : Nat) : Prop := a = 158 ∨ a = 159 ∨ a = 161 ∨ a = 162 ∨ a = 164 ∨ a = 165 ∨ a = 166 ∨ a = 167
section MOPS
variable {X : zXs} {sh : zH} {I J L : zI2} {R : zR2} {N : Nat → Int} {S : zT} {A : zA}
theorem mCA_now {S' : zT} (h : mCA sh R I L A) (hJ : ∀ a, ¬ mscr a → J a = I a) (hS : mRe (J 158) S') : mCA sh R J L (S', A.2) := by
  obtain ⟨h1, h2, h3, h4, h5, h6⟩ := h
  have e : ∀ a, ¬ (a = 158 ∨ a = 159 ∨ a = 161 ∨ a = 162 ∨ a = 164 ∨ a = 165 ∨ a = 166 ∨ a = 167) → J a = I a := hJ
  exact ⟨h1, hS, mHis_of (by rw [e 157 (by omega)]) (e 163 (by omega)) h3, mKep_of (by rw [e 157 (by omega)]) (by rw [e 157 (by omega)]) (e 168 (by omega)) h4, mTap_of (by rw [e 157 (by omega)]) (e 160 (by omega)) h5, mShe_of (e 169 (by omega)) (e 170 (by omega)) rfl h6⟩
theorem mOp_now {S' : zT} {x y : zV} (h : mCA sh R I L A) (hJ : ∀ a, ¬ mscr a → J a = I a) (hg : zSg S) (hq : zQe S S') (e : x = y) : mOp sh I L R y (S', A.2) [x] sh (mN J N S) L R := by
  subst e
  have hN : ∀ a, ¬ mscr a → mN J N S a = I a := fun a ha => by
    rw [mN_o _ _ _ (fun z => ha (Or.inl z))]
    exact hJ a ha
  exact ⟨rfl, rfl, rfl, mCA_now h hN (by unfold mN; rw [show zrow J 158 (npk N S) 158 = npk N S from funext (zrow_at J 158 _)]; exact mRe_pk N hg hq), fun a ha => ⟨hN a (by unfold mscr; omega), rfl⟩⟩
theorem mOp_same {x y : zV} (h : mCA sh R I L A) (e : x = y) : mOp sh I L R y A [x] sh I L R := by
  subst e
  exact ⟨rfl, rfl, rfl, h, fun a _ => ⟨rfl, rfl⟩⟩
theorem mOp_sameN {x y : zV} (h : mCA sh R I L A) (e : x = y) : mOp sh I L R y A [x] sh (mN I (I 158) (nvw (I 158))) L R := by
  rw [mN_self]
  exact mOp_same h e
theorem z_mN {M : zM} {k w pc : Nat} {ls st : List zV} {Q : zQ} (h : zE X M k w pc ls st sh (mN I (I 158) (nvw (I 158))) L R Q) : zE X M k w pc ls st sh I L R Q := by
  rw [mN_self] at h
  exact h
end MOPS
