/-! ===== what the reference foretells ===== -/
theorem zuq_up {S : zT} (h : zuq S) {i : Nat} (h0 : i ≠ 0) (h6 : i ≠ 6) (j : Nat) (v : Int) : zuq (zup S i j v) := by
  intro p q hp hq h1 h2 h3
  rw [zup_row _ _ (Ne.symm h0)] at hp hq
  rw [zup_row _ _ (Ne.symm h6)] at h1 h2 h3
  exact h p q hp hq h1 h2 h3
/-- the first from k on, of n; and what a search downwards leaves -/
def lup (P : Nat → Prop) [DecidablePred P] : Nat → Nat → Int
  | 0, _ => -4
  | n + 1, k => if P k then (k : Int) else lup P n (k + 1)
def mdn (P : Nat → Prop) [DecidablePred P] (lo : Nat) : Nat → Int → Int
  | 0, f => f
  | m + 1, f => mdn P lo m (if P (lo + m) then ((lo + m : Nat) : Int) else f)
theorem lup_r (P : Nat → Prop) [DecidablePred P] : ∀ (n k : Nat), lup P n k = -4 ∨ 0 ≤ lup P n k
  | 0, k => Or.inl rfl
  | n + 1, k => by
    unfold lup
    split
    · exact Or.inr (by omega)
    · exact lup_r P n (k + 1)
theorem lup_a (P : Nat → Prop) [DecidablePred P] : ∀ (a c k : Nat), lup P (a + c) k = if lup P a k = -4 then lup P c (k + a) else lup P a k
  | 0, c, k => by
    rw [show 0 + c = c by omega]
    show _ = if (-4 : Int) = -4 then lup P c (k + 0) else -4
    rw [if_pos rfl]
    rfl
  | a + 1, c, k => by
    rw [show a + 1 + c = (a + c) + 1 by omega]
    show (if P k then (k : Int) else lup P (a + c) (k + 1)) = if (if P k then (k : Int) else lup P a (k + 1)) = -4 then lup P c (k + (a + 1)) else (if P k then (k : Int) else lup P a (k + 1))
    by_cases h : P k
    · rw [if_pos h, if_pos h, if_neg (by omega)]
    · rw [if_neg h, if_neg h, lup_a P a c (k + 1), show k + 1 + a = k + (a + 1) by omega]
theorem mdn_l (P : Nat → Prop) [DecidablePred P] (lo : Nat) : ∀ (m : Nat) (f : Int), mdn P lo m f = if lup P m lo = -4 then f else lup P m lo
  | 0, f => by
    show f = if (-4 : Int) = -4 then f else -4
    rw [if_pos rfl]
  | m + 1, f => by
    unfold mdn
    rw [mdn_l P lo m, lup_a P m 1 lo]
    have e1 : lup P 1 (lo + m) = if P (lo + m) then ((lo + m : Nat) : Int) else -4 := rfl
    rw [e1]
    by_cases h : lup P m lo = -4
    · rw [if_pos h, if_pos h]
      by_cases hp : P (lo + m)
      · rw [if_pos hp, if_pos hp, if_neg (by omega)]
      · rw [if_neg hp, if_neg hp, if_pos rfl]
    · rw [if_neg h, if_neg h, if_neg h]
theorem lup_c {P P' : Nat → Prop} [DecidablePred P] [DecidablePred P'] : ∀ (n k : Nat), (∀ q, k ≤ q → q < k + n → (P q ↔ P' q)) → lup P n k = lup P' n k
  | 0, k, _ => rfl
  | n + 1, k, h => by
    unfold lup
    have h1 := h k (by omega) (by omega)
    rw [lup_c n (k + 1) (fun q a c => h q (by omega) (by omega))]
    by_cases hp : P k
    · rw [if_pos hp, if_pos (h1.mp hp)]
    · rw [if_neg hp, if_neg (fun z => hp (h1.mpr z))]
theorem swf_l (T : zT) (r t : Nat) (o : Int) : ∀ (m i : Nat), i + m ≤ 10 → lup (fun v => sfe (zup T 1 (v / 10) ((v % 10 : Nat) : Int)) r = o) m (10 * t + i) = if swf T r t o m i = -4 then -4 else 10 * (t : Int) + swf T r t o m i
  | 0, i, _ => by
    show (-4 : Int) = if (-4 : Int) = -4 then -4 else _
    rw [if_pos rfl]
  | m + 1, i, h => by
    unfold lup swf
    rw [show (10 * t + i) / 10 = t by omega, show (10 * t + i) % 10 = i by omega]
    by_cases hc : sfe (zup T 1 t (i : Int)) r = o
    · rw [if_pos hc, if_pos hc, if_neg (by omega)]
      omega
    · rw [if_neg hc, if_neg hc]
      exact swf_l T r t o m (i + 1) (by omega)
theorem swx_l (T : zT) (r : Nat) (o : Int) : ∀ (m t : Nat), swx T r o m t = lup (fun v => sfe (zup T 1 (v / 10) ((v % 10 : Nat) : Int)) r = o) (10 * m) (10 * t)
  | 0, t => rfl
  | m + 1, t => by
    have h1 := swf_l T r t o 10 0 (by omega)
    rw [Nat.add_zero] at h1
    rw [show 10 * (m + 1) = 10 + 10 * m by omega, lup_a, h1]
    unfold swx
    have h2 := swf_r T r t o 10 0 (by omega)
    by_cases hc : swf T r t o 10 0 = -4
    · rw [if_pos hc, if_pos hc, if_pos rfl, swx_l T r o m (t + 1)]
      rfl
    · rw [if_neg hc, if_neg hc, if_neg (by omega)]
theorem swg_l (T : zT) (r : Nat) : ∀ (m i : Nat), swg T r m i = lup (fun v => 0 ≤ sfe (zup T 4 r (v : Int)) r ∧ sfe (zup T 4 r (v : Int)) r ≤ 7) m i
  | 0, i => rfl
  | m + 1, i => by
    unfold swg lup
    rw [swg_l T r m (i + 1)]
section MODI
variable {X : zXs} {sh : zH} {I L : zI2} {R : zR2} {A : zA}
/-- the memory while it looks ahead -/
def mFo (I J : zI2) : Prop := (∀ a, ¬ mscr a → J a = I a) ∧ J 164 = npk (I 164) (nvw (I 158))
theorem mFo_0 (I : zI2) : mFo I (zrow I 164 (npk (I 164) (nvw (I 158)))) := ⟨fun a ha => zrow_oR _ _ (fun z => ha (Or.inr (Or.inr (Or.inr (Or.inr (Or.inl z)))))), funext (zrow_at I 164 _)⟩
theorem mFo_b {I J : zI2} (h : mFo I J) (B : Nat → Int) : mFo I (zrow J 159 B) := ⟨fun a ha => by rw [zrow_oR _ _ (fun z => ha (Or.inr (Or.inl z)))]; exact h.1 a ha, by rw [zrow_oR _ _ (by decide)]; exact h.2⟩
theorem mOp_fo {J : zI2} {x y : zV} (h : mCA sh R I L A) (hJ : mFo I J) (e : x = y) : mOp sh I L R y A [x] sh (mN J (I 158) (nvw (I 158))) L R := mOp_now h hJ.1 h.2.1.1 h.2.1.2 e
theorem fo_would {J : zI2} {S : zT} {r : Nat} (hM : zMs sh R) (hJ : mFo I J) (h5 : r < 5) (hS : zSr S) (hu : zuq S) (hr : (r : Int) < S 0 6) : ∃ B' : Nat → Int, mFo I (zrow J 159 B') ∧ (∀ j, j < 10 → B' j = sfw S r j) ∧ zE X mX7_would 0 0 0 [zR 157, zI (r : Int), zX] [] sh (mN J (I 158) S) L R (zEq [zI (sfe S r)] sh (mN (zrow J 159 B') (I 158) (nvw (I 158))) L R) := by
  obtain ⟨B', hB, k⟩ := cx_would (X := X) (J := J) (L := L) (N := I 158) (S0 := nvw (I 158)) (K := I 164) hM h5 hS hu hr hJ.2
  exact ⟨B', mFo_b hJ B', hB, k⟩
theorem fo_asides (hM : zMs sh R) : zE X mX7_asides 0 0 0 [zR 157, zX] [] sh (mN I (I 158) (nvw (I 158))) L R (zEq [] sh (mN (zrow I 164 (npk (I 164) (nvw (I 158)))) (I 158) (nvw (I 158))) L R) := ct_X7_asides hM
theorem op_X7_speed {r t : Int} (h : mCA sh R I L A) (hu : zuq A.1) (hr : -2147483648 ≤ r ∧ r ≤ 2147483647) (ht : -2147483648 ≤ t ∧ t ≤ 2147483647) : zE X mX7_speed 0 0 0 [zR 157, zI r, zI t] [] sh I L R (mOp sh I L R (zI (oSpeed A r t)) A) := by
  obtain ⟨hM, hN, hHis, hKep, hTap, hShe⟩ := id h
  obtain ⟨⟨s0, s1, s2, s3, s4, s5, s6, s7, s8, s9, s10, s11, s12, s13, s14, s15⟩, r0, r1, r2, r3, r4, r5, r6, r7, r8, r9, r10, r11, r12, r13, r14⟩ := id hM
  obtain ⟨⟨hSr, hS7, hS8⟩, hQ⟩ := id hN
  have e6 := hQ.1.1
  have hn5 := hSr.1
  have z1 := zwi_r r 0 (nvw (I 158) 0 6 - 1)
  have z2 := zwi_r t 0 9
  refine z_mN ?_
  refine z_aload0 1 dX7_speed_0 rfl ?_
  refine z_iload1 2 dX7_speed_1 rfl ?_
  refine z_xV1 5 dX7_speed_2 lk_X7_speed_94 (ct_X7_isRider hM hn5 hr) rfl (Nat.le_of_ble_eq_true rfl) (Nat.le_of_ble_eq_true rfl) (by assumption) rfl rfl ?_
  refine z_if_eq 15 8 dX7_speed_5 (by decide) rfl (by omega) (fun h5 => ?_) (fun h5 => ?_)
  · have g5 := zwi_eq0 h5
    refine z_iconst 16 dX7_speed_15 rfl ?_
    exact z_ireturn dX7_speed_16 rfl (mOp_sameN h (by unfold oSpeed; rw [if_neg (by omega)]))
  · have g5 := zwi_ne0 h5
    refine z_iload2 9 dX7_speed_8 rfl ?_
    refine z_xS1 12 dX7_speed_9 lk_X7_speed_100 (ct_X7_isTurn ht) rfl (Nat.le_of_ble_eq_true rfl) (Nat.le_of_ble_eq_true rfl) rfl ?_
    refine z_if_ne 17 15 dX7_speed_12 (by decide) rfl (by omega) (fun h12 => ?_) (fun h12 => ?_)
    · have g12 := zwi_ne0 h12
      obtain ⟨q, rfl⟩ : ∃ q : Nat, r = (q : Int) := ⟨r.toNat, by omega⟩
      obtain ⟨p, rfl⟩ : ∃ q : Nat, t = (q : Int) := ⟨t.toNat, by omega⟩
      obtain ⟨B', hJ, hB, kw⟩ := fo_would (X := X) (L := L) (S := nvw (I 158)) (r := q) hM (mFo_0 I) (by omega) hSr (zuq_q hQ hu) (by omega)
      have eB : mN (zrow (zrow I 164 (npk (I 164) (nvw (I 158)))) 159 B') (I 158) (nvw (I 158)) 159 p = sfw A.1 q p := by rw [mN_o _ _ _ (by decide), zrow_at, hB p (by omega), sfw_c hQ (by omega)]
      refine z_aload0 18 dX7_speed_17 rfl ?_
      refine z_xVv0 21 dX7_speed_18 lk_X7_speed_181 (fo_asides hM) rfl (Nat.le_of_ble_eq_true rfl) (Nat.le_of_ble_eq_true rfl) (by assumption) rfl rfl ?_
      refine z_aload0 22 dX7_speed_21 rfl ?_
      refine z_iload1 23 dX7_speed_22 rfl ?_
      refine z_xV1 26 dX7_speed_23 lk_X7_speed_184 (kw) rfl (Nat.le_of_ble_eq_true rfl) (Nat.le_of_ble_eq_true rfl) (by assumption) rfl rfl ?_
      refine z_pop 27 dX7_speed_26 rfl rfl ?_
      refine z_aload0 28 dX7_speed_27 rfl ?_
      refine z_getR 31 dX7_speed_28 fl_RX7_13 (by assumption) (by assumption) rfl ?_
      refine z_iload2 32 dX7_speed_31 rfl ?_
      refine z_ialdx 33 (p) dX7_speed_32 (by assumption) (by omega) (by omega) (eB) rfl ?_
      exact z_ireturn dX7_speed_33 rfl (mOp_fo h hJ (by unfold oSpeed; rw [if_pos (by omega), Int.toNat_natCast, Int.toNat_natCast]))
    · have g12 := zwi_eq0 h12
      refine z_iconst 16 dX7_speed_15 rfl ?_
      exact z_ireturn dX7_speed_16 rfl (mOp_sameN h (by unfold oSpeed; rw [if_neg (by omega)]))
theorem op_X7_ends {r : Int} (h : mCA sh R I L A) (hu : zuq A.1) (hr : -2147483648 ≤ r ∧ r ≤ 2147483647) : zE X mX7_ends 0 0 0 [zR 157, zI r] [] sh I L R (mOp sh I L R (zI (oEnds A r)) A) := by
  obtain ⟨hM, hN, hHis, hKep, hTap, hShe⟩ := id h
  obtain ⟨⟨s0, s1, s2, s3, s4, s5, s6, s7, s8, s9, s10, s11, s12, s13, s14, s15⟩, r0, r1, r2, r3, r4, r5, r6, r7, r8, r9, r10, r11, r12, r13, r14⟩ := id hM
  obtain ⟨⟨hSr, hS7, hS8⟩, hQ⟩ := id hN
  have e6 := hQ.1.1
  have hn5 := hSr.1
  have z1 := zwi_r r 0 (nvw (I 158) 0 6 - 1)
  refine z_mN ?_
  refine z_aload0 1 dX7_ends_0 rfl ?_
  refine z_iload1 2 dX7_ends_1 rfl ?_
  refine z_xV1 5 dX7_ends_2 lk_X7_ends_94 (ct_X7_isRider hM hn5 hr) rfl (Nat.le_of_ble_eq_true rfl) (Nat.le_of_ble_eq_true rfl) (by assumption) rfl rfl ?_
  refine z_if_ne 10 8 dX7_ends_5 (by decide) rfl (by omega) (fun h5 => ?_) (fun h5 => ?_)
  · have g5 := zwi_ne0 h5
    obtain ⟨q, rfl⟩ : ∃ q : Nat, r = (q : Int) := ⟨r.toNat, by omega⟩
    obtain ⟨B', hJ, hB, kw⟩ := fo_would (X := X) (L := L) (S := nvw (I 158)) (r := q) hM (mFo_0 I) (by omega) hSr (zuq_q hQ hu) (by omega)
    refine z_aload0 11 dX7_ends_10 rfl ?_
    refine z_xVv0 14 dX7_ends_11 lk_X7_ends_181 (fo_asides hM) rfl (Nat.le_of_ble_eq_true rfl) (Nat.le_of_ble_eq_true rfl) (by assumption) rfl rfl ?_
    refine z_aload0 15 dX7_ends_14 rfl ?_
    refine z_iload1 16 dX7_ends_15 rfl ?_
    refine z_xV1 19 dX7_ends_16 lk_X7_ends_184 (kw) rfl (Nat.le_of_ble_eq_true rfl) (Nat.le_of_ble_eq_true rfl) (by assumption) rfl rfl ?_
    exact z_ireturn dX7_ends_19 rfl (mOp_fo h hJ (by unfold oEnds; rw [if_pos (by omega), Int.toNat_natCast, sfe_c hQ (by omega)]))
  · have g5 := zwi_eq0 h5
    refine z_iconst 9 dX7_ends_8 rfl ?_
    exact z_ireturn dX7_ends_9 rfl (mOp_sameN h (by unfold oEnds; rw [if_neg (by omega)]))
/-- the search for the greatest: the reference's two numbers -/
theorem lp_X7_fast {r w : Int} {J : zI2} {F B : Nat → Int} (h : mCA sh R I L A) (hJ : mFo I J) (hB : J 159 = B) (hF : ∀ j, j < 10 → B j = F j ∧ -4 ≤ F j ∧ F j ≤ 30) (hw : 0 ≤ w ∧ w ≤ 1) {v : Int} : ∀ (m i c : Nat), i + m = 10 → c < 10 → v = (if F (gmx F m i c) = -4 then -4 else if w = 0 then (gmx F m i c : Int) else F (gmx F m i c)) → zE X mX7_fast 0 0 40 [zR 157, zI r, zI w, zI (if F c = -4 then -4 else (c : Int)), zI (F c), zI (i : Int)] [] sh (mN J (I 158) (nvw (I 158))) L R (mOp sh I L R (zI v) A)
  | 0, i, c, hi, hc, hv => by
    have hv2 : v = (if F c = -4 then -4 else if w = 0 then (c : Int) else F c) := hv
    refine z_iload5 42 dX7_fast_40 rfl ?_
    refine z_bipush 44 dX7_fast_42 (by decide) rfl ?_
    refine z_icmp_ge 98 47 dX7_fast_44 (by decide) rfl (by omega) (by omega) (fun h44 => ?_) (fun hz => absurd hz (by omega))
    refine z_iload2 99 dX7_fast_98 rfl ?_
    refine z_if_ne 106 102 dX7_fast_99 (by decide) rfl (by omega) (fun h99 => ?_) (fun h99 => ?_)
    · refine z_iload4 108 dX7_fast_106 rfl ?_
      exact z_ireturn dX7_fast_108 rfl (mOp_fo h hJ (by rw [hv2]; congr 1; (repeat' split) <;> first | rfl | omega))
    · refine z_iload3 103 dX7_fast_102 rfl ?_
      refine z_goto 108 dX7_fast_103 (by decide) ?_
      exact z_ireturn dX7_fast_108 rfl (mOp_fo h hJ (by rw [hv2]; congr 1; (repeat' split) <;> first | rfl | omega))
  | m + 1, i, c, hi, hc, hv => by
    obtain ⟨hM, -⟩ := id h
    obtain ⟨⟨s0, s1, s2, s3, s4, s5, s6, s7, s8, s9, s10, s11, s12, s13, s14, s15⟩, r0, r1, r2, r3, r4, r5, r6, r7, r8, r9, r10, r11, r12, r13, r14⟩ := id hM
    have h1 := hF i (by omega)
    have h2 := hF c hc
    have eB : mN J (I 158) (nvw (I 158)) 159 i = F i := by rw [mN_o _ _ _ (by decide), hB, h1.1]
    generalize hx : (if F c = -4 then -4 else (c : Int)) = x
    refine z_iload5 42 dX7_fast_40 rfl ?_
    refine z_bipush 44 dX7_fast_42 (by decide) rfl ?_
    refine z_icmp_ge 98 47 dX7_fast_44 (by decide) rfl (by omega) (by omega) (fun hz => absurd hz (by omega)) (fun h44 => ?_)
    refine z_aload0 48 dX7_fast_47 rfl ?_
    refine z_getR 51 dX7_fast_48 fl_RX7_13 (by assumption) (by assumption) rfl ?_
    refine z_iload5 53 dX7_fast_51 rfl ?_
    refine z_ialdx 54 (i) dX7_fast_53 (by assumption) (by omega) (by omega) (eB) rfl ?_
    refine z_iload4 56 dX7_fast_54 rfl ?_
    refine z_icmp_le 64 59 dX7_fast_56 (by decide) rfl (by omega) (by omega) (fun h56 => ?_) (fun h56 => ?_)
    · refine z_iload3 65 dX7_fast_64 rfl ?_
      refine z_istore3 66 dX7_fast_65 (Nat.le_of_ble_eq_true rfl) rfl rfl ?_
      refine z_aload0 67 dX7_fast_66 rfl ?_
      refine z_getR 70 dX7_fast_67 fl_RX7_13 (by assumption) (by assumption) rfl ?_
      refine z_iload5 72 dX7_fast_70 rfl ?_
      refine z_ialdx 73 (i) dX7_fast_72 (by assumption) (by omega) (by omega) (eB) rfl ?_
      refine z_iload4 75 dX7_fast_73 rfl ?_
      refine z_icmp_le 88 78 dX7_fast_75 (by decide) rfl (by omega) (by omega) (fun h75 => ?_) (fun h75 => ?_)
      · refine z_iload4 90 dX7_fast_88 rfl ?_
        refine z_istore4 92 dX7_fast_90 (Nat.le_of_ble_eq_true rfl) rfl rfl ?_
        refine z_iinc5 95 dX7_fast_92 (Nat.le_of_ble_eq_true rfl) rfl rfl ?_
        refine z_goto 40 dX7_fast_95 (by decide) ?_
        first | (rw [← hx]; rw [show gmx F (m + 1) i c = gmx F m (i + 1) c by rw [gmx, if_neg (by omega)]] at hv; exact lp_X7_fast h hJ hB hF hw m (i + 1) c (by omega) hc hv) | (rw [show gmx F (m + 1) i c = gmx F m (i + 1) i by rw [gmx, if_pos (by omega)]] at hv; have k := lp_X7_fast (r := r) h hJ hB hF hw m (i + 1) i (by omega) (by omega) hv; rw [if_neg (by omega)] at k; exact k) | (exfalso; omega)
      · refine z_aload0 79 dX7_fast_78 rfl ?_
        refine z_getR 82 dX7_fast_79 fl_RX7_13 (by assumption) (by assumption) rfl ?_
        refine z_iload5 84 dX7_fast_82 rfl ?_
        refine z_ialdx 85 (i) dX7_fast_84 (by assumption) (by omega) (by omega) (eB) rfl ?_
        refine z_goto 90 dX7_fast_85 (by decide) ?_
        refine z_istore4 92 dX7_fast_90 (Nat.le_of_ble_eq_true rfl) rfl rfl ?_
        refine z_iinc5 95 dX7_fast_92 (Nat.le_of_ble_eq_true rfl) rfl rfl ?_
        refine z_goto 40 dX7_fast_95 (by decide) ?_
        first | (rw [← hx]; rw [show gmx F (m + 1) i c = gmx F m (i + 1) c by rw [gmx, if_neg (by omega)]] at hv; exact lp_X7_fast h hJ hB hF hw m (i + 1) c (by omega) hc hv) | (rw [show gmx F (m + 1) i c = gmx F m (i + 1) i by rw [gmx, if_pos (by omega)]] at hv; have k := lp_X7_fast (r := r) h hJ hB hF hw m (i + 1) i (by omega) (by omega) hv; rw [if_neg (by omega)] at k; exact k) | (exfalso; omega)
    · refine z_iload5 61 dX7_fast_59 rfl ?_
      refine z_goto 65 dX7_fast_61 (by decide) ?_
      refine z_istore3 66 dX7_fast_65 (Nat.le_of_ble_eq_true rfl) rfl rfl ?_
      refine z_aload0 67 dX7_fast_66 rfl ?_
      refine z_getR 70 dX7_fast_67 fl_RX7_13 (by assumption) (by assumption) rfl ?_
      refine z_iload5 72 dX7_fast_70 rfl ?_
      refine z_ialdx 73 (i) dX7_fast_72 (by assumption) (by omega) (by omega) (eB) rfl ?_
      refine z_iload4 75 dX7_fast_73 rfl ?_
      refine z_icmp_le 88 78 dX7_fast_75 (by decide) rfl (by omega) (by omega) (fun h75 => ?_) (fun h75 => ?_)
      · refine z_iload4 90 dX7_fast_88 rfl ?_
        refine z_istore4 92 dX7_fast_90 (Nat.le_of_ble_eq_true rfl) rfl rfl ?_
        refine z_iinc5 95 dX7_fast_92 (Nat.le_of_ble_eq_true rfl) rfl rfl ?_
        refine z_goto 40 dX7_fast_95 (by decide) ?_
        first | (rw [← hx]; rw [show gmx F (m + 1) i c = gmx F m (i + 1) c by rw [gmx, if_neg (by omega)]] at hv; exact lp_X7_fast h hJ hB hF hw m (i + 1) c (by omega) hc hv) | (rw [show gmx F (m + 1) i c = gmx F m (i + 1) i by rw [gmx, if_pos (by omega)]] at hv; have k := lp_X7_fast (r := r) h hJ hB hF hw m (i + 1) i (by omega) (by omega) hv; rw [if_neg (by omega)] at k; exact k) | (exfalso; omega)
      · refine z_aload0 79 dX7_fast_78 rfl ?_
        refine z_getR 82 dX7_fast_79 fl_RX7_13 (by assumption) (by assumption) rfl ?_
        refine z_iload5 84 dX7_fast_82 rfl ?_
        refine z_ialdx 85 (i) dX7_fast_84 (by assumption) (by omega) (by omega) (eB) rfl ?_
        refine z_goto 90 dX7_fast_85 (by decide) ?_
        refine z_istore4 92 dX7_fast_90 (Nat.le_of_ble_eq_true rfl) rfl rfl ?_
        refine z_iinc5 95 dX7_fast_92 (Nat.le_of_ble_eq_true rfl) rfl rfl ?_
        refine z_goto 40 dX7_fast_95 (by decide) ?_
        first | (rw [← hx]; rw [show gmx F (m + 1) i c = gmx F m (i + 1) c by rw [gmx, if_neg (by omega)]] at hv; exact lp_X7_fast h hJ hB hF hw m (i + 1) c (by omega) hc hv) | (rw [show gmx F (m + 1) i c = gmx F m (i + 1) i by rw [gmx, if_pos (by omega)]] at hv; have k := lp_X7_fast (r := r) h hJ hB hF hw m (i + 1) i (by omega) (by omega) hv; rw [if_neg (by omega)] at k; exact k) | (exfalso; omega)
end MODI
