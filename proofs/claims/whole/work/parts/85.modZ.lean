section MODZ
variable {X : zXs} {sh : zH} {I L : zI2} {R : zR2} {A : zA}
theorem tlst_r {t : List Int} (h : ∀ (j : Nat) (x : Int), t[j]? = some x → 32 ≤ x ∧ x ≤ 126) : (∀ j, 0 ≤ tlst t j ∧ tlst t j ≤ 126) ∧ ∀ j, j < t.length → 32 ≤ tlst t j ∧ tlst t j ≤ 126 := by
  have key : ∀ j, j < t.length → 32 ≤ tlst t j ∧ tlst t j ≤ 126 := fun j hj => by
    unfold tlst
    rw [List.getD_eq_getElem?_getD, List.getElem?_eq_getElem hj]
    exact h j _ (List.getElem?_eq_getElem hj)
  refine ⟨fun j => ?_, key⟩
  by_cases hj : j < t.length
  · have := key j hj; omega
  · unfold tlst
    rw [List.getD_eq_getElem?_getD, List.getElem?_eq_none (by omega)]
    exact ⟨by show (0 : Int) ≤ 0; omega, by show (0 : Int) ≤ 126; omega⟩
/-- a slide that is read: what it leaves -/
theorem mOp_slide {V W : Nat → Int} {k n' : Nat} {D d' : zT} (h : mCA sh R I L A) (hD : D = sads (stt V 10 0 (zup (zup (nvw (I 158)) 0 6 0) 0 7 0)) W n') (hg : zSg D) (hq : zQe D (zup d' 0 8 (A.1 0 8))) (hn : (n' : Int) = d' 0 6) (hn5 : n' ≤ 5) : zE X mX7_slide 0 0 90 [zR 157, zI (n' : Int), zX] [] sh (zup (mT (zrow (zrow I 161 V) 162 W) k 0) 157 3 0) L R (mOp sh I L R (zI (d' 0 6)) (zup d' 0 8 (A.1 0 8), [], A.2.2.1, [], A.2.2.2.2)) := by
  obtain ⟨h1, h2, h3, h4, h5, h6⟩ := id h
  generalize hJ : zup (mT (zrow (zrow I 161 V) 162 W) k 0) 157 3 0 = J
  have hd : ∀ a, ¬ (a = 157 ∨ a = 161 ∨ a = 162) → J a = I a := fun a ha => by rw [← hJ, zup_row _ _ (by omega), mT_o _ _ _ (by omega), zrow_oR _ _ (by omega), zrow_oR _ _ (by omega)]
  have h7 : ∀ c, c ≠ 3 → c ≠ 4 → c ≠ 5 → J 157 c = I 157 c := fun c q1 q2 q3 => by rw [← hJ, zup_ne _ _ (by omega), mT_c _ _ _ q2 q3, zrow_oR _ _ (by decide), zrow_oR _ _ (by decide)]
  have e161 : J 161 = V := by rw [← hJ, zup_row _ _ (by decide), mT_o _ _ _ (by decide), zrow_oR _ _ (by decide)]; exact funext (zrow_at I 161 V)
  have e162 : J 162 = W := by rw [← hJ, zup_row _ _ (by decide), mT_o _ _ _ (by decide)]; exact funext (zrow_at _ 162 W)
  have e3 : J 157 3 = 0 := by rw [← hJ, zup_at]
  have e158 := hd 158 (by omega)
  have hA1 : mCA sh R (zup J 157 9 0) L (A.1, [], A.2.2.1, [], A.2.2.2.2) := ⟨h1, by rw [zup_row _ _ (by decide), e158]; exact h2, ⟨zup_at _ _ _ _, Nat.zero_le _, fun i s hs => by cases hs⟩, mKep_of (by rw [zup_ne _ _ (by omega)]; exact h7 16 (by decide) (by decide) (by decide)) (by rw [zup_ne _ _ (by omega)]; exact h7 15 (by decide) (by decide) (by decide)) (by rw [zup_row _ _ (by decide)]; exact hd 168 (by omega)) h4, mTap_nil (by rw [zup_ne _ _ (by omega)]; exact e3), mShe_of (by rw [zup_row _ _ (by decide)]; exact hd 169 (by omega)) (by rw [zup_row _ _ (by decide)]; exact hd 170 (by omega)) rfl h6⟩
  have k1 := tl_X7_slide90 (X := X) (J := J) (L := L) (R := R) (N := I 158) (S := nvw (I 158)) (V := V) (W := W) h1 hn5 e161 e162
  rw [← hD] at k1
  have eJ : mN J (I 158) (nvw (I 158)) = J := by rw [← e158]; exact mN_self J
  rw [eJ] at k1
  refine zE_mono (fun r' sh' I' L' R' hz => ?_) k1
  obtain ⟨y1, y2, y3, y4, y5⟩ := hz
  rw [y1, y2, y3, y4, y5]
  have k2 := mOp_now (N := I 158) (x := zI (n' : Int)) (y := zI (d' 0 6)) hA1 (fun _ _ => rfl) hg hq (by rw [hn])
  exact ⟨k2.1, k2.2.1, k2.2.2.1, k2.2.2.2.1, fun a ha => ⟨by rw [(k2.2.2.2.2 a ha).1, zup_row _ _ (by omega), hd a (by omega)], rfl⟩⟩
theorem tl_X7_slide16 {T : Nat → Int} {n : Nat} {d d1 : Int × (Nat × zT)} {V' : Nat → Int} {S1 : zT} {Q : zQ} (hM : zMs sh R) (ht : zTm I T n) (t2 : n ≤ 70) (hT : ∀ j, j < 70 → 0 ≤ T j ∧ T j ≤ 126) (hq : (d1.1 = 0 ∨ d1.1 = 1) ∧ d1.2.1 ≤ n ∧ d1.2.2 0 = S1 0) (h061 : S1 0 6 = 0) (et : d = if d1.1 = 0 then (0, d1.2) else tsr T n d1.2.1 d1.2.2) (q6 : ¬ d1.1 = 0 → d1.2.2 = stt V' 10 0 S1 ∧ ∀ u, u < 0 → V' u = I 161 u ∧ V' (10 + u) = I 161 (10 + u)) (fin : ∀ (V W : Nat → Int) (k n' : Nat), d.1 = 1 → d.2.2 = sads (stt V 10 0 S1) W n' → n' ≤ 5 → d.2.2 0 6 = (n' : Int) → zE X mX7_slide 0 0 90 [zR 157, zI (n' : Int), zX] [] sh (zup (mT (zrow (zrow I 161 V) 162 W) k 0) 157 3 0) L R Q) (flt : ∀ (K : zI2) (k : Nat) (f : Int), (∀ a, ¬ (a = 161 ∨ a = 162) → K a = I a) → d.1 = 0 → d.2.1 = k → Q [zI (-20 - (k : Int))] sh (zup (mT K k f) 157 3 0) L R) : zE X mX7_slide 0 0 16 [zR 157, zI 0, zX] [] sh (mT (zrow I 161 V') d1.2.1 (if d1.1 = 0 then 1 else 0)) L R Q := by
  obtain ⟨⟨s0, s1, s2, s3, s4, s5, s6, s7, s8, s9, s10, s11, s12, s13, s14, s15⟩, r0, r1, r2, r3, r4, r5, r6, r7, r8, r9, r10, r11, r12, r13, r14⟩ := id hM
  have htV := zTm_row ht (a := 161) (by decide) (by decide) V'
  have hKV : ∀ a, ¬ (a = 161 ∨ a = 162) → zrow I 161 V' a = I a := fun a ha => zrow_oR _ _ (by omega)
  have hKW : ∀ (W : Nat → Int) a, ¬ (a = 161 ∨ a = 162) → zrow (zrow I 161 V') 162 W a = I a := fun W a ha => by rw [zrow_oR _ _ (by omega), zrow_oR _ _ (by omega)]
  have ew : zrow (zrow I 161 V') 162 (I 162) = zrow I 161 V' := by rw [← zrow_rowo I (by decide), zrow_self]
  by_cases hf : d1.1 = 0
  · rw [if_pos hf]
    rw [if_pos hf] at et
    refine z_aload0 17 dX7_slide_16 rfl ?_
    refine z_getIx 20 dX7_slide_17 fl_RX7_133 (by assumption) (mT_5 _ _ _) rfl ?_
    refine z_if_ne 47 23 dX7_slide_20 (by decide) rfl (by omega) (fun h20 => ?_) (fun hz => absurd hz (by omega))
    refine zE_mono (fun r' sh' I' L' R' hz => ?_) (tl_X7_slide47F hM (by omega))
    obtain ⟨y1, y2, y3, y4, y5⟩ := hz
    rw [y1, y2, y3, y4, y5]
    exact flt _ _ _ hKV (by rw [et]) (by rw [et])
  · rw [if_neg hf]
    rw [if_neg hf] at et
    obtain ⟨q7, -⟩ := q6 hf
    have hk1 := tnl_r T n d1.2.1 hq.2.1
    have hm := mat_t (k := tnl T n d1.2.1) ht.2.2.2
    have kh := ct_X7_here (X := X) (L := L) (R := R) (f := 0) hM htV hq.2.1
    have er : tsr T n d1.2.1 d1.2.2 = if tat T n (tnl T n d1.2.1) = 59 then (if (trs T n (tnl T n d1.2.1 + 1) d1.2.2).1 = 0 then (0, (trs T n (tnl T n d1.2.1 + 1) d1.2.2).2) else (if tat T n (tnl T n (trs T n (tnl T n d1.2.1 + 1) d1.2.2).2.1) = -1 then 1 else 0, tnl T n (trs T n (tnl T n d1.2.1 + 1) d1.2.2).2.1, (trs T n (tnl T n d1.2.1 + 1) d1.2.2).2.2)) else (if tat T n (tnl T n (tnl T n d1.2.1)) = -1 then 1 else 0, tnl T n (tnl T n d1.2.1), d1.2.2) := rfl
    rw [er] at et
    by_cases h59 : tat T n (tnl T n d1.2.1) = 59
    · rw [if_pos h59] at et
      have em : mat T n (tnl T n d1.2.1) = 59 := by omega
      have hlt : tnl T n d1.2.1 < n := tat_lt (T := T) (by omega)
      rw [em] at kh
      have kr := ct_X7_ridersRead (X := X) (I := zrow I 161 V') (L := L) (R := R) (k := tnl T n d1.2.1 + 1) hM htV hT d1.2.2 (I 162) (by omega)
      rw [ew] at kr
      have htr := trs_r (T := T) (n := n) (k := tnl T n d1.2.1 + 1) (S := d1.2.2) hT t2 (by omega)
      generalize trs T n (tnl T n d1.2.1 + 1) d1.2.2 = d2 at *
      generalize tnl T n d1.2.1 = p at *
      refine z_aload0 17 dX7_slide_16 rfl ?_
      refine z_getIx 20 dX7_slide_17 fl_RX7_133 (by assumption) (mT_5 _ _ _) rfl ?_
      refine z_if_ne 47 23 dX7_slide_20 (by decide) rfl (by omega) (fun hz => absurd hz (by omega)) (fun h20 => ?_)
      refine z_aload0 24 dX7_slide_23 rfl ?_
      refine z_xV0 27 dX7_slide_24 lk_X7_slide_137 (kh) rfl (Nat.le_of_ble_eq_true rfl) (Nat.le_of_ble_eq_true rfl) (by assumption) rfl rfl ?_
      refine z_bipush 29 dX7_slide_27 (by decide) rfl ?_
      refine z_icmp_ne 47 32 dX7_slide_29 (by decide) rfl (by omega) (by omega) (fun hz => absurd hz (by omega)) (fun h29 => ?_)
      refine z_aload0 33 dX7_slide_32 rfl ?_
      refine z_dup 34 dX7_slide_33 rfl rfl ?_
      refine z_getIx 37 dX7_slide_34 fl_RX7_130 (by assumption) (mT_4 _ _ _) rfl ?_
      refine z_iconst 38 dX7_slide_37 rfl ?_
      refine z_iadd 39 dX7_slide_38 rfl ?_
      refine z_putIx 42 dX7_slide_39 fp_RX7_130 (by assumption) (mT_u4 _ _ (p + 1) _ (by omega)) rfl ?_
      refine z_aload0 43 dX7_slide_42 rfl ?_
      refine z_pV0 46 dX7_slide_43 lk_X7_slide_157 (kr) rfl (Nat.le_of_ble_eq_true rfl) (Nat.le_of_ble_eq_true rfl) (by assumption) rfl rfl (fun r0 sh0 I0 L0 R0 hpq => ?_)
      obtain ⟨w1, w2, w3, n', k', W', w4, w5⟩ := hpq
      subst w1 w2 w3 w4
      refine z_istore1 47 dX7_slide_46 (Nat.le_of_ble_eq_true rfl) rfl rfl ?_
      rcases w5 with ⟨w5, w6, w7⟩ | ⟨w5, w6, w7, w8, w9, w10, w11⟩
      · subst w5
        refine zE_mono (fun r' sh' I' L' R' hz => ?_) (tl_X7_slide47F hM (by omega))
        obtain ⟨y1, y2, y3, y4, y5⟩ := hz
        rw [y1, y2, y3, y4, y5]
        rcases w7 with ⟨w7, w8⟩ | ⟨w7, w8, w9⟩
        · rw [if_pos w7] at et
          exact flt _ _ _ (hKW W') (by rw [et]) (by rw [et, w8])
        · rw [if_neg (by omega), if_neg w8] at et
          exact flt _ _ _ (hKW W') (by rw [et]) (by rw [et, w9])
      · subst w5
        rw [if_neg (by omega)] at et
        have e6 : ∀ r, sads (stt V' 10 0 S1) W' r 0 6 = (r : Int) := fun r => by
          cases r with
          | zero =>
            show stt V' 10 0 S1 0 6 = 0
            rw [← q7, hq.2.2]
            exact h061
          | succ r => unfold sads; rw [sad_6]; rfl
        have htW := zTm_row htV (a := 162) (by decide) (by decide) W'
        have eti : tnl T n k' = k' := by rw [w7]; exact tnl_i T htr.2
        refine tl_X7_slide47O hM htW w8 (fun hne => ?_) (fun he => ?_)
        · rw [eti] at hne ⊢
          rw [← w7, if_neg hne] at et
          exact flt _ _ _ (hKW W') (by rw [et]) (by rw [et])
        · rw [eti] at he ⊢
          rw [← w7, if_pos he] at et
          have ed : d.2.2 = sads (stt V' 10 0 S1) W' n' := by rw [et, w11, q7]
          exact fin V' W' k' n' (by rw [et]) ed w10 (by rw [ed]; exact e6 n')
    · rw [if_neg h59] at et
      have hne : mat T n (tnl T n d1.2.1) ≠ 59 := by omega
      generalize hcc : mat T n (tnl T n d1.2.1) = c at *
      generalize tnl T n d1.2.1 = p at *
      refine z_aload0 17 dX7_slide_16 rfl ?_
      refine z_getIx 20 dX7_slide_17 fl_RX7_133 (by assumption) (mT_5 _ _ _) rfl ?_
      refine z_if_ne 47 23 dX7_slide_20 (by decide) rfl (by omega) (fun hz => absurd hz (by omega)) (fun h20 => ?_)
      refine z_aload0 24 dX7_slide_23 rfl ?_
      refine z_xV0 27 dX7_slide_24 lk_X7_slide_137 (kh) rfl (Nat.le_of_ble_eq_true rfl) (Nat.le_of_ble_eq_true rfl) (by assumption) rfl rfl ?_
      refine z_bipush 29 dX7_slide_27 (by decide) rfl ?_
      refine z_icmp_ne 47 32 dX7_slide_29 (by decide) rfl (by omega) (by omega) (fun h29 => ?_) (fun hz => absurd hz (by omega))
      refine tl_X7_slide47O hM htV hk1.2 (fun hne => ?_) (fun he => ?_)
      · rw [if_neg hne] at et
        exact flt _ _ _ hKV (by rw [et]) (by rw [et])
      · rw [if_pos he] at et
        have ed : d.2.2 = sads (stt V' 10 0 S1) (I 162) 0 := by rw [et]; exact q7
        have k9 := fin V' (I 162) (tnl T n p) 0 (by rw [et]) ed (by decide) (by rw [et]; show d1.2.2 0 6 = _; rw [hq.2.2]; exact h061)
        rw [ew] at k9
        exact k9
theorem op_X7_slide (h : mCA sh R I L A) : zE X mX7_slide 0 0 0 [zR 157, zX, zX] [] sh I L R (mOp sh I L R (zI (oSlide A).1) (oSlide A).2) := by
  obtain ⟨hM, hN, hHis, hKep, hTap, hShe⟩ := id h
  obtain ⟨⟨s0, s1, s2, s3, s4, s5, s6, s7, s8, s9, s10, s11, s12, s13, s14, s15⟩, r0, r1, r2, r3, r4, r5, r6, r7, r8, r9, r10, r11, r12, r13, r14⟩ := id hM
  obtain ⟨⟨hSr, hS7, hS8⟩, hQ⟩ := id hN
  have e6 := hQ.1.1
  have hn5 := hSr.1
  obtain ⟨t1, t2, t3⟩ := id hTap
  have hTr := tlst_r (t := A.2.2.2.1) (fun j x hx => (t3 j x hx).2)
  have hT : ∀ j, j < 70 → 0 ≤ tlst A.2.2.2.1 j ∧ tlst A.2.2.2.1 j ≤ 126 := fun j _ => hTr.1 j
  have ht : zTm I (tlst A.2.2.2.1) A.2.2.2.1.length := ⟨t1, t2, fun j hj => tlst_at (fun j x hx => (t3 j x hx).1) j hj, hTr.2⟩
  have q := tsl_n (T := tlst A.2.2.2.1) (n := A.2.2.2.1.length) hT t2 (nvw (I 158)) zz
  have hsr := tsl_sr (T := tlst A.2.2.2.1) (n := A.2.2.2.1.length) hT t2 hSr
  have h07 := tsl_7 (T := tlst A.2.2.2.1) (n := A.2.2.2.1.length) (nvw (I 158))
  have h08 := tsl_8 (T := tlst A.2.2.2.1) (n := A.2.2.2.1.length) (nvw (I 158))
  have eo : oSlide A = (if (tsl (tlst A.2.2.2.1) A.2.2.2.1.length (nvw (I 158))).1 = 0 then (-20 - ((tsl (tlst A.2.2.2.1) A.2.2.2.1.length (nvw (I 158))).2.1 : Int), (A.1, A.2.1, A.2.2.1, [], A.2.2.2.2)) else ((tsl (tlst A.2.2.2.1) A.2.2.2.1.length zz).2.2 0 6, (zup (tsl (tlst A.2.2.2.1) A.2.2.2.1.length zz).2.2 0 8 (A.1 0 8), [], A.2.2.1, [], A.2.2.2.2))) := by
    unfold oSlide
    rw [q.1, q.2.1]
  have q3 := q.2.2
  rw [eo]
  generalize tsl (tlst A.2.2.2.1) A.2.2.2.1.length zz = d' at q3 ⊢
  -- what a reading that is done leaves, and one that is not
  have fin : ∀ (V W : Nat → Int) (k n' : Nat), (tsl (tlst A.2.2.2.1) A.2.2.2.1.length (nvw (I 158))).1 = 1 → (tsl (tlst A.2.2.2.1) A.2.2.2.1.length (nvw (I 158))).2.2 = sads (stt V 10 0 (zup (zup (nvw (I 158)) 0 6 0) 0 7 0)) W n' → n' ≤ 5 → (tsl (tlst A.2.2.2.1) A.2.2.2.1.length (nvw (I 158))).2.2 0 6 = (n' : Int) → zE X mX7_slide 0 0 90 [zR 157, zI (n' : Int), zX] [] sh (zup (mT (zrow (zrow I 161 V) 162 W) k 0) 157 3 0) L R (mOp sh I L R (zI (if (tsl (tlst A.2.2.2.1) A.2.2.2.1.length (nvw (I 158))).1 = 0 then (-20 - ((tsl (tlst A.2.2.2.1) A.2.2.2.1.length (nvw (I 158))).2.1 : Int), (A.1, A.2.1, A.2.2.1, [], A.2.2.2.2)) else (d'.2.2 0 6, (zup d'.2.2 0 8 (A.1 0 8), [], A.2.2.1, [], A.2.2.2.2))).1) (if (tsl (tlst A.2.2.2.1) A.2.2.2.1.length (nvw (I 158))).1 = 0 then (-20 - ((tsl (tlst A.2.2.2.1) A.2.2.2.1.length (nvw (I 158))).2.1 : Int), (A.1, A.2.1, A.2.2.1, [], A.2.2.2.2)) else (d'.2.2 0 6, (zup d'.2.2 0 8 (A.1 0 8), [], A.2.2.1, [], A.2.2.2.2))).2) := fun V W k n' h1 hD hn5' h6 => by
    have hz := q3 (by omega)
    rw [if_neg (by omega)]
    have e8 : A.1 0 8 = (tsl (tlst A.2.2.2.1) A.2.2.2.1.length (nvw (I 158))).2.2 0 8 := by rw [h08, hQ.1.2.2]
    refine mOp_slide h hD ⟨hsr, by rw [h07]; omega, by rw [h08]; exact hS8⟩ ?_ (by rw [← h6]; exact zQn_6 hz) hn5'
    have := zQn_e hz (A.1 0 8)
    rw [e8, zup_self, ← e8] at this
    exact this
  have flt : ∀ (K : zI2) (k : Nat) (f : Int), (∀ a, ¬ (a = 161 ∨ a = 162) → K a = I a) → (tsl (tlst A.2.2.2.1) A.2.2.2.1.length (nvw (I 158))).1 = 0 → (tsl (tlst A.2.2.2.1) A.2.2.2.1.length (nvw (I 158))).2.1 = k → mOp sh I L R (zI (if (tsl (tlst A.2.2.2.1) A.2.2.2.1.length (nvw (I 158))).1 = 0 then (-20 - ((tsl (tlst A.2.2.2.1) A.2.2.2.1.length (nvw (I 158))).2.1 : Int), (A.1, A.2.1, A.2.2.1, [], A.2.2.2.2)) else (d'.2.2 0 6, (zup d'.2.2 0 8 (A.1 0 8), [], A.2.2.1, [], A.2.2.2.2))).1) (if (tsl (tlst A.2.2.2.1) A.2.2.2.1.length (nvw (I 158))).1 = 0 then (-20 - ((tsl (tlst A.2.2.2.1) A.2.2.2.1.length (nvw (I 158))).2.1 : Int), (A.1, A.2.1, A.2.2.1, [], A.2.2.2.2)) else (d'.2.2 0 6, (zup d'.2.2 0 8 (A.1 0 8), [], A.2.2.1, [], A.2.2.2.2))).2 [zI (-20 - (k : Int))] sh (zup (mT K k f) 157 3 0) L R := fun K k f hK h0 hk => by
    rw [if_pos h0, hk]
    exact mOp_fault h hK rfl
  clear q q3 eo hsr h07 h08
  have et : tsl (tlst A.2.2.2.1) A.2.2.2.1.length (nvw (I 158)) = if (ttl (tlst A.2.2.2.1) A.2.2.2.1.length 10 0 0 (zup (zup (nvw (I 158)) 0 6 0) 0 7 0)).1 = 0 then (0, (ttl (tlst A.2.2.2.1) A.2.2.2.1.length 10 0 0 (zup (zup (nvw (I 158)) 0 6 0) 0 7 0)).2) else tsr (tlst A.2.2.2.1) A.2.2.2.1.length (ttl (tlst A.2.2.2.1) A.2.2.2.1.length 10 0 0 (zup (zup (nvw (I 158)) 0 6 0) 0 7 0)).2.1 (ttl (tlst A.2.2.2.1) A.2.2.2.1.length 10 0 0 (zup (zup (nvw (I 158)) 0 6 0) 0 7 0)).2.2 := rfl
  generalize tsl (tlst A.2.2.2.1) A.2.2.2.1.length (nvw (I 158)) = d at *
  have hq := ttl_r hT t2 10 0 0 (zup (zup (nvw (I 158)) 0 6 0) 0 7 0) (Nat.zero_le _)
  have h061 : (zup (zup (nvw (I 158)) 0 6 0) 0 7 0) 0 6 = 0 := by rw [zup_ne _ _ (by omega), zup_at]
  have kt := ct_X7_turnsRead (X := X) (I := I) (L := L) (R := R) hM ht (I 161) (zup (zup (nvw (I 158)) 0 6 0) 0 7 0)
  generalize ttl (tlst A.2.2.2.1) A.2.2.2.1.length 10 0 0 (zup (zup (nvw (I 158)) 0 6 0) 0 7 0) = d1 at *
  generalize tlst A.2.2.2.1 = T at *
  generalize A.2.2.2.1.length = n at *
  rw [zrow_self] at kt
  have e00 : zup (zup I 157 4 0) 157 5 0 = mT I 0 0 := rfl
  refine z_aload0 1 dX7_slide_0 rfl ?_
  refine z_iconst 2 dX7_slide_1 rfl ?_
  refine z_putI 5 dX7_slide_2 fp_RX7_130 (by assumption) rfl ?_
  refine z_aload0 6 dX7_slide_5 rfl ?_
  refine z_iconst 7 dX7_slide_6 rfl ?_
  refine z_putZx 10 dX7_slide_7 fp_RX7_133 (by omega) (by assumption) (e00) rfl ?_
  refine z_aload0 11 dX7_slide_10 rfl ?_
  refine z_pV0 14 dX7_slide_11 lk_X7_slide_154 (kt) rfl (Nat.le_of_ble_eq_true rfl) (Nat.le_of_ble_eq_true rfl) (by assumption) rfl rfl (fun r0 sh0 I0 L0 R0 hpq => ?_)
  obtain ⟨q1, q2, q3, q4, V', q5, q6⟩ := hpq
  subst r0 sh0 L0 R0 I0
  have htV := zTm_row ht (a := 161) (by decide) (by decide) V'
  refine z_iconst 15 dX7_slide_14 rfl ?_
  refine z_istore1 16 dX7_slide_15 (Nat.le_of_ble_eq_true rfl) rfl rfl ?_
  exact tl_X7_slide16 hM ht t2 hT hq h061 et q6 fin flt
end MODZ
