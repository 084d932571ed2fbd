/-! ===== the call slide ===== -/
def tlst (t : List Int) : Nat → Int := fun j => t.getD j 0
def zz : zT := fun _ _ => 0
def oSlide (A : zA) : Int × zA :=
  if (tsl (tlst A.2.2.2.1) A.2.2.2.1.length zz).1 = 0 then (-20 - ((tsl (tlst A.2.2.2.1) A.2.2.2.1.length zz).2.1 : Int), (A.1, A.2.1, A.2.2.1, [], A.2.2.2.2))
  else ((tsl (tlst A.2.2.2.1) A.2.2.2.1.length zz).2.2 0 6, (zup (tsl (tlst A.2.2.2.1) A.2.2.2.1.length zz).2.2 0 8 (A.1 0 8), [], A.2.2.1, [], A.2.2.2.2))
theorem tsl_k {T : Nat → Int} {n : Nat} (hT : ∀ j, j < 70 → 0 ≤ T j ∧ T j ≤ 126) (hn : n ≤ 70) (S : zT) : (tsl T n S).2.1 ≤ 70 ∧ ((tsl T n S).1 = 0 ∨ (tsl T n S).1 = 1) := by
  have hq := ttl_r hT hn 10 0 0 (zup (zup S 0 6 0) 0 7 0) (Nat.zero_le n)
  have hk1 := tnl_r T n (ttl T n 10 0 0 (zup (zup S 0 6 0) 0 7 0)).2.1 hq.2.1
  have hk3 := tnl_r T n _ hk1.2
  unfold tsl
  split
  · exact ⟨by show (ttl T n 10 0 0 (zup (zup S 0 6 0) 0 7 0)).2.1 ≤ 70; omega, Or.inl rfl⟩
  · unfold tsr
    split
    · have hk2 := tat_lt (T := T) (n := n) (k := tnl T n (ttl T n 10 0 0 (zup (zup S 0 6 0) 0 7 0)).2.1) (by omega)
      have p := trs_r (S := (ttl T n 10 0 0 (zup (zup S 0 6 0) 0 7 0)).2.2) hT hn (show tnl T n (ttl T n 10 0 0 (zup (zup S 0 6 0) 0 7 0)).2.1 + 1 ≤ n from hk2)
      split
      · exact ⟨Nat.le_trans p.2 hn, Or.inl rfl⟩
      · have hk4 := tnl_r T n _ p.2
        refine ⟨by show tnl T n _ ≤ 70; omega, ?_⟩
        show (if _ then (1 : Int) else 0) = 0 ∨ (if _ then (1 : Int) else 0) = 1
        split
        · exact Or.inr rfl
        · exact Or.inl rfl
    · refine ⟨by show tnl T n _ ≤ 70; omega, ?_⟩
      show (if _ then (1 : Int) else 0) = 0 ∨ (if _ then (1 : Int) else 0) = 1
      split
      · exact Or.inr rfl
      · exact Or.inl rfl
theorem zz_sr : zSr zz := ⟨⟨by decide, by decide⟩, fun _ _ => ⟨by show (0 : Int) ≤ 0; omega, by show (0 : Int) ≤ 9; omega⟩, fun _ _ => ⟨by show (0 : Int) ≤ 0; omega, by show (0 : Int) ≤ 9; omega⟩, fun _ _ => ⟨by show (0 : Int) ≤ 0; omega, by show (0 : Int) ≤ 4; omega⟩, fun _ _ => ⟨by show (0 : Int) ≤ 0; omega, by show (0 : Int) ≤ 20; omega⟩, fun _ _ => ⟨by show (0 : Int) ≤ 0; omega, by show (0 : Int) ≤ 7; omega⟩, fun _ _ => ⟨by show (0 : Int) ≤ 0; omega, by show (0 : Int) ≤ 30; omega⟩⟩
theorem tlst_at {t : List Int} {T : Nat → Int} (h : ∀ j x, t[j]? = some x → T j = x) : ∀ j, j < t.length → T j = tlst t j := fun j hj => by
  rw [h j t[j] (List.getElem?_eq_getElem hj)]
  unfold tlst
  rw [List.getD_eq_getElem?_getD, List.getElem?_eq_getElem hj]
  rfl
section TOPM
variable {X : zXs} {sh : zH} {I L : zI2} {R : zR2} {P : Nat → Nat} {A : zA}
theorem op_X6_slide (h : zCA sh R P I L A) : zE X mX6_slide 0 0 0 [zR 0, zX, zX] [] sh I L R (zOp sh I L R (zI (oSlide A).1) (oSlide A).2) := by
  obtain ⟨hC, hNow, hTri, hHis, hKep, hTap, hShe, hOrd⟩ := id h
  obtain ⟨⟨c0, c1, c2, c3, c4, c5, c6, c7, c8, c9, c10, c11⟩, ⟨n1, n8, n73⟩, ⟨hh, hpm⟩, kh, tp, ⟨shs, shk⟩, spd, o1, o2, ra⟩ := id hC
  obtain ⟨⟨s0, s1, s2, s3, s4, s5, s6⟩, r0, r1, r2, r3, r4, r5⟩ := id n1
  have n80 := n8.1.1
  have hh0 := hh.1.1
  have e6 := hNow.2.1.1
  have hn5 := hNow.1.1.1
  obtain ⟨hl1, hl7, hT, htl⟩ := id hTap
  have htr : zTr I 138 (I 139) A.2.2.2.1.length := ⟨hl1, hl7, rfl, hT⟩
  have tp0 := tp.1
  have n80' := n8.1.1
  have eT : tsl (I 139) A.2.2.2.1.length = tsl (tlst A.2.2.2.1) A.2.2.2.1.length := funext fun S => tsl_T (tlst_at htl) S
  have q := tsl_n (T := I 139) (n := A.2.2.2.1.length) hT hl7 (zvw I 8) zz
  have hs8 := tsl_sr (T := I 139) (n := A.2.2.2.1.length) hT hl7 hTri
  have h07 := tsl_7 (T := I 139) (n := A.2.2.2.1.length) (zvw I 8)
  have k1 := ct_X5_readSlide (X := X) (I := I) (L := L) (R := R) (S := zvw I 8) tp htr n8 (Or.inr (by decide))
  rw [zsl_self] at k1
  rw [eT] at q
  have hk : (tsl (I 139) A.2.2.2.1.length (zvw I 8)).2.1 ≤ 70 ∧ ((tsl (I 139) A.2.2.2.1.length (zvw I 8)).1 = 0 ∨ (tsl (I 139) A.2.2.2.1.length (zvw I 8)).1 = 1) := tsl_k hT hl7 _
  rw [eT] at k1 hs8 h07 hk
  have eo : oSlide A = (if (tsl (tlst A.2.2.2.1) A.2.2.2.1.length (zvw I 8)).1 = 0 then (-20 - ((tsl (tlst A.2.2.2.1) A.2.2.2.1.length (zvw I 8)).2.1 : Int), (A.1, A.2.1, A.2.2.1, [], A.2.2.2.2)) else ((tsl (tlst A.2.2.2.1) A.2.2.2.1.length zz).2.2 0 6, (zup (tsl (tlst A.2.2.2.1) A.2.2.2.1.length zz).2.2 0 8 (A.1 0 8), [], A.2.2.1, [], A.2.2.2.2))) := by
    unfold oSlide
    rw [q.1, q.2.1]
  have q3 := q.2.2
  rw [eo]
  generalize tsl (tlst A.2.2.2.1) A.2.2.2.1.length (zvw I 8) = d at k1 hs8 h07 hk q3 ⊢
  generalize tsl (tlst A.2.2.2.1) A.2.2.2.1.length zz = d' at q3 ⊢
  generalize hJ : zup (ztk (zsl I 8 d.2.2) 138 d.2.1) 138 1 0 = J
  have hJo : ∀ a, ¬ (8 ≤ a ∧ a < 15) → a ≠ 138 → J a = I a := fun a h1 h2 => by rw [← hJ, zup_row _ _ h2, ztk_o _ _ _ h2, zsl_oR _ _ _ (by omega)]
  have hJ8 : ∀ i, i < 7 → zvw J 8 i = d.2.2 i := fun i hi => by rw [← hJ, zvw_up _ (by omega), zvw_r _ _ hi, ztk_o _ _ _ (by omega)]; exact funext fun c => zsl_r _ _ _ hi c
  have hJ1 : J 138 1 = 0 := by rw [← hJ, zup_at]
  have hA1 : zCA sh R P J L (A.1, A.2.1, A.2.2.1, [], A.2.2.2.2) := ⟨hC, cNow_of (fun a _ _ => hJo a (by omega) (by omega)) hNow, zSr_w (fun i hi => (hJ8 i hi).symm) hs8, cHis_of hpm (fun a _ => hJo a (by omega) (by omega)) hHis, cKep_of (fun a _ => hJo a (by omega) (by omega)) hKep, ⟨hJ1, Nat.zero_le _, fun j hj => by rw [hJo 139 (by omega) (by omega)]; exact hT j hj, fun j x hx => by cases hx⟩, cShe_of (fun a _ _ => ⟨hJo a (by omega) (by omega), rfl⟩) hShe, cOrd_of (fun a _ => hJo a (by omega) (by omega)) hOrd⟩
  have hr8 := hNow.1.2.2
  have e18 : I 1 8 = A.1 0 8 := by have := hNow.2.1.2.2; rw [zvw_0] at this; exact this
  refine z_aload0 1 dX6_slide_0 rfl ?_
  refine z_getR 4 dX6_slide_1 fl_RX6_39 (by assumption) (by assumption) rfl ?_
  refine z_aload0 5 dX6_slide_4 rfl ?_
  refine z_getR 8 dX6_slide_5 fl_RX6_16 (by assumption) (by assumption) rfl ?_
  refine z_xV1 11 dX6_slide_8 lk_X6_slide_117 (k1) rfl (Nat.le_of_ble_eq_true rfl) (Nat.le_of_ble_eq_true rfl) (by assumption) rfl rfl ?_
  refine z_istore1 12 dX6_slide_11 (Nat.le_of_ble_eq_true rfl) rfl rfl ?_
  refine z_bipush 14 dX6_slide_12 (by decide) rfl ?_
  refine z_aload0 15 dX6_slide_14 rfl ?_
  refine z_getR 18 dX6_slide_15 fl_RX6_39 (by assumption) (by assumption) rfl ?_
  refine z_getIx 21 dX6_slide_18 fl_RX6_121 (by assumption) (ztk_k _ _ _) rfl ?_
  refine z_isub 22 dX6_slide_21 rfl ?_
  refine z_istore2 23 dX6_slide_22 (Nat.le_of_ble_eq_true rfl) rfl rfl ?_
  refine z_aload0 24 dX6_slide_23 rfl ?_
  refine z_getR 27 dX6_slide_24 fl_RX6_39 (by assumption) (by assumption) rfl ?_
  refine z_xVv0 30 dX6_slide_27 lk_X6_slide_124 (ct_X5_clear tp) rfl (Nat.le_of_ble_eq_true rfl) (Nat.le_of_ble_eq_true rfl) (by assumption) rfl rfl ?_
  rw [hJ]
  refine z_iload1 31 dX6_slide_30 rfl ?_
  refine z_if_ne 36 34 dX6_slide_31 (by decide) rfl (by omega) (fun h31 => ?_) (fun h31 => ?_)
  · refine z_aload0 37 dX6_slide_36 rfl ?_
    refine z_getR 40 dX6_slide_37 fl_RX6_16 (by assumption) (by assumption) rfl ?_
    refine z_aload0 41 dX6_slide_40 rfl ?_
    refine z_getR 44 dX6_slide_41 fl_RX6_10 (by assumption) (by assumption) rfl ?_
    refine z_getIx 47 dX6_slide_44 fl_RX6_127 (by assumption) ((show J 1 8 = A.1 0 8 by rw [hJo 1 (by omega) (by omega)]; exact e18)) rfl ?_
    refine z_putI 50 dX6_slide_47 fp_RX6_127 (by assumption) rfl ?_
    rw [if_neg (by omega)]
    have hz := q3 (by omega)
    generalize hK : zup J 8 8 (A.1 0 8) = K
    have hKo : ∀ a, a ≠ 8 → K a = J a := fun a ha => by rw [← hK, zup_row _ _ ha]
    have hK8 : ∀ i, i < 7 → zup d.2.2 0 8 (A.1 0 8) i = zvw K 8 i := fun i hi => by
      rw [← hK, zvw_upi0]
      by_cases h0 : i = 0
      · subst h0
        funext c
        unfold zup
        split
        · rfl
        · rw [hJ8 0 (by decide)]
      · rw [zup_row _ _ h0, zup_row _ _ h0, hJ8 i hi]
    have hg8 : zSg (zvw K 8) := zSg_w hK8 ⟨zSr_up0 hs8 (Or.inl (by decide)), by rw [zup_ne _ _ (by omega), h07]; omega, by rw [zup_at, ← e18, ← zvw_0 I 1]; exact hr8⟩
    have hq8 : zQe (zvw K 8) (zup d'.2.2 0 8 (A.1 0 8)) := zQe_w hK8 (zQn_e hz _)
    have hA2 : zCA sh R P K L (A.1, A.2.1, A.2.2.1, [], A.2.2.2.2) := zCA_scr hA1 (fun a ha => hKo a (by omega)) (fun _ _ => rfl) hg8.1 (cOrd_of (fun a _ => hKo a (by omega)) hA1.2.2.2.2.2.2.2)
    have k3 := cti_become (X := X) (I := K) (L := L) n1 n8 (Or.inr (by decide))
    generalize hM : zsl K 1 (sbc (zvw K 8) (zvw K 1)) = M at k3
    have hMo : ∀ a, ¬ (1 ≤ a ∧ a < 8) → M a = K a := fun a ha => by rw [← hM]; exact zsl_oR _ _ _ (by omega)
    have hqM : zQe (sbc (zvw K 8) (zvw K 1)) (zup d'.2.2 0 8 (A.1 0 8)) := (sbc_q _ _ hg8.1.1.2).tr hq8
    have hA3 : zCA sh R P M L (zup d'.2.2 0 8 (A.1 0 8), A.2.1, A.2.2.1, [], A.2.2.2.2) := zCA_now hA2 (fun a h1 _ => hMo a h1) (by rw [← hM]; exact cNow_sl (sbc_sg _ _ hg8) hqM)
    have e16 : M 1 6 = d'.2.2 0 6 := by
      have := hqM.1.1
      rw [← hM, zsl_0, this, zup_ne _ _ (by omega)]
    refine z_aload0 51 dX6_slide_50 rfl ?_
    refine z_getR 54 dX6_slide_51 fl_RX6_10 (by assumption) (by assumption) rfl ?_
    refine z_aload0 55 dX6_slide_54 rfl ?_
    refine z_getR 58 dX6_slide_55 fl_RX6_16 (by assumption) (by assumption) rfl ?_
    refine z_xVv1 61 dX6_slide_58 lk_X6_slide_130 (k3) rfl (Nat.le_of_ble_eq_true rfl) (Nat.le_of_ble_eq_true rfl) (by assumption) rfl rfl ?_
    have hM0 := hC.1
    refine z_aload0 62 dX6_slide_61 rfl ?_
    refine z_getR 65 dX6_slide_62 fl_RX6_22 (by assumption) (by assumption) rfl ?_
    refine z_xVv0 68 dX6_slide_65 lk_X6_slide_79 (ct_X0_forgetAll hh) rfl (Nat.le_of_ble_eq_true rfl) (Nat.le_of_ble_eq_true rfl) (by assumption) rfl rfl ?_
    refine z_aload0 69 dX6_slide_68 rfl ?_
    refine z_getR 72 dX6_slide_69 fl_RX6_10 (by assumption) (by assumption) rfl ?_
    refine z_getIx 75 dX6_slide_72 fl_RX6_134 (by assumption) ((show zup M 15 1 0 1 6 = d'.2.2 0 6 by rw [zup_ne _ _ (by omega)]; exact e16)) rfl ?_
    exact z_ireturn dX6_slide_75 rfl ((by
        have hr : ∀ a, ¬ (a = 15) → zup M 15 1 0 a = M a := fun a ha => zup_row _ _ ha
        exact zOp_of (zCA_his (l := []) hA3 (fun a ha => hr a (by omega)) hC ⟨zup_at _ _ _ _, Nat.zero_le _, fun i hi => by rw [zvw_up _ (by have := zPm_r hpm hi; omega)]; exact hA3.2.2.2.1.2.2.1 i hi, fun i s hs => by cases hs⟩) (fun a ha => by rw [hr a (by omega), hMo a (by omega), hKo a (by omega), hJo a (by omega) (by omega)]) (fun _ _ => rfl) rfl))
  · refine z_iload2 35 dX6_slide_34 rfl ?_
    exact z_ireturn dX6_slide_35 rfl ((by rw [if_pos (by omega)]; exact zOp_of hA1 (fun a ha => hJo a (by omega) (by omega)) (fun _ _ => rfl) rfl))
end TOPM
