theorem sgb_q {P P' S S' : zT} (hP : zQe P P') (hS : zQe S S') (e : S 0 6 ≤ P 0 6) (h5 : S 0 6 ≤ 5) : zQe (sgb P S) (sgb P' S') := by
  refine ⟨⟨by rw [sgb_06, sgb_06]; exact hS.1.1, by rw [sgb_07, sgb_07]; exact hP.1.2.1, by rw [sgb_08, sgb_08]; exact hP.1.2.2⟩, fun t ht => ⟨by rw [sgb_1 _ _ ht, sgb_1 _ _ ht]; exact (hP.2.1 t ht).1, by rw [sgb_2 _ _ ht, sgb_2 _ _ ht]; exact (hP.2.1 t ht).2⟩, fun r hr => ?_⟩
  rw [sgb_06] at hr
  have hk := hS.2.2 r hr
  have hp := hP.2.2 r (by omega)
  refine ⟨by rw [sgb_k _ _ (Or.inl rfl), sgb_k _ _ (Or.inl rfl)]; exact hk.1, by rw [sgb_k _ _ (Or.inr (Or.inl rfl)), sgb_k _ _ (Or.inr (Or.inl rfl))]; exact hk.2.1, by rw [sgb_k _ _ (Or.inr (Or.inr rfl)), sgb_k _ _ (Or.inr (Or.inr rfl))]; exact hk.2.2.1, by rw [sgb_6 _ _ (by omega), sgb_6 _ _ (by omega)]; exact hp.2.2.2⟩
theorem sgb_sg {P S : zT} (hP : zSg P) (hS : zSg S) : zSg (sgb P S) := ⟨sgb_sr _ _ hP.1 hS.1, by rw [sgb_07]; exact hP.2.1, by rw [sgb_08]; exact hP.2.2⟩
/-! what becoming another history leaves -/
theorem hbc_o {P P2 : Nat → Nat} {a : Nat} : ∀ (m i : Nat) (I : zI2), i + m ≤ 8 → (∀ q, q < 8 → a < P q ∨ P q + 7 ≤ a) → hbc P P2 m i I a = I a
  | 0, i, I, _, _ => rfl
  | m + 1, i, I, hi, h => by
    unfold hbc
    rw [hbc_o m (i + 1) _ (by omega) h, zsl_oR _ _ _ (h i (by omega))]
theorem hbc_v {P P2 : Nat → Nat} (hd : ∀ i j, i < 8 → j < 8 → i ≠ j → P i + 7 ≤ P j ∨ P j + 7 ≤ P i) (h2 : ∀ i j, i < 8 → j < 8 → P i + 7 ≤ P2 j ∨ P2 j + 7 ≤ P i) : ∀ (m i : Nat) (I : zI2) (j : Nat), i + m ≤ 8 → j < 8 → zvw (hbc P P2 m i I) (P j) = zvw (if i ≤ j ∧ j < i + m then zsl I (P j) (sbc (zvw I (P2 j)) (zvw I (P j))) else I) (P j)
  | 0, i, I, j, hi, hj => by rw [if_neg (by omega)]; rfl
  | m + 1, i, I, j, hi, hj => by
    unfold hbc
    rw [hbc_v hd h2 m (i + 1) _ j (by omega) hj]
    by_cases hij : j = i
    · subst hij
      rw [if_neg (by omega), if_pos (by omega)]
    · by_cases hc : i + 1 ≤ j ∧ j < i + 1 + m
      · rw [if_pos hc, if_pos (by omega)]
        have e1 := zvw_slo I (h2 i j (by omega) hj) (sbc (zvw I (P2 i)) (zvw I (P i)))
        have e2 := zvw_slo I (hd i j (by omega) hj (by omega)) (sbc (zvw I (P2 i)) (zvw I (P i)))
        rw [e1, e2]
        exact zvw_o fun q hq => funext fun c => by rw [zsl_r _ _ _ hq, zsl_r _ _ _ hq]
      · rw [if_neg hc, if_neg (by omega)]
        exact zvw_slo _ (by have := hd i j (by omega) hj (by omega); omega) _
theorem hbc_g {P P2 : Nat → Nat} {I : zI2} {n : Nat} (hd : ∀ i j, i < 8 → j < 8 → i ≠ j → P i + 7 ≤ P j ∨ P j + 7 ≤ P i) (h2 : ∀ i j, i < 8 → j < 8 → P i + 7 ≤ P2 j ∨ P2 j + 7 ≤ P i) (hn : n ≤ 8) (hg : ∀ i, i < 8 → zSg (zvw I (P i))) (hg2 : ∀ i, i < 8 → zSg (zvw I (P2 i))) : (∀ i, i < 8 → zSg (zvw (hbc P P2 n 0 I) (P i))) ∧ ∀ i s, i < n → zQe (zvw I (P2 i)) s → zQe (zvw (hbc P P2 n 0 I) (P i)) s := by
  refine ⟨fun i hi => ?_, fun i s hi hs => ?_⟩
  · rw [hbc_v hd h2 n 0 I i (by omega) hi]
    split
    · exact zSg_w (fun q hq => (zvw_sl _ _ _ hq).symm) (sbc_sg _ _ (hg2 i hi))
    · exact hg i hi
  · rw [hbc_v hd h2 n 0 I i (by omega) (by omega), if_pos (by omega)]
    exact zQe_w (fun q hq => (zvw_sl _ _ _ hq).symm) ((sbc_q _ _ (hg2 i (by omega)).1.1.2).tr hs)
theorem zKP_d : ∀ i j, i < 8 → j < 8 → i ≠ j → zKP i + 7 ≤ zKP j ∨ zKP j + 7 ≤ zKP i := fun i j _ _ h => by unfold zKP; omega
def oImage (A : zA) : zA := (A.1, (A.2.1, (some (A.1, A.2.1), A.2.2.2)))
def oRestore (A : zA) : Int × zA := match A.2.2.1 with
  | none => (-4, A)
  | some q => (1, (q.1, (q.2, A.2.2)))
section TOPG
variable {X : zXs} {sh : zH} {L : zI2}
theorem lp_X6_drift {n : Int} {Ia : zI2} {Ra : zR2} : ∀ (m i : Nat) (I : zI2) (R : zR2) (P : Nat → Nat) (A : zA), (i : Int) + m = n → n ≤ 40 → zCA sh R P I L A → A.1 0 7 + m ≤ 9999 → (∀ a, 157 ≤ a → I a = Ia a) → (∀ a, 157 ≤ a → R a = Ra a) → zE X mX6_drift 0 0 32 [zR 0, zI n, zI (i : Int)] [] sh I L R (zOp sh Ia L Ra (zI (sthr (odri m A).1)) (odri m A))
  | 0, i, I, R, P, A, hi, hn, h, h7, hI, hR => by
    obtain ⟨hC, hNow, hTri, hHis, hKep, hTap, hShe, hOrd⟩ := id h
    obtain ⟨⟨c0, c1, c2, c3, c4, c5, c6, c7, c8, c9, c10, c11⟩, ⟨n1, n8, n73⟩, ⟨hh, hpm⟩, kh, tp, ⟨shs, shk⟩, spd, o1, o2, ra⟩ := id hC
    obtain ⟨⟨s0, s1, s2, s3, s4, s5, s6⟩, r0, r1, r2, r3, r4, r5⟩ := id n1
    have n80 := n8.1.1
    have hh0 := hh.1.1
    have e6 := hNow.2.1.1
    have hn5 := hNow.1.1.1
    refine z_iload2 33 dX6_drift_32 rfl ?_
    refine z_iload1 34 dX6_drift_33 rfl ?_
    refine z_icmp_ge 65 37 dX6_drift_34 (by decide) rfl (by omega) (by omega) (fun h34 => ?_) (fun hz => absurd hz (by omega))
    refine z_aload0 66 dX6_drift_65 rfl ?_
    refine z_getR 69 dX6_drift_66 fl_RX6_10 (by assumption) (by assumption) rfl ?_
    refine z_xV0 72 dX6_drift_69 lk_X6_drift_144 (cti_through n1 hNow.1.1) rfl (Nat.le_of_ble_eq_true rfl) (Nat.le_of_ble_eq_true rfl) (by assumption) rfl rfl ?_
    exact z_ireturn dX6_drift_72 rfl (zOp_of h hI hR (by rw [sthr_c hNow.2]; rfl))
  | m + 1, i, I, R, P, A, hi, hn, h, h7, hI, hR => by
    obtain ⟨hC, hNow, hTri, hHis, hKep, hTap, hShe, hOrd⟩ := id h
    obtain ⟨⟨c0, c1, c2, c3, c4, c5, c6, c7, c8, c9, c10, c11⟩, ⟨n1, n8, n73⟩, ⟨hh, hpm⟩, kh, tp, ⟨shs, shk⟩, spd, o1, o2, ra⟩ := id hC
    obtain ⟨⟨s0, s1, s2, s3, s4, s5, s6⟩, r0, r1, r2, r3, r4, r5⟩ := id n1
    have n80 := n8.1.1
    have hh0 := hh.1.1
    have e6 := hNow.2.1.1
    have hn5 := hNow.1.1.1
    refine z_iload2 33 dX6_drift_32 rfl ?_
    refine z_iload1 34 dX6_drift_33 rfl ?_
    refine z_icmp_ge 65 37 dX6_drift_34 (by decide) rfl (by omega) (by omega) (fun hz => absurd hz (by omega)) (fun h34 => ?_)
    refine z_aload0 38 dX6_drift_37 rfl ?_
    refine z_getR 41 dX6_drift_38 fl_RX6_22 (by assumption) (by assumption) rfl ?_
    refine z_aload0 42 dX6_drift_41 rfl ?_
    refine z_getR 45 dX6_drift_42 fl_RX6_10 (by assumption) (by assumption) rfl ?_
    refine z_pV1 48 dX6_drift_45 lk_X6_drift_157 (ct_rem h) rfl (Nat.le_of_ble_eq_true rfl) (Nat.le_of_ble_eq_true rfl) (by assumption) rfl rfl (fun r0 sh0 I0 L0 R0 hpq => ?_)
    obtain ⟨q1, q2, q3, ⟨P2, h2⟩, q4, q5⟩ := hpq
    subst r0 sh0 L0
    have eR : R0 0 = R 0 := q5 0 (by decide)
    obtain ⟨hC2, hNow2, -⟩ := id h2
    have p7 : (oPush A).1 0 7 = A.1 0 7 := rfl
    have p9 := hNow2.2.1.2.1
    obtain ⟨W2, hsd⟩ := cti_driftOnce (X := X) (I := I0) (L := L) hC2.2.1.1 hNow2.1.1 (Or.inr (by decide : 1 + 7 ≤ 141)) spd
    have hse : zSg (sdo (zvw I0 1)) := sdo_sg hNow2.1 (by omega)
    have hs7 := sdo_07 A.1
    have h3 := zCA_now h2 (fun a h1 h2 => by rw [zsl_oR _ _ _ (by omega), zrow_oR _ _ h2]) (cNow_sl (J := zrow I0 141 W2) hse (sdo_c hNow2.2 hNow2.1.1))
    refine z_aload0 49 dX6_drift_48 rfl ?_
    refine z_getR 52 dX6_drift_49 fl_RX6_10 (by assumption) (by rw [eR]; assumption) rfl ?_
    refine z_aload0 53 dX6_drift_52 rfl ?_
    refine z_getR 56 dX6_drift_53 fl_RX6_49 (by assumption) (by rw [eR]; assumption) rfl ?_
    refine z_xVv1 59 dX6_drift_56 lk_X6_drift_164 (hsd) rfl (Nat.le_of_ble_eq_true rfl) (Nat.le_of_ble_eq_true rfl) (by assumption) rfl rfl ?_
    refine z_iinc2 62 dX6_drift_59 (Nat.le_of_ble_eq_true rfl) rfl rfl ?_
    refine z_goto 32 dX6_drift_62 (by decide) ?_
    exact lp_X6_drift m (i + 1) _ _ P2 _ (by omega) hn h3 (by show sdo A.1 0 7 + m ≤ 9999; omega) (fun a ha => by rw [zsl_oR _ _ _ (by omega), zrow_oR _ _ (by omega), q4 a (by omega)]; exact hI a ha) (fun a ha => by rw [q5 a (by omega)]; exact hR a ha)
variable {I : zI2} {R : zR2} {P : Nat → Nat} {A : zA}
theorem op_X6_drift {n : Int} (h : zCA sh R P I L A) (hn : -2147483648 ≤ n ∧ n ≤ 2147483647) : zE X mX6_drift 0 0 0 [zR 0, zI n, zX] [] sh I L R (zOp sh I L R (zI (oDrift A n).1) (oDrift A n).2) := by
  obtain ⟨hC, hNow, hTri, hHis, hKep, hTap, hShe, hOrd⟩ := id h
  obtain ⟨⟨c0, c1, c2, c3, c4, c5, c6, c7, c8, c9, c10, c11⟩, ⟨n1, n8, n73⟩, ⟨hh, hpm⟩, kh, tp, ⟨shs, shk⟩, spd, o1, o2, ra⟩ := id hC
  obtain ⟨⟨s0, s1, s2, s3, s4, s5, s6⟩, r0, r1, r2, r3, r4, r5⟩ := id n1
  have n80 := n8.1.1
  have hh0 := hh.1.1
  have e6 := hNow.2.1.1
  have hn5 := hNow.1.1.1
  have z1 := zwi_r n 1 40
  have e17 : I 1 7 = A.1 0 7 := by have := hNow.2.1.2.1; rw [zvw_0] at this; exact this
  have hr7 := hNow.1.2.1
  rw [zvw_0, e17] at hr7
  refine z_iload1 1 dX6_drift_0 rfl ?_
  refine z_iconst 2 dX6_drift_1 rfl ?_
  refine z_bipush 4 dX6_drift_2 (by decide) rfl ?_
  refine z_xS3 7 dX6_drift_4 lk_X6_drift_71 (ct_X6_within (by omega) (by omega) (by omega)) rfl (Nat.le_of_ble_eq_true rfl) (Nat.le_of_ble_eq_true rfl) rfl ?_
  refine z_if_ne 12 10 dX6_drift_7 (by decide) rfl (by omega) (fun h7 => ?_) (fun h7 => ?_)
  · have g1 := zwi_ne0 h7
    refine z_aload0 13 dX6_drift_12 rfl ?_
    refine z_getR 16 dX6_drift_13 fl_RX6_10 (by assumption) (by assumption) rfl ?_
    refine z_getIx 19 dX6_drift_16 fl_RX6_137 (by assumption) (e17) rfl ?_
    refine z_iload1 20 dX6_drift_19 rfl ?_
    refine z_iadd 21 dX6_drift_20 rfl ?_
    refine z_sipush 24 dX6_drift_21 (by decide) rfl ?_
    refine z_icmp_le 30 27 dX6_drift_24 (by decide) rfl (by omega) (by omega) (fun h24 => ?_) (fun h24 => ?_)
    · refine z_iconst 31 dX6_drift_30 rfl ?_
      refine z_istore2 32 dX6_drift_31 (Nat.le_of_ble_eq_true rfl) rfl rfl ?_
      rw [show oDrift A n = (sthr (odri n.toNat A).1, odri n.toNat A) by unfold oDrift; rw [if_pos (by omega), if_neg (by omega)]]
      exact lp_X6_drift n.toNat 0 I R P A (by omega) (by omega) h (by omega) (fun _ _ => rfl) (fun _ _ => rfl)
    · refine z_bipush 29 dX6_drift_27 (by decide) rfl ?_
      exact z_ireturn dX6_drift_29 rfl ((by rw [show oDrift A n = (-3, A) by unfold oDrift; rw [if_pos (by omega), if_pos (by omega)]]; exact zOp_same h rfl))
  · have g1 := zwi_eq0 h7
    refine z_iconst 11 dX6_drift_10 rfl ?_
    exact z_ireturn dX6_drift_11 rfl ((by rw [show oDrift A n = (-1, A) by unfold oDrift; rw [if_neg (by omega)]]; exact zOp_same h rfl))
theorem op_X6_undo (h : zCA sh R P I L A) (hA : ∀ s ∈ A.2.1, s 0 6 = A.1 0 6) : zE X mX6_undo 0 0 0 [zR 0] [] sh I L R (zOp sh I L R (zI (oUndo A).1) (oUndo A).2) := by
  obtain ⟨hC, hNow, hTri, hHis, hKep, hTap, hShe, hOrd⟩ := id h
  obtain ⟨⟨c0, c1, c2, c3, c4, c5, c6, c7, c8, c9, c10, c11⟩, ⟨n1, n8, n73⟩, ⟨hh, hpm⟩, kh, tp, ⟨shs, shk⟩, spd, o1, o2, ra⟩ := id hC
  obtain ⟨⟨s0, s1, s2, s3, s4, s5, s6⟩, r0, r1, r2, r3, r4, r5⟩ := id n1
  have n80 := n8.1.1
  have hh0 := hh.1.1
  have e6 := hNow.2.1.1
  have hn5 := hNow.1.1.1
  have hl1 := hHis.1
  have hl8 := hHis.2.1
  rcases List.eq_nil_or_concat A.2.1 with hl | ⟨l, s, hl⟩
  · rw [hl] at hl1
    have k := ct_X0_takeBack_none (X := X) (L := L) (b := 1) hh hl1
    refine z_aload0 1 dX6_undo_0 rfl ?_
    refine z_getR 4 dX6_undo_1 fl_RX6_22 (by assumption) (by assumption) rfl ?_
    refine z_aload0 5 dX6_undo_4 rfl ?_
    refine z_getR 8 dX6_undo_5 fl_RX6_10 (by assumption) (by assumption) rfl ?_
    refine z_xV1 11 dX6_undo_8 lk_X6_undo_168 (k) rfl (Nat.le_of_ble_eq_true rfl) (Nat.le_of_ble_eq_true rfl) (by assumption) rfl rfl ?_
    refine z_if_eq 24 14 dX6_undo_11 (by decide) rfl (by omega) (fun h11 => ?_) (fun hz => absurd hz (by omega))
    refine z_bipush 26 dX6_undo_24 (by decide) rfl ?_
    exact z_ireturn dX6_undo_26 rfl ((by rw [show oUndo A = (-4, A) by unfold oUndo; rw [hl]; rfl]; exact zOp_same h rfl))
  · rw [hl] at hl1 hl8
    simp at hl1 hl8
    have hs6 := hA s (by rw [hl]; simp)
    have hp := zPm_r hpm (i := l.length) (by omega)
    have hqs : zQe (zvw I (P l.length)) s := hHis.2.2.2 l.length s (by rw [hl]; simp)
    have hgs := hHis.2.2.1 l.length (by omega)
    have k := ct_X0_takeBack (X := X) (L := L) hh n1 (n := l.length) (by omega) hl1 rfl (by omega) (by omega) (by omega)
    refine z_aload0 1 dX6_undo_0 rfl ?_
    refine z_getR 4 dX6_undo_1 fl_RX6_22 (by assumption) (by assumption) rfl ?_
    refine z_aload0 5 dX6_undo_4 rfl ?_
    refine z_getR 8 dX6_undo_5 fl_RX6_10 (by assumption) (by assumption) rfl ?_
    refine z_xV1 11 dX6_undo_8 lk_X6_undo_168 (k) rfl (Nat.le_of_ble_eq_true rfl) (Nat.le_of_ble_eq_true rfl) (by assumption) rfl rfl ?_
    refine z_if_eq 24 14 dX6_undo_11 (by decide) rfl (by omega) (fun hz => absurd hz (by omega)) (fun h11 => ?_)
    refine z_aload0 15 dX6_undo_14 rfl ?_
    refine z_getR 18 dX6_undo_15 fl_RX6_22 (by assumption) (by assumption) rfl ?_
    refine z_getIx 21 dX6_undo_18 fl_RX6_154 (by assumption) ((show zsl (zup I 15 1 l.length) 1 (sgb (zvw I (P l.length)) (zvw I 1)) 15 1 = (l.length : Int) by rw [zsl_o _ _ _ (by omega), zup_at])) rfl ?_
    refine z_goto 26 dX6_undo_21 (by decide) ?_
    exact z_ireturn dX6_undo_26 rfl ((by
        rw [show oUndo A = ((l.length : Int), (sgb s A.1, (l, A.2.2))) by unfold oUndo; rw [hl]; simp]
        have hr : ∀ a, ¬ (a = 15) → zup I 15 1 l.length a = I a := fun a ha => zup_row _ _ ha
        have h1 : zCA sh R P (zup I 15 1 l.length) L (A.1, l, A.2.2) := zCA_his h (fun a ha => hr a (by omega)) hC ⟨zup_at _ _ _ _, by omega, fun i hi => by rw [zvw_up _ (by have := zPm_r hpm hi; omega)]; exact hHis.2.2.1 i hi, fun i q hq => by
          have hi := (List.getElem?_eq_some_iff.mp hq).1
          rw [zvw_up _ (by have := zPm_r hpm (i := i) (by omega); omega)]
          exact hHis.2.2.2 i q (by rw [hl, List.concat_eq_append, List.getElem?_append_left hi]; exact hq)⟩
        exact zOp_of (zCA_now h1 (fun a h1 h2 => zsl_oR _ _ _ (by omega)) (cNow_sl (sgb_sg hgs hNow.1) (sgb_q hqs hNow.2 (by have := hqs.1.1; omega) (by omega)))) (fun a ha => by rw [zsl_oR _ _ _ (by omega), hr a (by omega)]) (fun _ _ => rfl) rfl))
theorem op_X6_image (h : zCA sh R P I L A) : zE X mX6_image 0 0 0 [zR 0] [] sh I L R (zOp sh I L R (zI 1) (oImage A)) := by
  obtain ⟨hC, hNow, hTri, hHis, hKep, hTap, hShe, hOrd⟩ := id h
  obtain ⟨⟨c0, c1, c2, c3, c4, c5, c6, c7, c8, c9, c10, c11⟩, ⟨n1, n8, n73⟩, ⟨hh, hpm⟩, kh, tp, ⟨shs, shk⟩, spd, o1, o2, ra⟩ := id hC
  obtain ⟨⟨s0, s1, s2, s3, s4, s5, s6⟩, r0, r1, r2, r3, r4, r5⟩ := id n1
  have n80 := n8.1.1
  have hh0 := hh.1.1
  have e6 := hNow.2.1.1
  have hn5 := hNow.1.1.1
  have hl1 := hHis.1
  have hl8 := hHis.2.1
  have n730 := n73.1.1
  have kh0 := kh.1.1
  generalize hJ : zsl I 73 (sbc (zvw I 1) (zvw I 73)) = J
  have hJo : ∀ a, ¬ (73 ≤ a ∧ a < 80) → J a = I a := fun a ha => by rw [← hJ]; exact zsl_oR _ _ _ (by omega)
  have k1 := cti_become (X := X) (I := I) (L := L) n73 n1 (Or.inl (by decide))
  rw [hJ] at k1
  have k2 := ct_X0_become (X := X) (I := J) (L := L) kh hh hl8 (by rw [hJo 15 (by omega)]; exact hl1) (fun i hi => by have := zPm_r hpm hi; unfold zKP; omega)
  refine z_aload0 1 dX6_image_0 rfl ?_
  refine z_getR 4 dX6_image_1 fl_RX6_26 (by assumption) (by assumption) rfl ?_
  refine z_aload0 5 dX6_image_4 rfl ?_
  refine z_getR 8 dX6_image_5 fl_RX6_10 (by assumption) (by assumption) rfl ?_
  refine z_xVv1 11 dX6_image_8 lk_X6_image_130 (k1) rfl (Nat.le_of_ble_eq_true rfl) (Nat.le_of_ble_eq_true rfl) (by assumption) rfl rfl ?_
  refine z_aload0 12 dX6_image_11 rfl ?_
  refine z_getR 15 dX6_image_12 fl_RX6_29 (by assumption) (by assumption) rfl ?_
  refine z_aload0 16 dX6_image_15 rfl ?_
  refine z_getR 19 dX6_image_16 fl_RX6_22 (by assumption) (by assumption) rfl ?_
  refine z_xVv1 22 dX6_image_19 lk_X6_image_226 (k2) rfl (Nat.le_of_ble_eq_true rfl) (Nat.le_of_ble_eq_true rfl) (by assumption) rfl rfl ?_
  refine z_aload0 23 dX6_image_22 rfl ?_
  refine z_iconst 24 dX6_image_23 rfl ?_
  refine z_putZ 27 dX6_image_24 fp_RX6_32 (by omega) (by assumption) rfl ?_
  refine z_iconst 28 dX6_image_27 rfl ?_
  exact z_ireturn dX6_image_28 rfl ((by
      generalize hK : zup (hbc zKP P A.2.1.length 0 (zup J 80 1 A.2.1.length)) 0 5 1 = K
      have hPd : ∀ i j, i < 8 → j < 8 → zKP i + 7 ≤ P j ∨ P j + 7 ≤ zKP i := fun i j hi hj => by have := zPm_r hpm hj; unfold zKP; omega
      have eP : ∀ i, i < 8 → zvw (zup J 80 1 A.2.1.length) (P i) = zvw I (P i) := fun i hi => by
        have := zPm_r hpm hi
        rw [zvw_up _ (by omega)]
        exact zvw_of (fun a h1 h2 => hJo a (by omega))
      have hg := hbc_g (I := zup J 80 1 A.2.1.length) zKP_d hPd hl8 (fun i hi => by
        rw [zvw_up _ (by unfold zKP; omega), zvw_of (I := I) (fun a h1 h2 => hJo a (by unfold zKP at h1; omega))]
        exact hKep.2.2.1 i hi) (fun i hi => by rw [eP i hi]; exact hHis.2.2.1 i hi)
      have hKo : ∀ a, ¬ (73 ≤ a ∧ a < 138) → a ≠ 0 → K a = I a := fun a h1 h0 => by
        rw [← hK, zup_row _ _ h0, hbc_o _ _ _ (by omega) (fun q hq => by unfold zKP; omega), zup_row _ _ (by omega), hJo a (by omega)]
      have e73 : zvw K 73 = zvw J 73 := zvw_of (fun a h1 h2 => by rw [← hK, zup_row _ _ (by omega), hbc_o _ _ _ (by omega) (fun q hq => by unfold zKP; omega), zup_row _ _ (by omega)])
      have eKP : ∀ i, i < 8 → zvw K (zKP i) = zvw (hbc zKP P A.2.1.length 0 (zup J 80 1 A.2.1.length)) (zKP i) := fun i hi => by rw [← hK]; exact zvw_up _ (by unfold zKP; omega) _ _
      have e80 : K 80 1 = (A.2.1.length : Int) := by rw [← hK, zup_row _ _ (by omega), hbc_o _ _ _ (by omega) (fun q hq => by unfold zKP; omega), zup_at]
      have eJ : ∀ q, q < 7 → sbc (zvw I 1) (zvw I 73) q = zvw J 73 q := fun q hq => by rw [← hJ]; exact (zvw_sl _ _ _ hq).symm
      refine zOp_of (P := P) ⟨hC, cNow_of (fun a h1 h2 => hKo a (by omega) (by omega)) hNow, cTri_of (fun a h1 h2 => hKo a (by omega) (by omega)) hTri, cHis_of hpm (fun a h1 => hKo a (by omega) (by omega)) hHis, ⟨⟨by rw [← hK, zup_at], ?_, e80, fun i s hs => ?_⟩, ?_, fun i hi => ?_, by rw [e80]; omega⟩, cTap_of (fun a h1 => hKo a (by omega) (by omega)) hTap, cShe_of (fun a h1 h2 => ⟨hKo a (by omega) (by omega), rfl⟩) hShe, cOrd_of (fun a h1 => hKo a (by omega) (by omega)) hOrd⟩ (fun a ha => hKo a (by omega) (by omega)) (fun _ _ => rfl) rfl
      · rw [e73]; exact zQe_w eJ ((sbc_q _ _ hNow.1.1.1.2).tr hNow.2)
      · have hi : i < A.2.1.length := (List.getElem?_eq_some_iff.mp hs).1
        rw [eKP i (by omega)]
        exact hg.2 i s hi (by rw [eP i (by omega)]; exact hHis.2.2.2 i s hs)
      · rw [e73]; exact zSg_w eJ (sbc_sg _ _ hNow.1)
      · rw [eKP i hi]; exact hg.1 i hi))
theorem op_X6_restore (h : zCA sh R P I L A) : zE X mX6_restore 0 0 0 [zR 0] [] sh I L R (zOp sh I L R (zI (oRestore A).1) (oRestore A).2) := by
  obtain ⟨hC, hNow, hTri, hHis, hKep, hTap, hShe, hOrd⟩ := id h
  obtain ⟨⟨c0, c1, c2, c3, c4, c5, c6, c7, c8, c9, c10, c11⟩, ⟨n1, n8, n73⟩, ⟨hh, hpm⟩, kh, tp, ⟨shs, shk⟩, spd, o1, o2, ra⟩ := id hC
  obtain ⟨⟨s0, s1, s2, s3, s4, s5, s6⟩, r0, r1, r2, r3, r4, r5⟩ := id n1
  have n80 := n8.1.1
  have hh0 := hh.1.1
  have e6 := hNow.2.1.1
  have hn5 := hNow.1.1.1
  have n730 := n73.1.1
  have kh0 := kh.1.1
  have hk := hKep.1
  cases hA : A.2.2.1 with
  | none =>
    rw [hA] at hk
    have e : oRestore A = (-4, A) := by unfold oRestore; rw [hA]
    rw [e]
    refine z_aload0 1 dX6_restore_0 rfl ?_
    refine z_getIx 4 dX6_restore_1 fl_RX6_32 (by assumption) (hk) rfl ?_
    refine z_if_ne 10 7 dX6_restore_4 (by decide) rfl (by omega) (fun hz => absurd hz (by omega)) (fun h4 => ?_)
    refine z_bipush 9 dX6_restore_7 (by decide) rfl ?_
    exact z_ireturn dX6_restore_9 rfl (zOp_same h rfl)
  | some q =>
    rw [hA] at hk
    obtain ⟨k1, k2, k3, k4⟩ := hk
    have k8 := hKep.2.2.2
    have e : oRestore A = (1, (q.1, (q.2, A.2.2))) := by unfold oRestore; rw [hA]
    rw [e]
    generalize hJ : zsl I 1 (sbc (zvw I 73) (zvw I 1)) = J
    have hJo : ∀ a, ¬ (1 ≤ a ∧ a < 8) → J a = I a := fun a ha => by rw [← hJ]; exact zsl_oR _ _ _ (by omega)
    have b1 := cti_become (X := X) (I := I) (L := L) n1 n73 (Or.inr (by decide))
    rw [hJ] at b1
    have b2 := ct_X0_become (X := X) (I := J) (L := L) hh kh (n := q.2.length) (by omega) (by rw [hJo 80 (by omega)]; exact k3) (fun i hi => by have := zPm_r hpm hi; unfold zKP; omega)
    refine z_aload0 1 dX6_restore_0 rfl ?_
    refine z_getIx 4 dX6_restore_1 fl_RX6_32 (by assumption) (k1) rfl ?_
    refine z_if_ne 10 7 dX6_restore_4 (by decide) rfl (by omega) (fun h4 => ?_) (fun hz => absurd hz (by omega))
    refine z_aload0 11 dX6_restore_10 rfl ?_
    refine z_getR 14 dX6_restore_11 fl_RX6_10 (by assumption) (by assumption) rfl ?_
    refine z_aload0 15 dX6_restore_14 rfl ?_
    refine z_getR 18 dX6_restore_15 fl_RX6_26 (by assumption) (by assumption) rfl ?_
    refine z_xVv1 21 dX6_restore_18 lk_X6_restore_130 (b1) rfl (Nat.le_of_ble_eq_true rfl) (Nat.le_of_ble_eq_true rfl) (by assumption) rfl rfl ?_
    refine z_aload0 22 dX6_restore_21 rfl ?_
    refine z_getR 25 dX6_restore_22 fl_RX6_22 (by assumption) (by assumption) rfl ?_
    refine z_aload0 26 dX6_restore_25 rfl ?_
    refine z_getR 29 dX6_restore_26 fl_RX6_29 (by assumption) (by assumption) rfl ?_
    refine z_xVv1 32 dX6_restore_29 lk_X6_restore_226 (b2) rfl (Nat.le_of_ble_eq_true rfl) (Nat.le_of_ble_eq_true rfl) (by assumption) rfl rfl ?_
    refine z_iconst 33 dX6_restore_32 rfl ?_
    exact z_ireturn dX6_restore_33 rfl ((by
        generalize hK : hbc P zKP q.2.length 0 (zup J 15 1 q.2.length) = K
        have hPd : ∀ i j, i < 8 → j < 8 → P i + 7 ≤ zKP j ∨ zKP j + 7 ≤ P i := fun i j hi hj => by have := zPm_r hpm hi; unfold zKP; omega
        have eP : ∀ i, i < 8 → zvw (zup J 15 1 q.2.length) (zKP i) = zvw I (zKP i) := fun i hi => by
          rw [zvw_up _ (by unfold zKP; omega)]
          exact zvw_of (fun a h1 h2 => hJo a (by unfold zKP at h1; omega))
        have hg := hbc_g (I := zup J 15 1 q.2.length) (n := q.2.length) (fun i j hi hj hij => zPm_d hpm hi hj hij) hPd (by omega) (fun i hi => by
          have := zPm_r hpm hi
          rw [zvw_up _ (by omega), zvw_of (I := I) (fun a h1 h2 => hJo a (by omega))]
          exact hHis.2.2.1 i hi) (fun i hi => by rw [eP i hi]; exact hKep.2.2.1 i hi)
        have hKo : ∀ a, ¬ (15 ≤ a ∧ a < 73) → K a = J a := fun a h1 => by
          rw [← hK, hbc_o _ _ _ (by omega) (fun q hq => by have := zPm_r hpm hq; omega), zup_row _ _ (by omega)]
        have hJ1 : cNow J q.1 := by rw [← hJ]; exact cNow_sl (sbc_sg _ _ hKep.2.1) ((sbc_q _ _ hKep.2.1.1.1.2).tr k2)
        have h1 : zCA sh R P J L (q.1, A.2) := zCA_now h (fun a h1 h2 => hJo a h1) hJ1
        exact zOp_of (zCA_his (l := q.2) h1 (fun a ha => hKo a ha) hC ⟨by rw [← hK, hbc_o _ _ _ (by omega) (fun q hq => by have := zPm_r hpm hq; omega), zup_at], by omega, fun i hi => by rw [← hK]; exact hg.1 i hi, fun i s hs => by
          have hi := (List.getElem?_eq_some_iff.mp hs).1
          rw [← hK]
          exact hg.2 i s hi (by rw [eP i (by omega)]; exact k4 i s hs)⟩) (fun a ha => by rw [hKo a (by omega), hJo a (by omega)]) (fun _ _ => rfl) rfl))
end TOPG
