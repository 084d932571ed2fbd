section MODM
variable {X : zXs} {sh : zH} {I L : zI2} {R : zR2} {A : zA}
theorem lp_X7_sheet {l n : Int} {q : Nat} {J : zI2} (hM : zMs sh R) (hq : q < 4) : ∀ (m k : Nat), k + m = 24 → zE X mX7_sheet 0 0 46 [zR 157, zI (q : Int), zI l, zI n, zI (k : Int)] [] sh J (zrow L 171 (fln (L 171) (fun _ => 0) (24 * q) k)) R (zEq [zI n] sh J (zrow L 171 (fln (L 171) (fun _ => 0) (24 * q) 24)) R)
  | 0, k, hk => by
    have e : k = 24 := by omega
    subst e
    refine z_iload4 48 dX7_sheet_46 rfl ?_
    refine z_bipush 50 dX7_sheet_48 (by decide) rfl ?_
    refine z_icmp_ge 72 53 dX7_sheet_50 (by decide) rfl (by omega) (by omega) (fun h50 => ?_) (fun hz => absurd hz (by omega))
    refine z_iload3 73 dX7_sheet_72 rfl ?_
    exact z_ireturn dX7_sheet_73 rfl (⟨rfl, rfl, rfl, rfl, rfl⟩)
  | m + 1, k, hk => by
    obtain ⟨⟨s0, s1, s2, s3, s4, s5, s6, s7, s8, s9, s10, s11, s12, s13, s14, s15⟩, r0, r1, r2, r3, r4, r5, r6, r7, r8, r9, r10, r11, r12, r13, r14⟩ := id hM
    refine z_iload4 48 dX7_sheet_46 rfl ?_
    refine z_bipush 50 dX7_sheet_48 (by decide) rfl ?_
    refine z_icmp_ge 72 53 dX7_sheet_50 (by decide) rfl (by omega) (by omega) (fun hz => absurd hz (by omega)) (fun h50 => ?_)
    refine z_aload0 54 dX7_sheet_53 rfl ?_
    refine z_getR 57 dX7_sheet_54 fl_RX7_49 (by assumption) (by assumption) rfl ?_
    refine z_bipush 59 dX7_sheet_57 (by decide) rfl ?_
    refine z_iload1 60 dX7_sheet_59 rfl ?_
    refine z_imul 61 dX7_sheet_60 rfl ?_
    refine z_iload4 63 dX7_sheet_61 rfl ?_
    refine z_iadd 64 dX7_sheet_63 rfl ?_
    refine z_lconst0 65 dX7_sheet_64 rfl ?_
    refine z_lastx 66 (24 * q + k) dX7_sheet_65 (by assumption) (by omega) (by omega) (zrow_up _ _ _ _ _) rfl ?_
    refine z_iinc4 69 dX7_sheet_66 (Nat.le_of_ble_eq_true rfl) rfl rfl ?_
    refine z_goto 46 dX7_sheet_69 (by decide) ?_
    rw [fln_s (L 171) (fun _ => 0)]
    exact lp_X7_sheet hM hq m (k + 1) (by omega)
theorem op_X7_sheet {s l n : Int} (h : mCA sh R I L A) (hs : -2147483648 ≤ s ∧ s ≤ 2147483647) (hl : -2147483648 ≤ l ∧ l ≤ 2147483647) (hn : -2147483648 ≤ n ∧ n ≤ 2147483647) : zE X mX7_sheet 0 0 0 [zR 157, zI s, zI l, zI n, zX] [] sh I L R (mOp sh I L R (zI (oSheet A s l n).1) (oSheet A s l n).2) := by
  obtain ⟨hM, hN, hHis, hKep, hTap, hShe⟩ := id h
  obtain ⟨⟨s0, s1, s2, s3, s4, s5, s6, s7, s8, s9, s10, s11, s12, s13, s14, s15⟩, r0, r1, r2, r3, r4, r5, r6, r7, r8, r9, r10, r11, r12, r13, r14⟩ := id hM
  have z2 := zwi_r s 0 3
  have z3 := zwi_r l 0 3
  refine z_iload1 1 dX7_sheet_0 rfl ?_
  refine z_xS1 4 dX7_sheet_1 lk_X7_sheet_204 (ct_X7_isSheet hs) rfl (Nat.le_of_ble_eq_true rfl) (Nat.le_of_ble_eq_true rfl) rfl ?_
  refine z_if_eq 20 7 dX7_sheet_4 (by decide) rfl (by omega) (fun h4 => ?_) (fun h4 => ?_)
  · have g4 := zwi_eq0 h4
    refine z_iconst 21 dX7_sheet_20 rfl ?_
    exact z_ireturn dX7_sheet_21 rfl ((by rw [show oSheet A s l n = (-1, A) by unfold oSheet; rw [if_neg (by omega)]]; exact mOp_same h rfl))
  · have g4 := zwi_ne0 h4
    refine z_iload2 8 dX7_sheet_7 rfl ?_
    refine z_xS1 11 dX7_sheet_8 lk_X7_sheet_207 (ct_X7_isLane hl) rfl (Nat.le_of_ble_eq_true rfl) (Nat.le_of_ble_eq_true rfl) rfl ?_
    refine z_if_eq 20 14 dX7_sheet_11 (by decide) rfl (by omega) (fun h11 => ?_) (fun h11 => ?_)
    · have g11 := zwi_eq0 h11
      refine z_iconst 21 dX7_sheet_20 rfl ?_
      exact z_ireturn dX7_sheet_21 rfl ((by rw [show oSheet A s l n = (-1, A) by unfold oSheet; rw [if_neg (by omega)]]; exact mOp_same h rfl))
    · have g11 := zwi_ne0 h11
      refine z_iload3 15 dX7_sheet_14 rfl ?_
      refine z_bipush 17 dX7_sheet_15 (by decide) rfl ?_
      refine z_icmp_le 22 20 dX7_sheet_17 (by decide) rfl (by omega) (by omega) (fun h17 => ?_) (fun h17 => ?_)
      · refine z_iload3 23 dX7_sheet_22 rfl ?_
        refine z_if_ge 29 26 dX7_sheet_23 (by decide) rfl (by omega) (fun h23 => ?_) (fun h23 => ?_)
        · obtain ⟨q, rfl⟩ : ∃ q : Nat, s = (q : Int) := ⟨s.toNat, by omega⟩
          have hcs := hShe q (by omega)
          refine z_aload0 30 dX7_sheet_29 rfl ?_
          refine z_getR 33 dX7_sheet_30 fl_RX7_43 (by assumption) (by assumption) rfl ?_
          refine z_iload1 34 dX7_sheet_33 rfl ?_
          refine z_iload2 35 dX7_sheet_34 rfl ?_
          refine z_iastN 36 (q) dX7_sheet_35 (by assumption) (by omega) (by omega) rfl ?_
          refine z_aload0 37 dX7_sheet_36 rfl ?_
          refine z_getR 40 dX7_sheet_37 fl_RX7_46 (by assumption) (by assumption) rfl ?_
          refine z_iload1 41 dX7_sheet_40 rfl ?_
          refine z_iload3 42 dX7_sheet_41 rfl ?_
          refine z_iastN 43 (q) dX7_sheet_42 (by assumption) (by omega) (by omega) rfl ?_
          refine z_iconst 44 dX7_sheet_43 rfl ?_
          refine z_istore4 46 dX7_sheet_44 (Nat.le_of_ble_eq_true rfl) rfl rfl ?_
          have k := lp_X7_sheet (X := X) (L := L) (l := l) (n := n) (J := zup (zup I 169 q l) 170 q n) hM (q := q) (by omega) 24 0 rfl
          rw [fln_0, zrow_self] at k
          refine zE_mono (fun r' sh' I' L' R' hz => ?_) k
          obtain ⟨y1, y2, y3, y4, y5⟩ := hz
          subst y1 y2 y3 y4 y5
          rw [show oSheet A q l n = (n, sset A q (l, n, fun _ => 0)) by unfold oSheet; rw [if_pos (by omega), if_neg (by omega), Int.toNat_natCast]]
          have e9 : ∀ c, zup (zup I 169 q l) 170 q n 169 c = if c = q then l else I 169 c := fun c => by
            rw [zup_row _ _ (by decide)]
            unfold zup
            by_cases hc : c = q
            · rw [if_pos ⟨rfl, hc⟩, if_pos hc]
            · rw [if_neg (fun z => hc z.2), if_neg hc]
          have e0 : ∀ c, zup (zup I 169 q l) 170 q n 170 c = if c = q then n else I 170 c := fun c => by
            unfold zup
            by_cases hc : c = q
            · rw [if_pos ⟨rfl, hc⟩, if_pos hc]
            · rw [if_neg (fun z => hc z.2), if_neg (fun z => by omega), if_neg hc]
          refine mOp_she h (fun a ha _ => by rw [zup_row _ _ (by omega), zup_row _ _ (by omega)]) (by rw [zup_row _ _ (by decide), zup_row _ _ (by decide)]) (fun a ha => zrow_oR _ _ (by omega)) (mShe_set (I := I) (L := L) (fun q' _ hq' => by rw [e9, e0, if_neg hq', if_neg hq']; exact ⟨rfl, rfl⟩) (fun q' j h1 h2 hj => ?_) ⟨⟨by rw [e9, if_pos rfl], Or.inr g11⟩, Or.inr (by rw [e0, if_pos rfl]), by rw [e0, if_pos rfl]; omega, fun j hj => ?_⟩ hShe) rfl
          · rw [zrow_at]
            unfold fln
            rw [if_neg (by omega)]
          · rw [zrow_at]
            unfold fln
            rw [if_pos (by omega)]
            exact ⟨rfl, (by show (-9223372036854775808 : Int) ≤ 0; omega), (by show (0 : Int) ≤ 9223372036854775807; omega)⟩
        · refine z_bipush 28 dX7_sheet_26 (by decide) rfl ?_
          exact z_ireturn dX7_sheet_28 rfl ((by rw [show oSheet A s l n = (-14, A) by unfold oSheet; rw [if_pos (by omega), if_pos (by omega)]]; exact mOp_same h rfl))
      · refine z_iconst 21 dX7_sheet_20 rfl ?_
        exact z_ireturn dX7_sheet_21 rfl ((by rw [show oSheet A s l n = (-1, A) by unfold oSheet; rw [if_neg (by omega)]]; exact mOp_same h rfl))
theorem op_X7_drop {s : Int} (h : mCA sh R I L A) (hs : -2147483648 ≤ s ∧ s ≤ 2147483647) : zE X mX7_drop 0 0 0 [zR 157, zI s] [] sh I L R (mOp sh I L R (zI (oDrop A s).1) (oDrop A s).2) := by
  obtain ⟨hM, hN, hHis, hKep, hTap, hShe⟩ := id h
  obtain ⟨⟨s0, s1, s2, s3, s4, s5, s6, s7, s8, s9, s10, s11, s12, s13, s14, s15⟩, r0, r1, r2, r3, r4, r5, r6, r7, r8, r9, r10, r11, r12, r13, r14⟩ := id hM
  have z2 := zwi_r s 0 3
  refine z_iload1 1 dX7_drop_0 rfl ?_
  refine z_xS1 4 dX7_drop_1 lk_X7_drop_204 (ct_X7_isSheet hs) rfl (Nat.le_of_ble_eq_true rfl) (Nat.le_of_ble_eq_true rfl) rfl ?_
  refine z_if_ne 9 7 dX7_drop_4 (by decide) rfl (by omega) (fun h4 => ?_) (fun h4 => ?_)
  · have g4 := zwi_ne0 h4
    obtain ⟨q, rfl⟩ : ∃ q : Nat, s = (q : Int) := ⟨s.toNat, by omega⟩
    have hcs := hShe q (by omega)
    have h1 := hcs.1
    have h2 := hcs.2.1
    have eo : oDrop A q = (if (A.2.2.2.2 q).1 = -1 then (-11, A) else ((A.2.2.2.2 q).2.1, sset A q (-1, 0, (A.2.2.2.2 q).2.2))) := by unfold oDrop; rw [if_pos (by omega), Int.toNat_natCast]
    rw [eo]
    refine z_aload0 10 dX7_drop_9 rfl ?_
    refine z_getR 13 dX7_drop_10 fl_RX7_43 (by assumption) (by assumption) rfl ?_
    refine z_iload1 14 dX7_drop_13 rfl ?_
    refine z_ialdx 15 (q) dX7_drop_14 (by assumption) (by omega) (by omega) (h1.1) rfl ?_
    refine z_if_ge 21 18 dX7_drop_15 (by decide) rfl (by omega) (fun h15 => ?_) (fun h15 => ?_)
    · refine z_aload0 22 dX7_drop_21 rfl ?_
      refine z_getR 25 dX7_drop_22 fl_RX7_43 (by assumption) (by assumption) rfl ?_
      refine z_iload1 26 dX7_drop_25 rfl ?_
      refine z_iconst 27 dX7_drop_26 rfl ?_
      refine z_iastN 28 (q) dX7_drop_27 (by assumption) (by omega) (by omega) rfl ?_
      refine z_aload0 29 dX7_drop_28 rfl ?_
      refine z_getR 32 dX7_drop_29 fl_RX7_46 (by assumption) (by assumption) rfl ?_
      refine z_iload1 33 dX7_drop_32 rfl ?_
      refine z_ialdx 34 (q) dX7_drop_33 (by assumption) (by omega) (by omega) ((show zup I 169 q (-1) 170 q = I 170 q by rw [zup_row _ _ (by decide)])) rfl ?_
      exact z_ireturn dX7_drop_34 rfl ((by
          rw [if_neg (by omega)]
          have e9 : ∀ c, zup I 169 q (-1) 169 c = if c = q then -1 else I 169 c := fun c => by
            unfold zup
            by_cases hc : c = q
            · rw [if_pos ⟨rfl, hc⟩, if_pos hc]
            · rw [if_neg (fun z => hc z.2), if_neg hc]
          have e0 : zup I 169 q (-1) 170 = I 170 := zup_row _ _ (by decide)
          refine mOp_she h (fun a ha _ => zup_row _ _ (by omega)) (zup_row _ _ (by decide)) (fun _ _ => rfl) (mShe_set (I := I) (L := L) (fun q' _ hq' => by rw [e9, e0, if_neg hq']; exact ⟨rfl, rfl⟩) (fun _ _ _ _ _ => rfl) ⟨⟨by rw [e9, if_pos rfl], Or.inl rfl⟩, Or.inl rfl, by rw [e0]; exact hcs.2.2.1, hcs.2.2.2⟩ hShe) (by rw [show I 170 q = (A.2.2.2.2 q).2.1 by omega])))
    · refine z_bipush 20 dX7_drop_18 (by decide) rfl ?_
      exact z_ireturn dX7_drop_20 rfl ((by rw [if_pos (by omega)]; exact mOp_same h rfl))
  · have g4 := zwi_eq0 h4
    refine z_iconst 8 dX7_drop_7 rfl ?_
    exact z_ireturn dX7_drop_8 rfl ((by rw [show oDrop A s = (-1, A) by unfold oDrop; rw [if_neg (by omega)]]; exact mOp_same h rfl))
theorem op_X7_item {s l i v : Int} (h : mCA sh R I L A) (hs : -2147483648 ≤ s ∧ s ≤ 2147483647) (hl : -2147483648 ≤ l ∧ l ≤ 2147483647) (hi : -2147483648 ≤ i ∧ i ≤ 2147483647) (hv : -9223372036854775808 ≤ v ∧ v ≤ 9223372036854775807) (hz : ∀ q, q < 4 → 0 ≤ (A.2.2.2.2 q).2.1 ∧ (A.2.2.2.2 q).2.1 ≤ 24) : zE X mX7_item 0 0 0 [zR 157, zI s, zI l, zI i, zL v, zX, zX] [] sh I L R (mOp sh I L R (zI (oItem A s l i v).1) (oItem A s l i v).2) := by
  obtain ⟨hM, hN, hHis, hKep, hTap, hShe⟩ := id h
  obtain ⟨⟨s0, s1, s2, s3, s4, s5, s6, s7, s8, s9, s10, s11, s12, s13, s14, s15⟩, r0, r1, r2, r3, r4, r5, r6, r7, r8, r9, r10, r11, r12, r13, r14⟩ := id hM
  have z2 := zwi_r s 0 3
  have z3 := zwi_r l 0 3
  have y1 := zi2b_r (zl2i v)
  have y2 := zi2s_r (zl2i v)
  have y3 := zl2i_r v
  refine z_iload1 1 dX7_item_0 rfl ?_
  refine z_xS1 4 dX7_item_1 lk_X7_item_204 (ct_X7_isSheet hs) rfl (Nat.le_of_ble_eq_true rfl) (Nat.le_of_ble_eq_true rfl) rfl ?_
  refine z_if_eq 14 7 dX7_item_4 (by decide) rfl (by omega) (fun h4 => ?_) (fun h4 => ?_)
  · have g4 := zwi_eq0 h4
    refine z_iconst 15 dX7_item_14 rfl ?_
    exact z_ireturn dX7_item_15 rfl ((by rw [show oItem A s l i v = (-1, A) by unfold oItem; rw [if_neg (by omega)]]; exact mOp_same h rfl))
  · have g4 := zwi_ne0 h4
    refine z_iload2 8 dX7_item_7 rfl ?_
    refine z_xS1 11 dX7_item_8 lk_X7_item_207 (ct_X7_isLane hl) rfl (Nat.le_of_ble_eq_true rfl) (Nat.le_of_ble_eq_true rfl) rfl ?_
    refine z_if_ne 16 14 dX7_item_11 (by decide) rfl (by omega) (fun h11 => ?_) (fun h11 => ?_)
    · have g11 := zwi_ne0 h11
      obtain ⟨q, rfl⟩ : ∃ q : Nat, s = (q : Int) := ⟨s.toNat, by omega⟩
      have hcs := hShe q (by omega)
      have hzq := hz q (by omega)
      have kw := ct_X7_why (X := X) (I := I) (L := L) (R := R) (q := q) (lane := l) (i := i) (n := 1) hM (by omega) hcs.1.1 hcs.1.2 hcs.2.2.1 hcs.2.1 g11 hi (by omega)
      have eo : oItem A q l i v = (if sref (A.2.2.2.2 q).1 (A.2.2.2.2 q).2.1 l i 1 = 0 then (1, sset A q ((A.2.2.2.2 q).1, (A.2.2.2.2 q).2.1, fun j => if j = i.toNat then scut (A.2.2.2.2 q).1 v else (A.2.2.2.2 q).2.2 j)) else (sref (A.2.2.2.2 q).1 (A.2.2.2.2 q).2.1 l i 1, A)) := by unfold oItem; rw [if_pos (by omega), Int.toNat_natCast]
      rw [eo]
      have hr0 : sref (A.2.2.2.2 q).1 (A.2.2.2.2 q).2.1 l i 1 = 0 → (0 ≤ i ∧ i + 1 ≤ (A.2.2.2.2 q).2.1) ∧ (A.2.2.2.2 q).1 = l := fun e => by
        unfold sref at e
        repeat' split at e
        all_goals omega
      have hr1 : -100 ≤ sref (A.2.2.2.2 q).1 (A.2.2.2.2 q).2.1 l i 1 ∧ sref (A.2.2.2.2 q).1 (A.2.2.2.2 q).2.1 l i 1 ≤ 0 := by
        unfold sref
        repeat' split
        all_goals omega
      generalize sref (A.2.2.2.2 q).1 (A.2.2.2.2 q).2.1 l i 1 = g at kw hr0 hr1 ⊢
      refine z_aload0 17 dX7_item_16 rfl ?_
      refine z_iload1 18 dX7_item_17 rfl ?_
      refine z_iload2 19 dX7_item_18 rfl ?_
      refine z_iload3 20 dX7_item_19 rfl ?_
      refine z_iconst 21 dX7_item_20 rfl ?_
      refine z_xV4 24 dX7_item_21 lk_X7_item_210 (kw) rfl (Nat.le_of_ble_eq_true rfl) (Nat.le_of_ble_eq_true rfl) (by assumption) rfl rfl ?_
      refine z_istore6 26 dX7_item_24 (Nat.le_of_ble_eq_true rfl) rfl rfl ?_
      refine z_iload6 28 dX7_item_26 rfl ?_
      refine z_if_ge 34 31 dX7_item_28 (by decide) rfl (by omega) (fun h28 => ?_) (fun h28 => ?_)
      · have hi2 := hr0 (by omega)
        obtain ⟨p, rfl⟩ : ∃ p : Nat, i = (p : Int) := ⟨i.toNat, by omega⟩
        have hsc := scut_r (A.2.2.2.2 q).1 v hv
        have fin : ∀ y, y = scut (A.2.2.2.2 q).1 v → mOp sh I L R (zI 1) (sset A q ((A.2.2.2.2 q).1, (A.2.2.2.2 q).2.1, fun j => if j = p then scut (A.2.2.2.2 q).1 v else (A.2.2.2.2 q).2.2 j)) [zI 1] sh I (zup L 171 (24 * q + p) y) R := fun y hy => by
          subst hy
          have e1 : ∀ c, zup L 171 (24 * q + p) (scut (A.2.2.2.2 q).1 v) 171 c = if c = 24 * q + p then scut (A.2.2.2.2 q).1 v else L 171 c := fun c => by
            unfold zup
            by_cases hc : c = 24 * q + p
            · rw [if_pos ⟨rfl, hc⟩, if_pos hc]
            · rw [if_neg (fun z => hc z.2), if_neg hc]
          refine mOp_she h (fun _ _ _ => rfl) rfl (fun a ha => zup_row _ _ (by omega)) (mShe_set (I := I) (L := L) (fun _ _ _ => ⟨rfl, rfl⟩) (fun q' j h1 h2 hj => ?_) ⟨hcs.1, hcs.2.1, hcs.2.2.1, fun j hj => ?_⟩ hShe) rfl
          · rw [e1, if_neg (by omega)]
          · rw [e1]
            have hj2 := hcs.2.2.2 j hj
            by_cases hc : j = p
            · subst hc
              rw [if_pos rfl]
              exact ⟨(if_pos rfl).symm, by show _ ≤ (if j = j then scut (A.2.2.2.2 q).1 v else _); rw [if_pos rfl]; exact hsc.1, by show (if j = j then scut (A.2.2.2.2 q).1 v else _) ≤ _; rw [if_pos rfl]; exact hsc.2⟩
            · rw [if_neg (by omega)]
              show _ = (if j = p then _ else _) ∧ _ ≤ (if j = p then _ else _) ∧ (if j = p then _ else _) ≤ _
              rw [if_neg hc]
              exact hj2
        rw [if_pos (by omega), Int.toNat_natCast]
        refine z_aload0 35 dX7_item_34 rfl ?_
        refine z_getR 38 dX7_item_35 fl_RX7_49 (by assumption) (by assumption) rfl ?_
        refine z_bipush 40 dX7_item_38 (by decide) rfl ?_
        refine z_iload1 41 dX7_item_40 rfl ?_
        refine z_imul 42 dX7_item_41 rfl ?_
        refine z_iload3 43 dX7_item_42 rfl ?_
        refine z_iadd 44 dX7_item_43 rfl ?_
        refine z_iload2 45 dX7_item_44 rfl ?_
        refine z_if_ne 56 48 dX7_item_45 (by decide) rfl (by omega) (fun h45 => ?_) (fun h45 => ?_)
        · refine z_iload2 57 dX7_item_56 rfl ?_
          refine z_iconst 58 dX7_item_57 rfl ?_
          refine z_icmp_ne 69 61 dX7_item_58 (by decide) rfl (by omega) (by omega) (fun h58 => ?_) (fun h58 => ?_)
          · refine z_iload2 70 dX7_item_69 rfl ?_
            refine z_iconst 71 dX7_item_70 rfl ?_
            refine z_icmp_ne 81 74 dX7_item_71 (by decide) rfl (by omega) (by omega) (fun h71 => ?_) (fun h71 => ?_)
            · refine z_lload4 83 dX7_item_81 rfl ?_
              refine z_lastN 84 (24 * q + p) dX7_item_83 (by assumption) (by omega) (by omega) rfl ?_
              refine z_iconst 85 dX7_item_84 rfl ?_
              exact z_ireturn dX7_item_85 rfl (fin _ (by unfold scut; rw [hi2.2]; first | rw [if_pos (by omega)] | rw [if_neg (by omega), if_pos (by omega)] | rw [if_neg (by omega), if_neg (by omega), if_pos (by omega)] | rw [if_neg (by omega), if_neg (by omega), if_neg (by omega)]))
            · refine z_lload4 76 dX7_item_74 rfl ?_
              refine z_l2i 77 dX7_item_76 rfl ?_
              refine z_i2l 78 dX7_item_77 (by omega) rfl ?_
              refine z_goto 83 dX7_item_78 (by decide) ?_
              refine z_lastN 84 (24 * q + p) dX7_item_83 (by assumption) (by omega) (by omega) rfl ?_
              refine z_iconst 85 dX7_item_84 rfl ?_
              exact z_ireturn dX7_item_85 rfl (fin _ (by unfold scut; rw [hi2.2]; first | rw [if_pos (by omega)] | rw [if_neg (by omega), if_pos (by omega)] | rw [if_neg (by omega), if_neg (by omega), if_pos (by omega)] | rw [if_neg (by omega), if_neg (by omega), if_neg (by omega)]))
          · refine z_lload4 63 dX7_item_61 rfl ?_
            refine z_l2i 64 dX7_item_63 rfl ?_
            refine z_i2s 65 dX7_item_64 rfl ?_
            refine z_i2l 66 dX7_item_65 (by omega) rfl ?_
            refine z_goto 83 dX7_item_66 (by decide) ?_
            refine z_lastN 84 (24 * q + p) dX7_item_83 (by assumption) (by omega) (by omega) rfl ?_
            refine z_iconst 85 dX7_item_84 rfl ?_
            exact z_ireturn dX7_item_85 rfl (fin _ (by unfold scut; rw [hi2.2]; first | rw [if_pos (by omega)] | rw [if_neg (by omega), if_pos (by omega)] | rw [if_neg (by omega), if_neg (by omega), if_pos (by omega)] | rw [if_neg (by omega), if_neg (by omega), if_neg (by omega)]))
        · refine z_lload4 50 dX7_item_48 rfl ?_
          refine z_l2i 51 dX7_item_50 rfl ?_
          refine z_i2b 52 dX7_item_51 rfl ?_
          refine z_i2l 53 dX7_item_52 (by omega) rfl ?_
          refine z_goto 83 dX7_item_53 (by decide) ?_
          refine z_lastN 84 (24 * q + p) dX7_item_83 (by assumption) (by omega) (by omega) rfl ?_
          refine z_iconst 85 dX7_item_84 rfl ?_
          exact z_ireturn dX7_item_85 rfl (fin _ (by unfold scut; rw [hi2.2]; first | rw [if_pos (by omega)] | rw [if_neg (by omega), if_pos (by omega)] | rw [if_neg (by omega), if_neg (by omega), if_pos (by omega)] | rw [if_neg (by omega), if_neg (by omega), if_neg (by omega)]))
      · refine z_iload6 33 dX7_item_31 rfl ?_
        exact z_ireturn dX7_item_33 rfl ((by rw [if_neg (by omega)]; exact mOp_same h rfl))
    · have g11 := zwi_eq0 h11
      refine z_iconst 15 dX7_item_14 rfl ?_
      exact z_ireturn dX7_item_15 rfl ((by rw [show oItem A s l i v = (-1, A) by unfold oItem; rw [if_neg (by omega)]]; exact mOp_same h rfl))
theorem lp_X7_copy91 {s i t u z6 : Int} {n q p : Nat} (hM : zMs sh R) (hq : q < 4) (hs : s = (q : Int)) (hi : i = (p : Int)) (hp : p + n ≤ 24) (Q : zQ) (k0 : zE X mX7_copy 0 0 125 [zR 157, zI s, zI i, zI t, zI u, zI (n : Int), zI z6, zI (n : Int)] [] sh I (zrow L 172 (fln (L 172) (fun c => L 171 (24 * q + p + c)) 0 n)) R Q) : ∀ (m k : Nat), k + m = n → zE X mX7_copy 0 0 91 [zR 157, zI s, zI i, zI t, zI u, zI (n : Int), zI z6, zI (k : Int)] [] sh I (zrow L 172 (fln (L 172) (fun c => L 171 (24 * q + p + c)) 0 k)) R Q
  | 0, k, hk => by
    have e : k = n := by omega
    subst e
    refine z_iload7 93 dX7_copy_91 rfl ?_
    refine z_iload5 95 dX7_copy_93 rfl ?_
    refine z_icmp_ge 125 98 dX7_copy_95 (by decide) rfl (by omega) (by omega) (fun h95 => ?_) (fun hz => absurd hz (by omega))
    exact k0
  | m + 1, k, hk => by
    obtain ⟨⟨s0, s1, s2, s3, s4, s5, s6, s7, s8, s9, s10, s11, s12, s13, s14, s15⟩, r0, r1, r2, r3, r4, r5, r6, r7, r8, r9, r10, r11, r12, r13, r14⟩ := id hM
    subst hs hi
    have hrd : zrow L 172 (fln (L 172) (fun c => L 171 (24 * q + p + c)) 0 k) 171 (24 * q + p + k) = L 171 (24 * q + p + k) := by rw [zrow_o _ _ (by decide)]
    refine z_iload7 93 dX7_copy_91 rfl ?_
    refine z_iload5 95 dX7_copy_93 rfl ?_
    refine z_icmp_ge 125 98 dX7_copy_95 (by decide) rfl (by omega) (by omega) (fun hz => absurd hz (by omega)) (fun h95 => ?_)
    refine z_aload0 99 dX7_copy_98 rfl ?_
    refine z_getR 102 dX7_copy_99 fl_RX7_53 (by assumption) (by assumption) rfl ?_
    refine z_iload7 104 dX7_copy_102 rfl ?_
    refine z_aload0 105 dX7_copy_104 rfl ?_
    refine z_getR 108 dX7_copy_105 fl_RX7_49 (by assumption) (by assumption) rfl ?_
    refine z_bipush 110 dX7_copy_108 (by decide) rfl ?_
    refine z_iload1 111 dX7_copy_110 rfl ?_
    refine z_imul 112 dX7_copy_111 rfl ?_
    refine z_iload2 113 dX7_copy_112 rfl ?_
    refine z_iadd 114 dX7_copy_113 rfl ?_
    refine z_iload7 116 dX7_copy_114 rfl ?_
    refine z_iadd 117 dX7_copy_116 rfl ?_
    refine z_laldx 118 (24 * q + p + k) dX7_copy_117 (by assumption) (by omega) (by omega) (hrd) rfl ?_
    refine z_lastx 119 (k) dX7_copy_118 (by assumption) (by omega) (by omega) (zrow_up _ _ _ _ _) rfl ?_
    refine z_iinc7 122 dX7_copy_119 (Nat.le_of_ble_eq_true rfl) rfl rfl ?_
    refine z_goto 91 dX7_copy_122 (by decide) ?_
    have ef := fln_s (L 172) (fun c => L 171 (24 * q + p + c)) 0 k
    rw [Nat.zero_add] at ef
    rw [ef]
    exact lp_X7_copy91 hM hq rfl rfl hp Q k0 m (k + 1) (by omega)
theorem lp_X7_copy128 {s i t u z6 : Int} {n q p : Nat} {V : Nat → Int} (hM : zMs sh R) (hq : q < 4) (hs : t = (q : Int)) (hi : u = (p : Int)) (hp : p + n ≤ 24) (hV : ∀ c, c < n → L 172 c = V c) : ∀ (m k : Nat), k + m = n → zE X mX7_copy 0 0 128 [zR 157, zI s, zI i, zI t, zI u, zI (n : Int), zI z6, zI (k : Int)] [] sh I (zrow L 171 (fln (L 171) V (24 * q + p) k)) R (zEq [zI (n : Int)] sh I (zrow L 171 (fln (L 171) V (24 * q + p) n)) R)
  | 0, k, hk => by
    have e : k = n := by omega
    subst e
    refine z_iload7 130 dX7_copy_128 rfl ?_
    refine z_iload5 132 dX7_copy_130 rfl ?_
    refine z_icmp_ge 163 135 dX7_copy_132 (by decide) rfl (by omega) (by omega) (fun h132 => ?_) (fun hz => absurd hz (by omega))
    refine z_iload5 165 dX7_copy_163 rfl ?_
    exact z_ireturn dX7_copy_165 rfl (⟨rfl, rfl, rfl, rfl, rfl⟩)
  | m + 1, k, hk => by
    obtain ⟨⟨s0, s1, s2, s3, s4, s5, s6, s7, s8, s9, s10, s11, s12, s13, s14, s15⟩, r0, r1, r2, r3, r4, r5, r6, r7, r8, r9, r10, r11, r12, r13, r14⟩ := id hM
    subst hs hi
    have hrd : zrow L 171 (fln (L 171) V (24 * q + p) k) 172 k = V k := by rw [zrow_o _ _ (by decide), hV k (by omega)]
    refine z_iload7 130 dX7_copy_128 rfl ?_
    refine z_iload5 132 dX7_copy_130 rfl ?_
    refine z_icmp_ge 163 135 dX7_copy_132 (by decide) rfl (by omega) (by omega) (fun hz => absurd hz (by omega)) (fun h132 => ?_)
    refine z_aload0 136 dX7_copy_135 rfl ?_
    refine z_getR 139 dX7_copy_136 fl_RX7_49 (by assumption) (by assumption) rfl ?_
    refine z_bipush 141 dX7_copy_139 (by decide) rfl ?_
    refine z_iload3 142 dX7_copy_141 rfl ?_
    refine z_imul 143 dX7_copy_142 rfl ?_
    refine z_iload4 145 dX7_copy_143 rfl ?_
    refine z_iadd 146 dX7_copy_145 rfl ?_
    refine z_iload7 148 dX7_copy_146 rfl ?_
    refine z_iadd 149 dX7_copy_148 rfl ?_
    refine z_aload0 150 dX7_copy_149 rfl ?_
    refine z_getR 153 dX7_copy_150 fl_RX7_53 (by assumption) (by assumption) rfl ?_
    refine z_iload7 155 dX7_copy_153 rfl ?_
    refine z_laldx 156 (k) dX7_copy_155 (by assumption) (by omega) (by omega) (hrd) rfl ?_
    refine z_lastx 157 (24 * q + p + k) dX7_copy_156 (by assumption) (by omega) (by omega) (zrow_up _ _ _ _ _) rfl ?_
    refine z_iinc7 160 dX7_copy_157 (Nat.le_of_ble_eq_true rfl) rfl rfl ?_
    refine z_goto 128 dX7_copy_160 (by decide) ?_
    rw [fln_s]
    exact lp_X7_copy128 hM hq rfl rfl hp hV m (k + 1) (by omega)
theorem tl_X7_copy125 {z6 : Int} {q p a c y : Nat} (h : mCA sh R I L A) (hq : q < 4) (hp : p < 4) (ha : a + y ≤ 24) (hc : c + y ≤ 24) : zE X mX7_copy 0 0 125 [zR 157, zI (q : Int), zI (a : Int), zI (p : Int), zI (c : Int), zI (y : Int), zI z6, zI (y : Int)] [] sh I (zrow L 172 (fln (L 172) (fun j => L 171 (24 * q + a + j)) 0 y)) R (mOp sh I L R (zI (y : Int)) (sset A p ((A.2.2.2.2 p).1, (A.2.2.2.2 p).2.1, zcp (A.2.2.2.2 q).2.2 (A.2.2.2.2 p).2.2 a c y))) := by
  obtain ⟨hM, hN, hHis, hKep, hTap, hShe⟩ := id h
  have hcs := hShe q hq
  have hcp := hShe p hp
  generalize hK : zrow L 172 (fln (L 172) (fun j => L 171 (24 * q + a + j)) 0 y) = K
  have e171 : K 171 = L 171 := by rw [← hK]; exact zrow_oR _ _ (by decide)
  have hV : ∀ j, j < y → K 172 j = L 171 (24 * q + a + j) := fun j hj => by
    rw [← hK, zrow_at]
    unfold fln
    rw [if_pos (by omega)]
    rfl
  have k := lp_X7_copy128 (X := X) (I := I) (L := K) (s := (q : Int)) (i := (a : Int)) (t := (p : Int)) (u := (c : Int)) (z6 := z6) (n := y) (q := p) (p := c) (V := fun j => L 171 (24 * q + a + j)) hM hp rfl rfl hc hV y 0 (by omega)
  rw [fln_0, zrow_self, e171] at k
  refine z_iconst 126 dX7_copy_125 rfl ?_
  refine z_istore7 128 dX7_copy_126 (Nat.le_of_ble_eq_true rfl) rfl rfl ?_
  refine zE_mono (fun r' sh' I' L' R' hz => ?_) k
  obtain ⟨y1, y2, y3, y4, y5⟩ := hz
  subst y1 y2 y3 y4 y5
  have hKo : ∀ b, ¬ (b = 171 ∨ b = 172) → zrow K 171 (fln (L 171) (fun j => L 171 (24 * q + a + j)) (24 * p + c) y) b = L b := fun b hb => by rw [zrow_oR _ _ (by omega), ← hK, zrow_oR _ _ (by omega)]
  refine mOp_she h (fun _ _ _ => rfl) rfl hKo (mShe_set (I := I') (L := L) (fun _ _ _ => ⟨rfl, rfl⟩) (fun q' j h1 h2 hj => ?_) ⟨hcp.1, hcp.2.1, hcp.2.2.1, fun j hj => ?_⟩ hShe) rfl
  · rw [zrow_at]
    unfold fln
    rw [if_neg (by omega)]
  · rw [zrow_at]
    show fln (L 171) (fun j => L 171 (24 * q + a + j)) (24 * p + c) y (24 * p + j) = zcp (A.2.2.2.2 q).2.2 (A.2.2.2.2 p).2.2 a c y j ∧ _ ≤ zcp (A.2.2.2.2 q).2.2 (A.2.2.2.2 p).2.2 a c y j ∧ zcp (A.2.2.2.2 q).2.2 (A.2.2.2.2 p).2.2 a c y j ≤ _
    unfold fln zcp
    by_cases hcj : c ≤ j ∧ j < c + y
    · rw [if_pos (by omega), if_pos (by omega)]
      have hj2 := hcs.2.2.2 (a + (j - c)) (by omega)
      rw [← hj2.1]
      show L 171 (24 * q + a + (24 * p + j - (24 * p + c))) = _ ∧ _
      rw [show 24 * q + a + (24 * p + j - (24 * p + c)) = 24 * q + (a + (j - c)) by omega]
      exact ⟨rfl, by rw [hj2.1]; exact hj2.2⟩
    · rw [if_neg (by omega), if_neg (by omega)]
      exact hcp.2.2.2 j hj
theorem op_X7_copy {s i t u n : Int} (h : mCA sh R I L A) (hs : -2147483648 ≤ s ∧ s ≤ 2147483647) (hi : -2147483648 ≤ i ∧ i ≤ 2147483647) (ht : -2147483648 ≤ t ∧ t ≤ 2147483647) (hu : -2147483648 ≤ u ∧ u ≤ 2147483647) (hn : -2147483648 ≤ n ∧ n ≤ 2147483647) (hz : ∀ q, q < 4 → 0 ≤ (A.2.2.2.2 q).2.1 ∧ (A.2.2.2.2 q).2.1 ≤ 24) : zE X mX7_copy 0 0 0 [zR 157, zI s, zI i, zI t, zI u, zI n, zX, zX] [] sh I L R (mOp sh I L R (zI (oCopy A s i t u n).1) (oCopy A s i t u n).2) := by
  obtain ⟨hM, hN, hHis, hKep, hTap, hShe⟩ := id h
  obtain ⟨⟨s0, s1, s2, s3, s4, s5, s6, s7, s8, s9, s10, s11, s12, s13, s14, s15⟩, r0, r1, r2, r3, r4, r5, r6, r7, r8, r9, r10, r11, r12, r13, r14⟩ := id hM
  have z2 := zwi_r s 0 3
  have z3 := zwi_r t 0 3
  refine z_iload1 1 dX7_copy_0 rfl ?_
  refine z_xS1 4 dX7_copy_1 lk_X7_copy_204 (ct_X7_isSheet hs) rfl (Nat.le_of_ble_eq_true rfl) (Nat.le_of_ble_eq_true rfl) rfl ?_
  refine z_if_eq 14 7 dX7_copy_4 (by decide) rfl (by omega) (fun h4 => ?_) (fun h4 => ?_)
  · have g4 := zwi_eq0 h4
    refine z_iconst 15 dX7_copy_14 rfl ?_
    exact z_ireturn dX7_copy_15 rfl ((by rw [show oCopy A s i t u n = (-1, A) by unfold oCopy; rw [if_neg (by omega)]]; exact mOp_same h rfl))
  · have g4 := zwi_ne0 h4
    refine z_iload3 8 dX7_copy_7 rfl ?_
    refine z_xS1 11 dX7_copy_8 lk_X7_copy_204 (ct_X7_isSheet ht) rfl (Nat.le_of_ble_eq_true rfl) (Nat.le_of_ble_eq_true rfl) rfl ?_
    refine z_if_ne 16 14 dX7_copy_11 (by decide) rfl (by omega) (fun h11 => ?_) (fun h11 => ?_)
    · have g11 := zwi_ne0 h11
      obtain ⟨q, rfl⟩ : ∃ q : Nat, s = (q : Int) := ⟨s.toNat, by omega⟩
      obtain ⟨p, rfl⟩ : ∃ q : Nat, t = (q : Int) := ⟨t.toNat, by omega⟩
      have hcs := hShe q (by omega)
      have hcp := hShe p (by omega)
      have hzq := hz q (by omega)
      have hzp := hz p (by omega)
      have hq1 := hcs.1.2
      have hp1 := hcp.1.2
      have hq2 := hcs.2.1
      have hp2 := hcp.2.1
      have eo : oCopy A q i p u n = (if (A.2.2.2.2 q).1 = -1 ∨ (A.2.2.2.2 p).1 = -1 then (-11, A) else if (A.2.2.2.2 q).1 = (A.2.2.2.2 p).1 then (if shold (A.2.2.2.2 q).2.1 i n = 1 ∧ shold (A.2.2.2.2 p).2.1 u n = 1 then (n, sset A p ((A.2.2.2.2 p).1, (A.2.2.2.2 p).2.1, zcp (A.2.2.2.2 q).2.2 (A.2.2.2.2 p).2.2 i.toNat u.toNat n.toNat)) else (-13, A)) else (-12, A)) := by unfold oCopy; rw [if_pos (by omega), Int.toNat_natCast, Int.toNat_natCast]
      rw [eo]
      refine z_aload0 17 dX7_copy_16 rfl ?_
      refine z_getR 20 dX7_copy_17 fl_RX7_43 (by assumption) (by assumption) rfl ?_
      refine z_iload1 21 dX7_copy_20 rfl ?_
      refine z_ialdx 22 (q) dX7_copy_21 (by assumption) (by omega) (by omega) (hcs.1.1) rfl ?_
      refine z_if_lt 34 25 dX7_copy_22 (by decide) rfl (by omega) (fun h22 => ?_) (fun h22 => ?_)
      · refine z_bipush 36 dX7_copy_34 (by decide) rfl ?_
        exact z_ireturn dX7_copy_36 rfl ((by rw [if_pos (by omega)]; exact mOp_same h rfl))
      · refine z_aload0 26 dX7_copy_25 rfl ?_
        refine z_getR 29 dX7_copy_26 fl_RX7_43 (by assumption) (by assumption) rfl ?_
        refine z_iload3 30 dX7_copy_29 rfl ?_
        refine z_ialdx 31 (p) dX7_copy_30 (by assumption) (by omega) (by omega) (hcp.1.1) rfl ?_
        refine z_if_ge 37 34 dX7_copy_31 (by decide) rfl (by omega) (fun h31 => ?_) (fun h31 => ?_)
        · refine z_aload0 38 dX7_copy_37 rfl ?_
          refine z_iload3 39 dX7_copy_38 rfl ?_
          refine z_aload0 40 dX7_copy_39 rfl ?_
          refine z_getR 43 dX7_copy_40 fl_RX7_43 (by assumption) (by assumption) rfl ?_
          refine z_iload1 44 dX7_copy_43 rfl ?_
          refine z_ialdx 45 (q) dX7_copy_44 (by assumption) (by omega) (by omega) (hcs.1.1) rfl ?_
          refine z_iload4 47 dX7_copy_45 rfl ?_
          refine z_iload5 49 dX7_copy_47 rfl ?_
          refine z_xV4 52 dX7_copy_49 lk_X7_copy_210 (ct_X7_why (q := p) hM (by omega) hcp.1.1 hp1 hcp.2.2.1 hp2 (by omega) hu hn) rfl (Nat.le_of_ble_eq_true rfl) (Nat.le_of_ble_eq_true rfl) (by assumption) rfl rfl ?_
          have kp0 : sref (A.2.2.2.2 p).1 (A.2.2.2.2 p).2.1 (A.2.2.2.2 q).1 u n = 0 ∧ ((A.2.2.2.2 q).1 = (A.2.2.2.2 p).1 ∧ shold (A.2.2.2.2 p).2.1 u n = 1 ∧ 0 ≤ u ∧ 0 ≤ n ∧ u + n ≤ 24) ∨ sref (A.2.2.2.2 p).1 (A.2.2.2.2 p).2.1 (A.2.2.2.2 q).1 u n = -12 ∧ (A.2.2.2.2 q).1 ≠ (A.2.2.2.2 p).1 ∨ sref (A.2.2.2.2 p).1 (A.2.2.2.2 p).2.1 (A.2.2.2.2 q).1 u n = -13 ∧ ((A.2.2.2.2 q).1 = (A.2.2.2.2 p).1 ∧ shold (A.2.2.2.2 p).2.1 u n = 0) := by
            unfold sref shold
            rw [if_neg (by omega)]
            repeat' split
            all_goals omega
          have kq0 : sref (A.2.2.2.2 q).1 (A.2.2.2.2 q).2.1 (A.2.2.2.2 q).1 i n = 0 ∧ (shold (A.2.2.2.2 q).2.1 i n = 1 ∧ 0 ≤ i ∧ 0 ≤ n ∧ i + n ≤ 24) ∨ sref (A.2.2.2.2 q).1 (A.2.2.2.2 q).2.1 (A.2.2.2.2 q).1 i n = -13 ∧ shold (A.2.2.2.2 q).2.1 i n = 0 := by
            unfold sref shold
            rw [if_neg (by omega), if_pos rfl]
            repeat' split
            all_goals omega
          have kq := ct_X7_why (X := X) (I := I) (L := L) (R := R) (q := q) (lane := (A.2.2.2.2 q).1) (i := i) (n := n) hM (by omega) hcs.1.1 hq1 hcs.2.2.1 hq2 (by omega) hi hn
          rw [if_neg (by omega)]
          generalize sref (A.2.2.2.2 p).1 (A.2.2.2.2 p).2.1 (A.2.2.2.2 q).1 u n = v1 at kp0 ⊢
          generalize sref (A.2.2.2.2 q).1 (A.2.2.2.2 q).2.1 (A.2.2.2.2 q).1 i n = v2 at kq0 kq ⊢
          generalize shold (A.2.2.2.2 p).2.1 u n = w1 at kp0 ⊢
          generalize shold (A.2.2.2.2 q).2.1 i n = w2 at kq0 ⊢
          refine z_istore6 54 dX7_copy_52 (Nat.le_of_ble_eq_true rfl) rfl rfl ?_
          refine z_iload6 56 dX7_copy_54 rfl ?_
          refine z_if_ne 76 59 dX7_copy_56 (by decide) rfl (by omega) (fun h56 => ?_) (fun h56 => ?_)
          · refine z_iload6 78 dX7_copy_76 rfl ?_
            refine z_istore6 80 dX7_copy_78 (Nat.le_of_ble_eq_true rfl) rfl rfl ?_
            refine z_iload6 82 dX7_copy_80 rfl ?_
            refine z_if_ge 88 85 dX7_copy_82 (by decide) rfl (by omega) (fun h82 => ?_) (fun h82 => ?_)
            · have hii : (0 ≤ i ∧ 0 ≤ n ∧ i + n ≤ 24) ∧ (0 ≤ u ∧ u + n ≤ 24) ∧ (A.2.2.2.2 q).1 = (A.2.2.2.2 p).1 ∧ w1 = 1 ∧ w2 = 1 := by omega
              rw [if_pos hii.2.2.1, if_pos ⟨hii.2.2.2.2, hii.2.2.2.1⟩]
              obtain ⟨a, rfl⟩ : ∃ a : Nat, i = (a : Int) := ⟨i.toNat, by omega⟩
              obtain ⟨c, rfl⟩ : ∃ c : Nat, u = (c : Int) := ⟨u.toNat, by omega⟩
              obtain ⟨y, rfl⟩ : ∃ y : Nat, n = (y : Int) := ⟨n.toNat, by omega⟩
              rw [Int.toNat_natCast, Int.toNat_natCast, Int.toNat_natCast]
              refine z_iconst 89 dX7_copy_88 rfl ?_
              refine z_istore7 91 dX7_copy_89 (Nat.le_of_ble_eq_true rfl) rfl rfl ?_
              have e172 : zrow L 172 (fln (L 172) (fun j => L 171 (24 * q + a + j)) 0 0) = L := by rw [fln_0, zrow_self]
              have k := lp_X7_copy91 (X := X) (I := I) (L := L) (s := (q : Int)) (i := (a : Int)) (t := (p : Int)) (u := (c : Int)) (z6 := v2) (n := y) (q := q) (p := a) hM (by omega) rfl rfl (by omega) _ (tl_X7_copy125 h (by omega) (by omega) (by omega) (by omega)) y 0 (by omega)
              rw [e172] at k
              have e2 : v2 = 0 := by omega
              first | exact k | (rw [e2] at k; exact k) | (exfalso; omega)
            · refine z_iload6 87 dX7_copy_85 rfl ?_
              exact z_ireturn dX7_copy_87 rfl ((by
                  first
                    | (rcases kp0 with e | e | e
                       · exfalso; omega
                       · rw [if_neg e.2, e.1]; exact mOp_same h rfl
                       · rw [if_pos e.2.1, if_neg (by omega), e.1]; exact mOp_same h rfl)
                    | (rw [if_pos (by omega), if_neg (by omega), show v2 = -13 by omega]; exact mOp_same h rfl)))
          · refine z_aload0 60 dX7_copy_59 rfl ?_
            refine z_iload1 61 dX7_copy_60 rfl ?_
            refine z_aload0 62 dX7_copy_61 rfl ?_
            refine z_getR 65 dX7_copy_62 fl_RX7_43 (by assumption) (by assumption) rfl ?_
            refine z_iload1 66 dX7_copy_65 rfl ?_
            refine z_ialdx 67 (q) dX7_copy_66 (by assumption) (by omega) (by omega) (hcs.1.1) rfl ?_
            refine z_iload2 68 dX7_copy_67 rfl ?_
            refine z_iload5 70 dX7_copy_68 rfl ?_
            refine z_xV4 73 dX7_copy_70 lk_X7_copy_210 (kq) rfl (Nat.le_of_ble_eq_true rfl) (Nat.le_of_ble_eq_true rfl) (by assumption) rfl rfl ?_
            refine z_goto 78 dX7_copy_73 (by decide) ?_
            refine z_istore6 80 dX7_copy_78 (Nat.le_of_ble_eq_true rfl) rfl rfl ?_
            refine z_iload6 82 dX7_copy_80 rfl ?_
            refine z_if_ge 88 85 dX7_copy_82 (by decide) rfl (by omega) (fun h82 => ?_) (fun h82 => ?_)
            · have hii : (0 ≤ i ∧ 0 ≤ n ∧ i + n ≤ 24) ∧ (0 ≤ u ∧ u + n ≤ 24) ∧ (A.2.2.2.2 q).1 = (A.2.2.2.2 p).1 ∧ w1 = 1 ∧ w2 = 1 := by omega
              rw [if_pos hii.2.2.1, if_pos ⟨hii.2.2.2.2, hii.2.2.2.1⟩]
              obtain ⟨a, rfl⟩ : ∃ a : Nat, i = (a : Int) := ⟨i.toNat, by omega⟩
              obtain ⟨c, rfl⟩ : ∃ c : Nat, u = (c : Int) := ⟨u.toNat, by omega⟩
              obtain ⟨y, rfl⟩ : ∃ y : Nat, n = (y : Int) := ⟨n.toNat, by omega⟩
              rw [Int.toNat_natCast, Int.toNat_natCast, Int.toNat_natCast]
              refine z_iconst 89 dX7_copy_88 rfl ?_
              refine z_istore7 91 dX7_copy_89 (Nat.le_of_ble_eq_true rfl) rfl rfl ?_
              have e172 : zrow L 172 (fln (L 172) (fun j => L 171 (24 * q + a + j)) 0 0) = L := by rw [fln_0, zrow_self]
              have k := lp_X7_copy91 (X := X) (I := I) (L := L) (s := (q : Int)) (i := (a : Int)) (t := (p : Int)) (u := (c : Int)) (z6 := v2) (n := y) (q := q) (p := a) hM (by omega) rfl rfl (by omega) _ (tl_X7_copy125 h (by omega) (by omega) (by omega) (by omega)) y 0 (by omega)
              rw [e172] at k
              have e2 : v2 = 0 := by omega
              first | exact k | (rw [e2] at k; exact k) | (exfalso; omega)
            · refine z_iload6 87 dX7_copy_85 rfl ?_
              exact z_ireturn dX7_copy_87 rfl ((by
                  first
                    | (rcases kp0 with e | e | e
                       · exfalso; omega
                       · rw [if_neg e.2, e.1]; exact mOp_same h rfl
                       · rw [if_pos e.2.1, if_neg (by omega), e.1]; exact mOp_same h rfl)
                    | (rw [if_pos (by omega), if_neg (by omega), show v2 = -13 by omega]; exact mOp_same h rfl)))
        · refine z_bipush 36 dX7_copy_34 (by decide) rfl ?_
          exact z_ireturn dX7_copy_36 rfl ((by rw [if_pos (by omega)]; exact mOp_same h rfl))
    · have g11 := zwi_eq0 h11
      refine z_iconst 15 dX7_copy_14 rfl ?_
      exact z_ireturn dX7_copy_15 rfl ((by rw [show oCopy A s i t u n = (-1, A) by unfold oCopy; rw [if_neg (by omega)]]; exact mOp_same h rfl))
end MODM
