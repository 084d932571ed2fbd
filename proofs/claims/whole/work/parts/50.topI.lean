section TOPI
variable {X : zXs} {sh : zH} {I L : zI2} {R : zR2} {P : Nat → Nat} {A : zA}
theorem op_X6_item {s l i v : Int} (h : zCA sh R P I L A) (hs : -2147483648 ≤ s ∧ s ≤ 2147483647) (hl : -2147483648 ≤ l ∧ l ≤ 2147483647) (hi : -2147483648 ≤ i ∧ i ≤ 2147483647) (hv : -9223372036854775808 ≤ v ∧ v ≤ 9223372036854775807) : zE X mX6_item 0 0 0 [zR 0, zI s, zI l, zI i, zL v, zX, zX, zX] [] sh I L R (zOp sh I L R (zI (oItem A s l i v).1) (oItem A s l i v).2) := by
  obtain ⟨hC, hNow, hTri, hHis, hKep, hTap, hShe, hOrd⟩ := id h
  obtain ⟨⟨c0, c1, c2, c3, c4, c5, c6, c7, c8, c9, c10, c11⟩, ⟨n1, n8, n73⟩, ⟨hh, hpm⟩, kh, tp, ⟨shs, shk⟩, spd, o1, o2, ra⟩ := id hC
  obtain ⟨⟨s0, s1, s2, s3, s4, s5, s6⟩, r0, r1, r2, r3, r4, r5⟩ := id n1
  have n80 := n8.1.1
  have hh0 := hh.1.1
  have e6 := hNow.2.1.1
  have hn5 := hNow.1.1.1
  have z1 := zwi_r s 0 3
  have z2 := zwi_r l 0 3
  refine z_iload1 1 dX6_item_0 rfl ?_
  refine z_xS1 4 dX6_item_1 lk_X6_item_229 (ct_X6_isSheet (by omega)) rfl (Nat.le_of_ble_eq_true rfl) (Nat.le_of_ble_eq_true rfl) rfl ?_
  refine z_if_eq 14 7 dX6_item_4 (by decide) rfl (by omega) (fun h4 => ?_) (fun h4 => ?_)
  · have g4 := zwi_eq0 h4
    refine z_iconst 15 dX6_item_14 rfl ?_
    exact z_ireturn dX6_item_15 rfl ((by rw [show oItem A s l i v = (-1, A) by unfold oItem; rw [if_neg (by omega)]]; exact zOp_same h rfl))
  · have g4 := zwi_ne0 h4
    refine z_iload2 8 dX6_item_7 rfl ?_
    refine z_xS1 11 dX6_item_8 lk_X6_item_232 (ct_X6_isLane (by omega)) rfl (Nat.le_of_ble_eq_true rfl) (Nat.le_of_ble_eq_true rfl) rfl ?_
    refine z_if_ne 16 14 dX6_item_11 (by decide) rfl (by omega) (fun h11 => ?_) (fun h11 => ?_)
    · have g11 := zwi_ne0 h11
      obtain ⟨q, rfl⟩ : ∃ q : Nat, s = (q : Int) := ⟨s.toNat, by omega⟩
      have hsq := shk q (by omega)
      have hsq0 := hsq.2.1
      have hcs := hShe q (by omega)
      have hsr := hcs.1.2.1
      have eo : oItem A q l i v = (if sref (A.2.2.2.2 q).1 (A.2.2.2.2 q).2.1 l i 1 = 0 then (1, sset A q ((A.2.2.2.2 q).1, (A.2.2.2.2 q).2.1, fun j => if j = i.toNat then scut (A.2.2.2.2 q).1 v else (A.2.2.2.2 q).2.2 j)) else (sref (A.2.2.2.2 q).1 (A.2.2.2.2 q).2.1 l i 1, A)) := by unfold oItem; rw [if_pos (by omega), Int.toNat_natCast]
      rw [eo, ← hcs.2.1, ← hcs.2.2.1]
      have hrf := ct_X3_refusal (X := X) (L := L) (ln := l) (i := i) (n := 1) hsq.2 hcs.1 (by omega) (by omega) (by omega)
      have hr0 : sref (I (149 + 2 * q) 1) (I (149 + 2 * q) 2) l i 1 = 0 → 0 ≤ i ∧ i < I (149 + 2 * q) 2 := fun e => by
        unfold sref at e
        repeat' split at e
        all_goals omega
      have hr1 : -100 ≤ sref (I (149 + 2 * q) 1) (I (149 + 2 * q) 2) l i 1 ∧ sref (I (149 + 2 * q) 1) (I (149 + 2 * q) 2) l i 1 ≤ 0 := by
        unfold sref
        repeat' split
        all_goals omega
      generalize hg : sref (I (149 + 2 * q) 1) (I (149 + 2 * q) 2) l i 1 = g at hrf hr0 hr1 ⊢
      refine z_aload0 17 dX6_item_16 rfl ?_
      refine z_getR 20 dX6_item_17 fl_RX6_45 (by assumption) (by assumption) rfl ?_
      refine z_iload1 21 dX6_item_20 rfl ?_
      refine z_aald3N 22 (q) dX6_item_21 (by assumption) (by omega) (by omega) (hsq.1) rfl ?_
      refine z_astore6 24 dX6_item_22 (Nat.le_of_ble_eq_true rfl) rfl rfl ?_
      refine z_aload6 26 dX6_item_24 rfl ?_
      refine z_iload2 27 dX6_item_26 rfl ?_
      refine z_iload3 28 dX6_item_27 rfl ?_
      refine z_iconst 29 dX6_item_28 rfl ?_
      refine z_xV3 32 dX6_item_29 lk_X6_item_235 (hrf) rfl (Nat.le_of_ble_eq_true rfl) (Nat.le_of_ble_eq_true rfl) (by assumption) rfl rfl ?_
      refine z_istore7 34 dX6_item_32 (Nat.le_of_ble_eq_true rfl) rfl rfl ?_
      refine z_iload7 36 dX6_item_34 rfl ?_
      refine z_if_eq 42 39 dX6_item_36 (by decide) rfl (by omega) (fun h36 => ?_) (fun h36 => ?_)
      · have hi2 := hr0 (by omega)
        obtain ⟨p, rfl⟩ : ∃ p : Nat, i = (p : Int) := ⟨i.toNat, by omega⟩
        refine z_aload6 44 dX6_item_42 rfl ?_
        refine z_iload3 45 dX6_item_44 rfl ?_
        refine z_lload4 47 dX6_item_45 rfl ?_
        refine z_xVv2 50 dX6_item_47 lk_X6_item_249 (ct_X3_put hsq.2 hcs.1 hi2.2) rfl (Nat.le_of_ble_eq_true rfl) (Nat.le_of_ble_eq_true rfl) (by assumption) rfl rfl ?_
        refine z_iconst 51 dX6_item_50 rfl ?_
        exact z_ireturn dX6_item_51 rfl ((by
            rw [if_pos (by omega), Int.toNat_natCast]
            have e1 : ∀ j, zup L (149 + 2 * q + 1) p (scut (I (149 + 2 * q) 1) v) (149 + 2 * q + 1) j = if j = p then scut (I (149 + 2 * q) 1) v else L (149 + 2 * q + 1) j := fun j => by
              unfold zup
              by_cases h2 : j = p
              · rw [if_pos ⟨rfl, h2⟩, if_pos h2]
              · rw [if_neg (fun z => h2 z.2), if_neg h2]
            have hK : ∀ a, a ≠ 149 + 2 * q + 1 → zup L (149 + 2 * q + 1) p (scut (I (149 + 2 * q) 1) v) a = L a := fun a ha => zup_row _ _ ha
            have hsc := scut_r (I (149 + 2 * q) 1) v hv
            refine zOp_ofL (zCA_she h (by omega) (fun _ _ => rfl) hK ⟨⟨hcs.1.1, hcs.1.2.1, fun j hj => ?_⟩, rfl, rfl, fun j hj => ?_⟩) (fun a ha => ⟨rfl, hK a (by omega), rfl⟩) rfl
            · rw [e1]
              split
              · exact hsc
              · exact hcs.1.2.2 j hj
            · rw [e1, hcs.2.2.2 j hj]))
      · refine z_iload7 41 dX6_item_39 rfl ?_
        exact z_ireturn dX6_item_41 rfl ((by rw [if_neg (by omega)]; exact zOp_same h rfl))
    · have g11 := zwi_eq0 h11
      refine z_iconst 15 dX6_item_14 rfl ?_
      exact z_ireturn dX6_item_15 rfl ((by rw [show oItem A s l i v = (-1, A) by unfold oItem; rw [if_neg (by omega)]]; exact zOp_same h rfl))
theorem op_X6_copy {s i t u n : Int} (h : zCA sh R P I L A) (hs : -2147483648 ≤ s ∧ s ≤ 2147483647) (hi : -2147483648 ≤ i ∧ i ≤ 2147483647) (ht : -2147483648 ≤ t ∧ t ≤ 2147483647) (hu : -2147483648 ≤ u ∧ u ≤ 2147483647) (hn : -2147483648 ≤ n ∧ n ≤ 2147483647) : zE X mX6_copy 0 0 0 [zR 0, zI s, zI i, zI t, zI u, zI n, zX, zX] [] sh I L R (zOp sh I L R (zI (oCopy A s i t u n).1) (oCopy A s i t u n).2) := by
  obtain ⟨hC, hNow, hTri, hHis, hKep, hTap, hShe, hOrd⟩ := id h
  obtain ⟨⟨c0, c1, c2, c3, c4, c5, c6, c7, c8, c9, c10, c11⟩, ⟨n1, n8, n73⟩, ⟨hh, hpm⟩, kh, tp, ⟨shs, shk⟩, spd, o1, o2, ra⟩ := id hC
  obtain ⟨⟨s0, s1, s2, s3, s4, s5, s6⟩, r0, r1, r2, r3, r4, r5⟩ := id n1
  have n80 := n8.1.1
  have hh0 := hh.1.1
  have e6 := hNow.2.1.1
  have hn5 := hNow.1.1.1
  have z1 := zwi_r s 0 3
  have z2 := zwi_r t 0 3
  refine z_iload1 1 dX6_copy_0 rfl ?_
  refine z_xS1 4 dX6_copy_1 lk_X6_copy_229 (ct_X6_isSheet (by omega)) rfl (Nat.le_of_ble_eq_true rfl) (Nat.le_of_ble_eq_true rfl) rfl ?_
  refine z_if_eq 14 7 dX6_copy_4 (by decide) rfl (by omega) (fun h4 => ?_) (fun h4 => ?_)
  · have g4 := zwi_eq0 h4
    refine z_iconst 15 dX6_copy_14 rfl ?_
    exact z_ireturn dX6_copy_15 rfl ((by rw [show oCopy A s i t u n = (-1, A) by unfold oCopy; rw [if_neg (by omega)]]; exact zOp_same h rfl))
  · have g4 := zwi_ne0 h4
    refine z_iload3 8 dX6_copy_7 rfl ?_
    refine z_xS1 11 dX6_copy_8 lk_X6_copy_229 (ct_X6_isSheet (by omega)) rfl (Nat.le_of_ble_eq_true rfl) (Nat.le_of_ble_eq_true rfl) rfl ?_
    refine z_if_ne 16 14 dX6_copy_11 (by decide) rfl (by omega) (fun h11 => ?_) (fun h11 => ?_)
    · have g11 := zwi_ne0 h11
      obtain ⟨q, rfl⟩ : ∃ q : Nat, s = (q : Int) := ⟨s.toNat, by omega⟩
      obtain ⟨p, rfl⟩ : ∃ q : Nat, t = (q : Int) := ⟨t.toNat, by omega⟩
      have hsq := shk q (by omega)
      have hsp := shk p (by omega)
      have hsq0 := hsq.2.1
      have hsp0 := hsp.2.1
      have hcs := hShe q (by omega)
      have hcp := hShe p (by omega)
      have hq2 := hcs.1.2.1
      have hp2 := hcp.1.2.1
      have hq1 := hcs.1.1
      have hp1 := hcp.1.1
      have eo : oCopy A q i p u n = (if (A.2.2.2.2 q).1 = -1 ∨ (A.2.2.2.2 p).1 = -1 then (-11, A) else if (A.2.2.2.2 q).1 = (A.2.2.2.2 p).1 then (if shold (A.2.2.2.2 q).2.1 i n = 1 ∧ shold (A.2.2.2.2 p).2.1 u n = 1 then (n, sset A p ((A.2.2.2.2 p).1, (A.2.2.2.2 p).2.1, zcp (A.2.2.2.2 q).2.2 (A.2.2.2.2 p).2.2 i.toNat u.toNat n.toNat)) else (-13, A)) else (-12, A)) := by unfold oCopy; rw [if_pos (by omega), Int.toNat_natCast, Int.toNat_natCast]
      rw [eo, ← hcs.2.1, ← hcs.2.2.1, ← hcp.2.1, ← hcp.2.2.1]
      have k1 := ct_X3_isNothing (X := X) (L := L) hsq.2 hcs.1
      have k2 := ct_X3_isNothing (X := X) (L := L) hsp.2 hcp.1
      have k3 := ct_X3_holds (X := X) (L := L) (i := i) (n := n) hsq.2 hcs.1 hi hn
      have k4 := ct_X3_holds (X := X) (L := L) (i := u) (n := n) hsp.2 hcp.1 hu hn
      have n1 : (if I (149 + 2 * q) 1 = -1 then (1 : Int) else 0) = 0 ∧ I (149 + 2 * q) 1 ≠ -1 ∨ (if I (149 + 2 * q) 1 = -1 then (1 : Int) else 0) = 1 ∧ I (149 + 2 * q) 1 = -1 := by split <;> omega
      have n2 : (if I (149 + 2 * p) 1 = -1 then (1 : Int) else 0) = 0 ∧ I (149 + 2 * p) 1 ≠ -1 ∨ (if I (149 + 2 * p) 1 = -1 then (1 : Int) else 0) = 1 ∧ I (149 + 2 * p) 1 = -1 := by split <;> omega
      have n3 : shold (I (149 + 2 * q) 2) i n = 0 ∨ shold (I (149 + 2 * q) 2) i n = 1 ∧ (0 ≤ i ∧ 0 ≤ n ∧ i + n ≤ 24) := by unfold shold; split <;> omega
      have n4 : shold (I (149 + 2 * p) 2) u n = 0 ∨ shold (I (149 + 2 * p) 2) u n = 1 ∧ (0 ≤ u ∧ 0 ≤ n ∧ u + n ≤ 24) := by unfold shold; split <;> omega
      generalize (if I (149 + 2 * q) 1 = -1 then (1 : Int) else 0) = w1 at k1 n1
      generalize (if I (149 + 2 * p) 1 = -1 then (1 : Int) else 0) = w2 at k2 n2
      generalize shold (I (149 + 2 * q) 2) i n = w3 at k3 n3 ⊢
      generalize shold (I (149 + 2 * p) 2) u n = w4 at k4 n4 ⊢
      refine z_aload0 17 dX6_copy_16 rfl ?_
      refine z_getR 20 dX6_copy_17 fl_RX6_45 (by assumption) (by assumption) rfl ?_
      refine z_iload1 21 dX6_copy_20 rfl ?_
      refine z_aald3N 22 (q) dX6_copy_21 (by assumption) (by omega) (by omega) (hsq.1) rfl ?_
      refine z_astore6 24 dX6_copy_22 (Nat.le_of_ble_eq_true rfl) rfl rfl ?_
      refine z_aload0 25 dX6_copy_24 rfl ?_
      refine z_getR 28 dX6_copy_25 fl_RX6_45 (by assumption) (by assumption) rfl ?_
      refine z_iload3 29 dX6_copy_28 rfl ?_
      refine z_aald3N 30 (p) dX6_copy_29 (by assumption) (by omega) (by omega) (hsp.1) rfl ?_
      refine z_astore7 32 dX6_copy_30 (Nat.le_of_ble_eq_true rfl) rfl rfl ?_
      refine z_aload6 34 dX6_copy_32 rfl ?_
      refine z_xV0 37 dX6_copy_34 lk_X6_copy_256 (k1) rfl (Nat.le_of_ble_eq_true rfl) (Nat.le_of_ble_eq_true rfl) (by assumption) rfl rfl ?_
      refine z_if_ne 48 40 dX6_copy_37 (by decide) rfl (by omega) (fun h37 => ?_) (fun h37 => ?_)
      · refine z_bipush 50 dX6_copy_48 (by decide) rfl ?_
        exact z_ireturn dX6_copy_50 rfl ((by rw [if_pos (by omega)]; exact zOp_same h rfl))
      · refine z_aload7 42 dX6_copy_40 rfl ?_
        refine z_xV0 45 dX6_copy_42 lk_X6_copy_256 (k2) rfl (Nat.le_of_ble_eq_true rfl) (Nat.le_of_ble_eq_true rfl) (by assumption) rfl rfl ?_
        refine z_if_eq 51 48 dX6_copy_45 (by decide) rfl (by omega) (fun h45 => ?_) (fun h45 => ?_)
        · refine z_aload6 53 dX6_copy_51 rfl ?_
          refine z_getI 56 dX6_copy_53 fl_RX6_263 (by assumption) rfl ?_
          refine z_aload7 58 dX6_copy_56 rfl ?_
          refine z_getI 61 dX6_copy_58 fl_RX6_263 (by assumption) rfl ?_
          refine z_icmp_eq 67 64 dX6_copy_61 (by decide) rfl (by omega) (by omega) (fun h61 => ?_) (fun h61 => ?_)
          · refine z_aload6 69 dX6_copy_67 rfl ?_
            refine z_iload2 70 dX6_copy_69 rfl ?_
            refine z_iload5 72 dX6_copy_70 rfl ?_
            refine z_xV2 75 dX6_copy_72 lk_X6_copy_266 (k3) rfl (Nat.le_of_ble_eq_true rfl) (Nat.le_of_ble_eq_true rfl) (by assumption) rfl rfl ?_
            refine z_if_eq 90 78 dX6_copy_75 (by decide) rfl (by omega) (fun h75 => ?_) (fun h75 => ?_)
            · refine z_bipush 92 dX6_copy_90 (by decide) rfl ?_
              exact z_ireturn dX6_copy_92 rfl ((by rw [if_neg (by omega), if_pos (by omega), if_neg (by omega)]; exact zOp_same h rfl))
            · refine z_aload7 80 dX6_copy_78 rfl ?_
              refine z_iload4 82 dX6_copy_80 rfl ?_
              refine z_iload5 84 dX6_copy_82 rfl ?_
              refine z_xV2 87 dX6_copy_84 lk_X6_copy_266 (k4) rfl (Nat.le_of_ble_eq_true rfl) (Nat.le_of_ble_eq_true rfl) (by assumption) rfl rfl ?_
              refine z_if_ne 93 90 dX6_copy_87 (by decide) rfl (by omega) (fun h87 => ?_) (fun h87 => ?_)
              · refine z_aload6 95 dX6_copy_93 rfl ?_
                refine z_getR 98 dX6_copy_95 fl_RX6_270 (by assumption) (hsq.2.2.2) rfl ?_
                refine z_iload2 99 dX6_copy_98 rfl ?_
                refine z_aload7 101 dX6_copy_99 rfl ?_
                refine z_getR 104 dX6_copy_101 fl_RX6_270 (by assumption) (hsp.2.2.2) rfl ?_
                refine z_iload4 106 dX6_copy_104 rfl ?_
                refine z_iload5 108 dX6_copy_106 rfl ?_
                have hsq1 := hsq.2.2.1
                have hsp1 := hsp.2.2.1
                refine z_copyL 111 (sp := i.toNat) (dp := u.toNat) (n := n.toNat) dX6_copy_108 ml_RX6_274 na_acp sm_arraycopyName it_RJ10 (by assumption) (by assumption) (by omega) (by omega) (by omega) (by omega) (by decide) (Nat.le_of_ble_eq_true rfl) rfl ?_
                refine z_iload5 113 dX6_copy_111 rfl ?_
                exact z_ireturn dX6_copy_113 rfl ((by
                    rw [if_neg (by omega), if_pos (by omega), if_pos (by omega)]
                    have hK : ∀ a, a ≠ 149 + 2 * p + 1 → zrow L (149 + 2 * p + 1) (zcp (L (149 + 2 * q + 1)) (L (149 + 2 * p + 1)) i.toNat u.toNat n.toNat) a = L a := fun a ha => zrow_oR _ _ ha
                    refine zOp_ofL (zCA_she h (by omega) (fun _ _ => rfl) hK ⟨⟨hcp.1.1, hcp.1.2.1, fun j hj => ?_⟩, rfl, rfl, fun j hj => ?_⟩) (fun a ha => ⟨rfl, hK a (by omega), rfl⟩) rfl
                    · rw [zrow_at]
                      unfold zcp
                      split
                      · exact hcs.1.2.2 _ (by omega)
                      · exact hcp.1.2.2 j hj
                    · rw [zrow_at]
                      show _ = zcp (A.2.2.2.2 q).2.2 (A.2.2.2.2 p).2.2 i.toNat u.toNat n.toNat j
                      unfold zcp
                      split
                      · exact hcs.2.2.2 _ (by omega)
                      · exact hcp.2.2.2 j hj))
              · refine z_bipush 92 dX6_copy_90 (by decide) rfl ?_
                exact z_ireturn dX6_copy_92 rfl ((by rw [if_neg (by omega), if_pos (by omega), if_neg (by omega)]; exact zOp_same h rfl))
          · refine z_bipush 66 dX6_copy_64 (by decide) rfl ?_
            exact z_ireturn dX6_copy_66 rfl ((by rw [if_neg (by omega), if_neg (by omega)]; exact zOp_same h rfl))
        · refine z_bipush 50 dX6_copy_48 (by decide) rfl ?_
          exact z_ireturn dX6_copy_50 rfl ((by rw [if_pos (by omega)]; exact zOp_same h rfl))
    · have g11 := zwi_eq0 h11
      refine z_iconst 15 dX6_copy_14 rfl ?_
      exact z_ireturn dX6_copy_15 rfl ((by rw [show oCopy A s i t u n = (-1, A) by unfold oCopy; rw [if_neg (by omega)]]; exact zOp_same h rfl))
end TOPI
