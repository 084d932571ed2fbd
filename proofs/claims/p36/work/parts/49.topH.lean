/-! ===== calls on the object about sheets ===== -/
def ssh (s : Nat → Int × (Int × (Nat → Int))) (k : Nat) (v : Int × (Int × (Nat → Int))) : Nat → Int × (Int × (Nat → Int)) := fun q => if q = k then v else s q
def sset (A : zA) (k : Nat) (v : Int × (Int × (Nat → Int))) : zA := (A.1, (A.2.1, (A.2.2.1, (A.2.2.2.1, ssh A.2.2.2.2 k v))))
theorem cShe_set {I J L K : zI2} {s : Nat → Int × (Int × (Nat → Int))} {k : Nat} {v : Int × (Int × (Nat → Int))} (hJ : ∀ a, a ≠ 149 + 2 * k → J a = I a) (hK : ∀ a, a ≠ 149 + 2 * k + 1 → K a = L a) (hn : zShr J K (149 + 2 * k) ∧ J (149 + 2 * k) 1 = v.1 ∧ J (149 + 2 * k) 2 = v.2.1 ∧ ∀ j, j < 24 → K (149 + 2 * k + 1) j = v.2.2 j) (c : cShe I L s) : cShe J K (ssh s k v) := by
  intro q hq
  unfold ssh
  by_cases h : q = k
  · subst h
    rw [if_pos rfl]
    exact hn
  · rw [if_neg h]
    have c1 := c q hq
    have e1 := hJ (149 + 2 * q) (by omega)
    have e2 := hK (149 + 2 * q + 1) (by omega)
    unfold zShr at c1 ⊢
    rw [e1, e2]
    exact c1
theorem zOp_ofL {sh : zH} {I J L K : zI2} {R R' : zR2} {P : Nat → Nat} {A : zA} {v w : zV} (h : zCA sh R' P J K A) (hI : ∀ a, 157 ≤ a → J a = I a ∧ K a = L a ∧ R' a = R a) (e : v = w) : zOp sh I L R w A [v] sh J K R' := by
  subst e
  exact ⟨rfl, rfl, ⟨P, h⟩, hI⟩
theorem zCA_she {sh : zH} {I J L K : zI2} {R : zR2} {P : Nat → Nat} {A : zA} {k : Nat} {v : Int × (Int × (Nat → Int))} (h : zCA sh R P I L A) (hk : k < 4) (hJ : ∀ a, a ≠ 149 + 2 * k → J a = I a) (hK : ∀ a, a ≠ 149 + 2 * k + 1 → K a = L a) (hn : zShr J K (149 + 2 * k) ∧ J (149 + 2 * k) 1 = v.1 ∧ J (149 + 2 * k) 2 = v.2.1 ∧ ∀ j, j < 24 → K (149 + 2 * k + 1) j = v.2.2 j) : zCA sh R P J K (sset A k v) := by
  obtain ⟨hC, h1, h2, h3, h4, h5, h6, h7⟩ := h
  exact ⟨hC, cNow_of (fun a _ _ => hJ a (by omega)) h1, cTri_of (fun a _ _ => hJ a (by omega)) h2, cHis_of hC.2.2.1.2 (fun a _ => hJ a (by omega)) h3, cKep_of (fun a _ => hJ a (by omega)) h4, cTap_of (fun a _ => hJ a (by omega)) h5, cShe_set hJ hK hn h6, cOrd_of (fun a _ => hJ a (by omega)) h7⟩
def oSheet (A : zA) (s l n : Int) : Int × zA := if ((0 ≤ s ∧ s ≤ 3) ∧ (0 ≤ l ∧ l ≤ 3)) ∧ n ≤ 24 then (if n < 0 then (-14, A) else (n, sset A s.toNat (l, n, fun _ => 0))) else (-1, A)
def oDrop (A : zA) (s : Int) : Int × zA := if 0 ≤ s ∧ s ≤ 3 then (if (A.2.2.2.2 s.toNat).1 = -1 then (-11, A) else ((A.2.2.2.2 s.toNat).2.1, sset A s.toNat (-1, 0, (A.2.2.2.2 s.toNat).2.2))) else (-1, A)
def oItem (A : zA) (s l i v : Int) : Int × zA := if (0 ≤ s ∧ s ≤ 3) ∧ (0 ≤ l ∧ l ≤ 3) then (if sref (A.2.2.2.2 s.toNat).1 (A.2.2.2.2 s.toNat).2.1 l i 1 = 0 then (1, sset A s.toNat ((A.2.2.2.2 s.toNat).1, (A.2.2.2.2 s.toNat).2.1, fun j => if j = i.toNat then scut (A.2.2.2.2 s.toNat).1 v else (A.2.2.2.2 s.toNat).2.2 j)) else (sref (A.2.2.2.2 s.toNat).1 (A.2.2.2.2 s.toNat).2.1 l i 1, A)) else (-1, A)
def oCopy (A : zA) (s i s' i' n : Int) : Int × zA := if (0 ≤ s ∧ s ≤ 3) ∧ (0 ≤ s' ∧ s' ≤ 3) then (if (A.2.2.2.2 s.toNat).1 = -1 ∨ (A.2.2.2.2 s'.toNat).1 = -1 then (-11, A) else if (A.2.2.2.2 s.toNat).1 = (A.2.2.2.2 s'.toNat).1 then (if shold (A.2.2.2.2 s.toNat).2.1 i n = 1 ∧ shold (A.2.2.2.2 s'.toNat).2.1 i' n = 1 then (n, sset A s'.toNat ((A.2.2.2.2 s'.toNat).1, (A.2.2.2.2 s'.toNat).2.1, zcp (A.2.2.2.2 s.toNat).2.2 (A.2.2.2.2 s'.toNat).2.2 i.toNat i'.toNat n.toNat)) else (-13, A)) else (-12, A)) else (-1, A)
section TOPH
variable {X : zXs} {sh : zH} {I L : zI2} {R : zR2} {P : Nat → Nat} {A : zA}
theorem op_X6_sheet {s l n : Int} (h : zCA sh R P I L A) (hs : -2147483648 ≤ s ∧ s ≤ 2147483647) (hl : -2147483648 ≤ l ∧ l ≤ 2147483647) (hn : -2147483648 ≤ n ∧ n ≤ 2147483647) : zE X mX6_sheet 0 0 0 [zR 0, zI s, zI l, zI n] [] sh I L R (zOp sh I L R (zI (oSheet A s l n).1) (oSheet A s l n).2) := by
  obtain ⟨hC, hNow, hTri, hHis, hKep, hTap, hShe, hOrd⟩ := id h
  obtain ⟨⟨c0, c1, c2, c3, c4, c5, c6, c7, c8, c9, c10, c11⟩, ⟨n1, n8, n73⟩, ⟨hh, hpm⟩, kh, tp, ⟨shs, shk⟩, spd, o1, o2, ra⟩ := id hC
  obtain ⟨⟨s0, s1, s2, s3, s4, s5, s6⟩, r0, r1, r2, r3, r4, r5⟩ := id n1
  have n80 := n8.1.1
  have hh0 := hh.1.1
  have e6 := hNow.2.1.1
  have hn5 := hNow.1.1.1
  have z1 := zwi_r s 0 3
  have z2 := zwi_r l 0 3
  refine z_iload1 1 dX6_sheet_0 rfl ?_
  refine z_xS1 4 dX6_sheet_1 lk_X6_sheet_229 (ct_X6_isSheet (by omega)) rfl (Nat.le_of_ble_eq_true rfl) (Nat.le_of_ble_eq_true rfl) rfl ?_
  refine z_if_eq 20 7 dX6_sheet_4 (by decide) rfl (by omega) (fun h4 => ?_) (fun h4 => ?_)
  · have g4 := zwi_eq0 h4
    refine z_iconst 21 dX6_sheet_20 rfl ?_
    exact z_ireturn dX6_sheet_21 rfl ((by rw [show oSheet A s l n = (-1, A) by unfold oSheet; rw [if_neg (by omega)]]; exact zOp_same h rfl))
  · have g4 := zwi_ne0 h4
    refine z_iload2 8 dX6_sheet_7 rfl ?_
    refine z_xS1 11 dX6_sheet_8 lk_X6_sheet_232 (ct_X6_isLane (by omega)) rfl (Nat.le_of_ble_eq_true rfl) (Nat.le_of_ble_eq_true rfl) rfl ?_
    refine z_if_eq 20 14 dX6_sheet_11 (by decide) rfl (by omega) (fun h11 => ?_) (fun h11 => ?_)
    · have g11 := zwi_eq0 h11
      refine z_iconst 21 dX6_sheet_20 rfl ?_
      exact z_ireturn dX6_sheet_21 rfl ((by rw [show oSheet A s l n = (-1, A) by unfold oSheet; rw [if_neg (by omega)]]; exact zOp_same h rfl))
    · have g11 := zwi_ne0 h11
      refine z_iload3 15 dX6_sheet_14 rfl ?_
      refine z_bipush 17 dX6_sheet_15 (by decide) rfl ?_
      refine z_icmp_le 22 20 dX6_sheet_17 (by decide) rfl (by omega) (by omega) (fun h17 => ?_) (fun h17 => ?_)
      · refine z_iload3 23 dX6_sheet_22 rfl ?_
        refine z_if_ge 29 26 dX6_sheet_23 (by decide) rfl (by omega) (fun h23 => ?_) (fun h23 => ?_)
        · obtain ⟨q, rfl⟩ : ∃ q : Nat, s = (q : Int) := ⟨s.toNat, by omega⟩
          have hsq := shk q (by omega)
          have hsq0 := hsq.2.1
          refine z_aload0 30 dX6_sheet_29 rfl ?_
          refine z_getR 33 dX6_sheet_30 fl_RX6_45 (by assumption) (by assumption) rfl ?_
          refine z_iload1 34 dX6_sheet_33 rfl ?_
          refine z_aald3N 35 (q) dX6_sheet_34 (by assumption) (by omega) (by omega) (hsq.1) rfl ?_
          refine z_iload2 36 dX6_sheet_35 rfl ?_
          refine z_iload3 37 dX6_sheet_36 rfl ?_
          refine z_xVv2 40 dX6_sheet_37 lk_X6_sheet_253 (ct_X3_begin hsq.2) rfl (Nat.le_of_ble_eq_true rfl) (Nat.le_of_ble_eq_true rfl) (by assumption) rfl rfl ?_
          refine z_iload3 41 dX6_sheet_40 rfl ?_
          exact z_ireturn dX6_sheet_41 rfl ((by
              rw [show oSheet A q l n = (n, sset A q (l, n, fun _ => 0)) by unfold oSheet; rw [if_pos (by omega), if_neg (by omega), Int.toNat_natCast]]
              have e1 : ∀ j, zup (zup I (149 + 2 * q) 1 l) (149 + 2 * q) 2 n (149 + 2 * q) j = if j = 2 then n else if j = 1 then l else I (149 + 2 * q) j := fun j => by
                unfold zup
                by_cases h2 : j = 2
                · rw [if_pos ⟨rfl, h2⟩, if_pos h2]
                · rw [if_neg (fun z => h2 z.2), if_neg h2]
                  by_cases h1 : j = 1
                  · rw [if_pos ⟨rfl, h1⟩, if_pos h1]
                  · rw [if_neg (fun z => h1 z.2), if_neg h1]
              have e2 : ∀ j, j < 24 → zrow L (149 + 2 * q + 1) (zfl (L (149 + 2 * q + 1)) 24 0) (149 + 2 * q + 1) j = 0 := fun j hj => by rw [zrow_at]; unfold zfl; rw [if_pos hj]
              have hJ : ∀ a, a ≠ 149 + 2 * q → zup (zup I (149 + 2 * q) 1 l) (149 + 2 * q) 2 n a = I a := fun a ha => by rw [zup_row _ _ ha, zup_row _ _ ha]
              have hK : ∀ a, a ≠ 149 + 2 * q + 1 → zrow L (149 + 2 * q + 1) (zfl (L (149 + 2 * q + 1)) 24 0) a = L a := fun a ha => zrow_oR _ _ ha
              refine zOp_ofL (zCA_she h (by omega) hJ hK ⟨⟨?_, ?_, fun j hj => by rw [e2 j hj]; omega⟩, ?_, ?_, fun j hj => e2 j hj⟩) (fun a ha => ⟨hJ a (by omega), hK a (by omega), rfl⟩) rfl
              · rw [e1, if_neg (by decide), if_pos rfl]; omega
              · rw [e1, if_pos rfl]; omega
              · rw [e1, if_neg (by decide), if_pos rfl]
              · rw [e1, if_pos rfl]))
        · refine z_bipush 28 dX6_sheet_26 (by decide) rfl ?_
          exact z_ireturn dX6_sheet_28 rfl ((by rw [show oSheet A s l n = (-14, A) by unfold oSheet; rw [if_pos (by omega), if_pos (by omega)]]; exact zOp_same h rfl))
      · refine z_iconst 21 dX6_sheet_20 rfl ?_
        exact z_ireturn dX6_sheet_21 rfl ((by rw [show oSheet A s l n = (-1, A) by unfold oSheet; rw [if_neg (by omega)]]; exact zOp_same h rfl))
theorem op_X6_drop {s : Int} (h : zCA sh R P I L A) (hs : -2147483648 ≤ s ∧ s ≤ 2147483647) : zE X mX6_drop 0 0 0 [zR 0, zI s, zX, zX] [] sh I L R (zOp sh I L R (zI (oDrop A s).1) (oDrop A s).2) := by
  obtain ⟨hC, hNow, hTri, hHis, hKep, hTap, hShe, hOrd⟩ := id h
  obtain ⟨⟨c0, c1, c2, c3, c4, c5, c6, c7, c8, c9, c10, c11⟩, ⟨n1, n8, n73⟩, ⟨hh, hpm⟩, kh, tp, ⟨shs, shk⟩, spd, o1, o2, ra⟩ := id hC
  obtain ⟨⟨s0, s1, s2, s3, s4, s5, s6⟩, r0, r1, r2, r3, r4, r5⟩ := id n1
  have n80 := n8.1.1
  have hh0 := hh.1.1
  have e6 := hNow.2.1.1
  have hn5 := hNow.1.1.1
  have z1 := zwi_r s 0 3
  refine z_iload1 1 dX6_drop_0 rfl ?_
  refine z_xS1 4 dX6_drop_1 lk_X6_drop_229 (ct_X6_isSheet (by omega)) rfl (Nat.le_of_ble_eq_true rfl) (Nat.le_of_ble_eq_true rfl) rfl ?_
  refine z_if_ne 9 7 dX6_drop_4 (by decide) rfl (by omega) (fun h4 => ?_) (fun h4 => ?_)
  · have g4 := zwi_ne0 h4
    obtain ⟨q, rfl⟩ : ∃ q : Nat, s = (q : Int) := ⟨s.toNat, by omega⟩
    have hsq := shk q (by omega)
    have hsq0 := hsq.2.1
    have hcs := hShe q (by omega)
    have hc1 := hcs.2.1
    have eo : oDrop A q = (if (A.2.2.2.2 q).1 = -1 then (-11, A) else ((A.2.2.2.2 q).2.1, sset A q (-1, 0, (A.2.2.2.2 q).2.2))) := by unfold oDrop; rw [if_pos (by omega), Int.toNat_natCast]
    rw [eo]
    have hif : ∀ x : Int, (if x = -1 then (1 : Int) else 0) = 0 ∨ (if x = -1 then (1 : Int) else 0) = 1 := fun x => by split <;> simp
    have hi1 := hif (I (149 + 2 * q) 1)
    refine z_aload0 10 dX6_drop_9 rfl ?_
    refine z_getR 13 dX6_drop_10 fl_RX6_45 (by assumption) (by assumption) rfl ?_
    refine z_iload1 14 dX6_drop_13 rfl ?_
    refine z_aald3N 15 (q) dX6_drop_14 (by assumption) (by omega) (by omega) (hsq.1) rfl ?_
    refine z_astore2 16 dX6_drop_15 (Nat.le_of_ble_eq_true rfl) rfl rfl ?_
    refine z_aload2 17 dX6_drop_16 rfl ?_
    refine z_xV0 20 dX6_drop_17 lk_X6_drop_256 (ct_X3_isNothing hsq.2 hcs.1) rfl (Nat.le_of_ble_eq_true rfl) (Nat.le_of_ble_eq_true rfl) (by assumption) rfl rfl ?_
    refine z_if_eq 26 23 dX6_drop_20 (by decide) rfl (by omega) (fun h20 => ?_) (fun h20 => ?_)
    · refine z_aload2 27 dX6_drop_26 rfl ?_
      refine z_getI 30 dX6_drop_27 fl_RX6_259 (by assumption) rfl ?_
      refine z_istore3 31 dX6_drop_30 (Nat.le_of_ble_eq_true rfl) rfl rfl ?_
      refine z_aload2 32 dX6_drop_31 rfl ?_
      refine z_xVv0 35 dX6_drop_32 lk_X6_drop_260 (ct_X3_becomeNothing hsq.2) rfl (Nat.le_of_ble_eq_true rfl) (Nat.le_of_ble_eq_true rfl) (by assumption) rfl rfl ?_
      refine z_iload3 36 dX6_drop_35 rfl ?_
      exact z_ireturn dX6_drop_36 rfl ((by
          rw [if_neg (by split at h20 <;> omega)]
          have e1 : ∀ j, zup (zup I (149 + 2 * q) 1 (-1)) (149 + 2 * q) 2 0 (149 + 2 * q) j = if j = 2 then 0 else if j = 1 then -1 else I (149 + 2 * q) j := fun j => by
            unfold zup
            by_cases h2 : j = 2
            · rw [if_pos ⟨rfl, h2⟩, if_pos h2]
            · rw [if_neg (fun z => h2 z.2), if_neg h2]
              by_cases h1 : j = 1
              · rw [if_pos ⟨rfl, h1⟩, if_pos h1]
              · rw [if_neg (fun z => h1 z.2), if_neg h1]
          have hJ : ∀ a, a ≠ 149 + 2 * q → zup (zup I (149 + 2 * q) 1 (-1)) (149 + 2 * q) 2 0 a = I a := fun a ha => by rw [zup_row _ _ ha, zup_row _ _ ha]
          refine zOp_ofL (zCA_she h (by omega) hJ (fun _ _ => rfl) ⟨⟨?_, ?_, hcs.1.2.2⟩, ?_, ?_, hcs.2.2.2⟩) (fun a ha => ⟨hJ a (by omega), rfl, rfl⟩) (by rw [hcs.2.2.1])
          · rw [e1, if_neg (by decide), if_pos rfl]; omega
          · rw [e1, if_pos rfl]; omega
          · rw [e1, if_neg (by decide), if_pos rfl]
          · rw [e1, if_pos rfl]))
    · refine z_bipush 25 dX6_drop_23 (by decide) rfl ?_
      exact z_ireturn dX6_drop_25 rfl ((by rw [if_pos (by split at h20 <;> omega)]; exact zOp_same h rfl))
  · have g4 := zwi_eq0 h4
    refine z_iconst 8 dX6_drop_7 rfl ?_
    exact z_ireturn dX6_drop_8 rfl ((by rw [show oDrop A s = (-1, A) by unfold oDrop; rw [if_neg (by omega)]]; exact zOp_same h rfl))
end TOPH
