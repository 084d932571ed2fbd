section MODX
variable {X : zXs} {sh : zH} {I L : zI2} {R : zR2} {T : Nat → Int} {n : Nat}
/-- how the reading of riders ends, beside the class's reading d -/
def rQ (sh : zH) (I L : zI2) (R : zR2) (T : Nat → Int) (n : Nat) (S0 : zT) (d : Int × (Nat × zT)) : zQ := fun r' sh' I' L' R' => sh' = sh ∧ L' = L ∧ R' = R ∧ ∃ (n' k' : Nat) (W' : Nat → Int), r' = [zI (n' : Int)] ∧ ((I' = mT (zrow I 162 W') k' 1 ∧ k' ≤ n ∧ ((d.1 = 0 ∧ k' = d.2.1) ∨ (d.1 = 1 ∧ tat T n (tnl T n d.2.1) ≠ -1 ∧ k' = tnl T n d.2.1))) ∨ (I' = mT (zrow I 162 W') k' 0 ∧ d.1 = 1 ∧ k' = tnl T n d.2.1 ∧ k' ≤ n ∧ 1 ≤ n' ∧ n' ≤ 5 ∧ d.2.2 = sads S0 W' n'))
/-- a sixth one can't stand there -/
theorem tl_X7_riders108 {r k : Nat} {z4 z5 : zV} {J : zI2} {Q : zQ} (hM : zMs sh R) (ht : zTm I T n) (hr : r ≤ 9) (hk : k ≤ 100) (kk : ∀ n' : Nat, Q [zI (n' : Int)] sh (mT J k 1) L R) : zE X mX7_ridersRead 0 0 108 [zR 157, zI (r : Int), zI 0, zI (mkd 0), z4, z5] [] sh (mT J k 1) L R Q := by
  obtain ⟨⟨s0, s1, s2, s3, s4, s5, s6, s7, s8, s9, s10, s11, s12, s13, s14, s15⟩, r0, r1, r2, r3, r4, r5, r6, r7, r8, r9, r10, r11, r12, r13, r14⟩ := id hM
  have e : mkd 0 = -1 := rfl
  rw [e]
  refine z_aload0 109 dX7_ridersRead_108 rfl ?_
  refine z_iload3 110 dX7_ridersRead_109 rfl ?_
  refine z_if_lt 117 113 dX7_ridersRead_110 (by decide) rfl (by omega) (fun h110 => ?_) (fun hz => absurd hz (by omega))
  refine z_iconst 118 dX7_ridersRead_117 rfl ?_
  refine z_xVv1 121 dX7_ridersRead_118 lk_X7_ridersRead_140 (ct_X7_must1 hM hk) rfl (Nat.le_of_ble_eq_true rfl) (Nat.le_of_ble_eq_true rfl) (by assumption) rfl rfl ?_
  refine zE_mono (fun r' sh' I' L' R' hz => ?_) (tl_X7_riders121' hM (by omega) hk)
  obtain ⟨y1, y2, y3, y4, y5⟩ := hz
  rw [y1, y2, y3, y4, y5]
  exact kk _
theorem lp_X7_riders (hM : zMs sh R) (ht : zTm I T n) (hT : ∀ j, j < 70 → 0 ≤ T j ∧ T j ≤ 126) (S0 : zT) : ∀ (m r k : Nat) (W : Nat → Int) (c kd hv ln : Int), r + m = 5 → 1 ≤ r → k ≤ n → zE X mX7_ridersRead 0 0 2 [zR 157, zI (r : Int), zI c, zI kd, zI hv, zI ln] [] sh (mT (zrow I 162 W) k 0) L R (rQ sh I L R T n S0 (trl T n m r k (sads S0 W r)))
  | 0, r, k, W, c, kd, hv, ln, h, h1, hk => by
    obtain ⟨⟨s0, s1, s2, s3, s4, s5, s6, s7, s8, s9, s10, s11, s12, s13, s14, s15⟩, r0, r1, r2, r3, r4, r5, r6, r7, r8, r9, r10, r11, r12, r13, r14⟩ := id hM
    have h70 := ht.2.1
    have hr5 : r = 5 := by omega
    subst hr5
    have htW := zTm_row ht (a := 162) (by decide) (by decide) W
    have hk1 := tnl_r T n k hk
    have hm := mat_t (k := tnl T n k) ht.2.2.2
    have kh := ct_X7_here (X := X) (L := L) (f := 0) hM htW hk
    have e : trl T n 0 5 k (sads S0 W 5) = (1, k, sads S0 W 5) := rfl
    rw [e]
    by_cases h44 : tat T n (tnl T n k) = 44
    · have em : mat T n (tnl T n k) = 44 := by omega
      rw [em] at kh
      have hmu := ct_X7_must0 (X := X) (I := zrow I 162 W) (L := L) (R := R) (k := tnl T n k) (b := 0) hM (by omega) (Or.inl rfl)
      rw [if_neg (by decide)] at hmu
      refine z_aload0 3 dX7_ridersRead_2 rfl ?_
      refine z_getIx 6 dX7_ridersRead_3 fl_RX7_133 (by assumption) (mT_5 _ _ _) rfl ?_
      refine z_if_ne 214 9 dX7_ridersRead_6 (by decide) rfl (by omega) (fun hz => absurd hz (by omega)) (fun h6 => ?_)
      refine z_iload1 10 dX7_ridersRead_9 rfl ?_
      refine z_if_eq 22 13 dX7_ridersRead_10 (by decide) rfl (by omega) (fun hz => absurd hz (by omega)) (fun h10 => ?_)
      refine z_aload0 14 dX7_ridersRead_13 rfl ?_
      refine z_xV0 17 dX7_ridersRead_14 lk_X7_ridersRead_137 (kh) rfl (Nat.le_of_ble_eq_true rfl) (Nat.le_of_ble_eq_true rfl) (by assumption) rfl rfl ?_
      refine z_bipush 19 dX7_ridersRead_17 (by decide) rfl ?_
      refine z_icmp_ne 214 22 dX7_ridersRead_19 (by decide) rfl (by omega) (by omega) (fun hz => absurd hz (by omega)) (fun h19 => ?_)
      refine z_iload1 23 dX7_ridersRead_22 rfl ?_
      refine z_if_le 40 26 dX7_ridersRead_23 (by decide) rfl (by omega) (fun hz => absurd hz (by omega)) (fun h23 => ?_)
      refine z_aload0 27 dX7_ridersRead_26 rfl ?_
      refine z_iload1 28 dX7_ridersRead_27 rfl ?_
      refine z_iconst 29 dX7_ridersRead_28 rfl ?_
      refine z_icmp_ge 36 32 dX7_ridersRead_29 (by decide) rfl (by omega) (by omega) (fun h29 => ?_) (fun hz => absurd hz (by omega))
      refine z_iconst 37 dX7_ridersRead_36 rfl ?_
      refine z_xVv1 40 dX7_ridersRead_37 lk_X7_ridersRead_140 (hmu) rfl (Nat.le_of_ble_eq_true rfl) (Nat.le_of_ble_eq_true rfl) (by assumption) rfl rfl ?_
      refine z_aload0 41 dX7_ridersRead_40 rfl ?_
      refine z_getIx 44 dX7_ridersRead_41 fl_RX7_133 (by assumption) (mT_5 _ _ _) rfl ?_
      refine z_if_eq 51 47 dX7_ridersRead_44 (by decide) rfl (by omega) (fun hz => absurd hz (by omega)) (fun h44 => ?_)
      refine z_iconst 48 dX7_ridersRead_47 rfl ?_
      refine z_goto 55 dX7_ridersRead_48 (by decide) ?_
      exact tl_X7_riders55 ⟨rfl, rfl⟩ (by omega) (tl_X7_riders108 hM ht (by omega) (by omega) (fun n' => ⟨rfl, rfl, rfl, n', tnl T n k, W, rfl, Or.inl ⟨rfl, hk1.2, Or.inr ⟨rfl, by show tat T n (tnl T n k) ≠ -1; omega, rfl⟩⟩⟩))
    · have hc44 : mat T n (tnl T n k) ≠ 44 := by omega
      generalize hcc : mat T n (tnl T n k) = c0 at *
      refine z_aload0 3 dX7_ridersRead_2 rfl ?_
      refine z_getIx 6 dX7_ridersRead_3 fl_RX7_133 (by assumption) (mT_5 _ _ _) rfl ?_
      refine z_if_ne 214 9 dX7_ridersRead_6 (by decide) rfl (by omega) (fun hz => absurd hz (by omega)) (fun h6 => ?_)
      refine z_iload1 10 dX7_ridersRead_9 rfl ?_
      refine z_if_eq 22 13 dX7_ridersRead_10 (by decide) rfl (by omega) (fun hz => absurd hz (by omega)) (fun h10 => ?_)
      refine z_aload0 14 dX7_ridersRead_13 rfl ?_
      refine z_xV0 17 dX7_ridersRead_14 lk_X7_ridersRead_137 (kh) rfl (Nat.le_of_ble_eq_true rfl) (Nat.le_of_ble_eq_true rfl) (by assumption) rfl rfl ?_
      refine z_bipush 19 dX7_ridersRead_17 (by decide) rfl ?_
      refine z_icmp_ne 214 22 dX7_ridersRead_19 (by decide) rfl (by omega) (by omega) (fun h19 => ?_) (fun hz => absurd hz (by omega))
      refine z_iload1 215 dX7_ridersRead_214 rfl ?_
      exact z_ireturn dX7_ridersRead_215 rfl (⟨rfl, rfl, rfl, 5, tnl T n k, W, rfl, Or.inr ⟨rfl, rfl, rfl, hk1.2, by decide, by decide, rfl⟩⟩)
  | m + 1, r, k, W, c, kd, hv, ln, h, h1, hk => by
    obtain ⟨⟨s0, s1, s2, s3, s4, s5, s6, s7, s8, s9, s10, s11, s12, s13, s14, s15⟩, r0, r1, r2, r3, r4, r5, r6, r7, r8, r9, r10, r11, r12, r13, r14⟩ := id hM
    have h70 := ht.2.1
    have htW := zTm_row ht (a := 162) (by decide) (by decide) W
    have hk1 := tnl_r T n k hk
    have hm := mat_t (k := tnl T n k) ht.2.2.2
    have kh := ct_X7_here (X := X) (L := L) (f := 0) hM htW hk
    have e : trl T n (m + 1) r k (sads S0 W r) = if tat T n (tnl T n k) = 44 then (if (trr T n r (tnl T n k + 1) (sads S0 W r)).1 = 0 then (0, (trr T n r (tnl T n k + 1) (sads S0 W r)).2) else trl T n m (r + 1) (trr T n r (tnl T n k + 1) (sads S0 W r)).2.1 (trr T n r (tnl T n k + 1) (sads S0 W r)).2.2) else (1, tnl T n k, sads S0 W r) := rfl
    rw [e]
    by_cases h44 : tat T n (tnl T n k) = 44
    · have em : mat T n (tnl T n k) = 44 := by omega
      have hlt : tnl T n k < n := tat_lt (T := T) (by omega)
      rw [em] at kh
      rw [if_pos h44]
      have hmu := ct_X7_must0 (X := X) (I := zrow I 162 W) (L := L) (R := R) (k := tnl T n k) (b := 1) hM (by omega) (Or.inr rfl)
      rw [if_pos rfl] at hmu
      have hq := trr_r (T := T) (n := n) (r := r) (k := tnl T n k + 1) (S := sads S0 W r) hT h70 (by omega)
      have step := fun z4 z5 => tl_X7_riders40 (X := X) (I := I) (L := L) (R := R) (r := r) (k := tnl T n k + 1) (z2 := zI c) (z3 := zI kd) (z4 := z4) (z5 := z5) (W := W) (S := sads S0 W r) (Q := rQ sh I L R T n S0 (if (trr T n r (tnl T n k + 1) (sads S0 W r)).1 = 0 then (0, (trr T n r (tnl T n k + 1) (sads S0 W r)).2) else trl T n m (r + 1) (trr T n r (tnl T n k + 1) (sads S0 W r)).2.1 (trr T n r (tnl T n k + 1) (sads S0 W r)).2.2)) hM ht hT (by omega) (by omega) (fun h0 => by
        rw [if_pos h0]
        exact ⟨rfl, rfl, rfl, r + 1, _, W, rfl, Or.inl ⟨rfl, hq.2, Or.inl ⟨rfl, rfl⟩⟩⟩) (fun c kd hv ln W' h0 hW' hs => by
        rw [if_neg h0, hs]
        have es : sads S0 W r = sads S0 W' r := sads_c r (fun j hj => (hW' j hj).symm)
        rw [es]
        have := lp_X7_riders hM ht hT S0 m (r + 1) (trr T n r (tnl T n k + 1) (sads S0 W r)).2.1 W' c kd hv ln (by omega) (by omega) hq.2
        rw [es] at this
        exact this) ⟨rfl, rfl⟩
      have hrl : (r : Int) < 5 := by omega
      refine z_aload0 3 dX7_ridersRead_2 rfl ?_
      refine z_getIx 6 dX7_ridersRead_3 fl_RX7_133 (by assumption) (mT_5 _ _ _) rfl ?_
      refine z_if_ne 214 9 dX7_ridersRead_6 (by decide) rfl (by omega) (fun hz => absurd hz (by omega)) (fun h6 => ?_)
      refine z_iload1 10 dX7_ridersRead_9 rfl ?_
      refine z_if_eq 22 13 dX7_ridersRead_10 (by decide) rfl (by omega) (fun hz => absurd hz (by omega)) (fun h10 => ?_)
      refine z_aload0 14 dX7_ridersRead_13 rfl ?_
      refine z_xV0 17 dX7_ridersRead_14 lk_X7_ridersRead_137 (kh) rfl (Nat.le_of_ble_eq_true rfl) (Nat.le_of_ble_eq_true rfl) (by assumption) rfl rfl ?_
      refine z_bipush 19 dX7_ridersRead_17 (by decide) rfl ?_
      refine z_icmp_ne 214 22 dX7_ridersRead_19 (by decide) rfl (by omega) (by omega) (fun hz => absurd hz (by omega)) (fun h19 => ?_)
      refine z_iload1 23 dX7_ridersRead_22 rfl ?_
      refine z_if_le 40 26 dX7_ridersRead_23 (by decide) rfl (by omega) (fun hz => absurd hz (by omega)) (fun h23 => ?_)
      refine z_aload0 27 dX7_ridersRead_26 rfl ?_
      refine z_iload1 28 dX7_ridersRead_27 rfl ?_
      refine z_iconst 29 dX7_ridersRead_28 rfl ?_
      refine z_icmp_ge 36 32 dX7_ridersRead_29 (by decide) rfl (by omega) (by omega) (fun hz => absurd hz (by omega)) (fun h29 => ?_)
      refine z_iconst 33 dX7_ridersRead_32 rfl ?_
      refine z_goto 37 dX7_ridersRead_33 (by decide) ?_
      refine z_xVv1 40 dX7_ridersRead_37 lk_X7_ridersRead_140 (hmu) rfl (Nat.le_of_ble_eq_true rfl) (Nat.le_of_ble_eq_true rfl) (by assumption) rfl rfl ?_
      exact step _ _
    · rw [if_neg h44]
      have hc44 : mat T n (tnl T n k) ≠ 44 := by omega
      generalize hcc : mat T n (tnl T n k) = c0 at *
      refine z_aload0 3 dX7_ridersRead_2 rfl ?_
      refine z_getIx 6 dX7_ridersRead_3 fl_RX7_133 (by assumption) (mT_5 _ _ _) rfl ?_
      refine z_if_ne 214 9 dX7_ridersRead_6 (by decide) rfl (by omega) (fun hz => absurd hz (by omega)) (fun h6 => ?_)
      refine z_iload1 10 dX7_ridersRead_9 rfl ?_
      refine z_if_eq 22 13 dX7_ridersRead_10 (by decide) rfl (by omega) (fun hz => absurd hz (by omega)) (fun h10 => ?_)
      refine z_aload0 14 dX7_ridersRead_13 rfl ?_
      refine z_xV0 17 dX7_ridersRead_14 lk_X7_ridersRead_137 (kh) rfl (Nat.le_of_ble_eq_true rfl) (Nat.le_of_ble_eq_true rfl) (by assumption) rfl rfl ?_
      refine z_bipush 19 dX7_ridersRead_17 (by decide) rfl ?_
      refine z_icmp_ne 214 22 dX7_ridersRead_19 (by decide) rfl (by omega) (by omega) (fun h19 => ?_) (fun hz => absurd hz (by omega))
      refine z_iload1 215 dX7_ridersRead_214 rfl ?_
      exact z_ireturn dX7_ridersRead_215 rfl (⟨rfl, rfl, rfl, r, tnl T n k, W, rfl, Or.inr ⟨rfl, rfl, (tnl_i T hk).symm, hk1.2, h1, by omega, rfl⟩⟩)
theorem ct_X7_ridersRead {k : Nat} (hM : zMs sh R) (ht : zTm I T n) (hT : ∀ j, j < 70 → 0 ≤ T j ∧ T j ≤ 126) (S0 : zT) (W : Nat → Int) (hk : k ≤ n) : zE X mX7_ridersRead 0 0 0 [zR 157, zX, zX, zX, zX, zX] [] sh (mT (zrow I 162 W) k 0) L R (rQ sh I L R T n S0 (trs T n k S0)) := by
  obtain ⟨⟨s0, s1, s2, s3, s4, s5, s6, s7, s8, s9, s10, s11, s12, s13, s14, s15⟩, r0, r1, r2, r3, r4, r5, r6, r7, r8, r9, r10, r11, r12, r13, r14⟩ := id hM
  have h70 := ht.2.1
  have hq := trr_r (T := T) (n := n) (r := 0) (k := k) (S := S0) hT h70 hk
  have e : trs T n k S0 = if (trr T n 0 k S0).1 = 0 then (0, (trr T n 0 k S0).2) else trl T n 4 1 (trr T n 0 k S0).2.1 (trr T n 0 k S0).2.2 := rfl
  rw [e]
  have step := tl_X7_riders40 (X := X) (I := I) (L := L) (R := R) (r := 0) (k := k) (z2 := zX) (z3 := zX) (z4 := zX) (z5 := zX) (W := W) (S := S0) (Q := rQ sh I L R T n S0 (if (trr T n 0 k S0).1 = 0 then (0, (trr T n 0 k S0).2) else trl T n 4 1 (trr T n 0 k S0).2.1 (trr T n 0 k S0).2.2)) hM ht hT (by omega) hk (fun h0 => by
    rw [if_pos h0]
    exact ⟨rfl, rfl, rfl, 1, _, W, rfl, Or.inl ⟨rfl, hq.2, Or.inl ⟨rfl, rfl⟩⟩⟩) (fun c kd hv ln W' h0 hW' hs => by
    rw [if_neg h0, hs]
    exact lp_X7_riders hM ht hT S0 4 1 (trr T n 0 k S0).2.1 W' c kd hv ln rfl (by omega) hq.2) ⟨rfl, rfl⟩
  refine z_iconst 1 dX7_ridersRead_0 rfl ?_
  refine z_istore1 2 dX7_ridersRead_1 (Nat.le_of_ble_eq_true rfl) rfl rfl ?_
  refine z_aload0 3 dX7_ridersRead_2 rfl ?_
  refine z_getIx 6 dX7_ridersRead_3 fl_RX7_133 (by assumption) (mT_5 _ _ _) rfl ?_
  refine z_if_ne 214 9 dX7_ridersRead_6 (by decide) rfl (by omega) (fun hz => absurd hz (by omega)) (fun h6 => ?_)
  refine z_iload1 10 dX7_ridersRead_9 rfl ?_
  refine z_if_eq 22 13 dX7_ridersRead_10 (by decide) rfl (by omega) (fun h10 => ?_) (fun hz => absurd hz (by omega))
  refine z_iload1 23 dX7_ridersRead_22 rfl ?_
  refine z_if_le 40 26 dX7_ridersRead_23 (by decide) rfl (by omega) (fun h23 => ?_) (fun hz => absurd hz (by omega))
  exact step
end MODX
