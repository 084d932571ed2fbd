def stt (V : Nat → Int) : Nat → Nat → zT → zT
  | 0, _, S => S
  | m + 1, t, S => stt V m (t + 1) (zup (zup S 1 t (V t)) 2 t (V (10 + t)))
theorem stt_c {V V' : Nat → Int} : ∀ (m t : Nat) (S : zT), (∀ u, t ≤ u → u < t + m → V u = V' u ∧ V (10 + u) = V' (10 + u)) → stt V m t S = stt V' m t S
  | 0, t, S, _ => rfl
  | m + 1, t, S, h => by
    unfold stt
    rw [(h t (by omega) (by omega)).1, (h t (by omega) (by omega)).2]
    exact stt_c m (t + 1) _ (fun u h1 h2 => h u (by omega) (by omega))
def sads (S0 : zT) (W : Nat → Int) : Nat → zT
  | 0 => S0
  | r + 1 => sad (sads S0 W r) r (W (3 * r)) (W (3 * r + 1)) (W (3 * r + 2))
theorem sads_c {S0 : zT} {W W' : Nat → Int} : ∀ r, (∀ j, j < 3 * r → W j = W' j) → sads S0 W r = sads S0 W' r
  | 0, _ => rfl
  | r + 1, h => by
    unfold sads
    rw [sads_c r (fun j hj => h j (by omega)), h (3 * r) (by omega), h (3 * r + 1) (by omega), h (3 * r + 2) (by omega)]
section MODV
variable {X : zXs} {sh : zH} {I L : zI2} {R : zR2} {T : Nat → Int} {n : Nat}
def mTq (sh : zH) (I L : zI2) (R : zR2) (k : Nat) (f : Int) (P : (Nat → Int) → Prop) : zQ := fun r' sh' I' L' R' => r' = [] ∧ sh' = sh ∧ L' = L ∧ R' = R ∧ ∃ V', I' = mT (zrow I 161 V') k f ∧ P V'
theorem mT_161 (I : zI2) (V : Nat → Int) (k : Nat) (f : Int) (j : Nat) (v : Int) : zup (mT (zrow I 161 V) k f) 161 j v = mT (zrow I 161 (fun q => if q = j then v else V q)) k f := by rw [mT_uo _ _ _ (by decide), zrow_up]
theorem lp_X7_turns1 {k : Nat} (hM : zMs sh R) (hk : k ≤ 100) : ∀ (m t : Nat) (V : Nat → Int), t + m = 10 → zE X mX7_turnsRead 0 0 2 [zR 157, zI (t : Int)] [] sh (mT (zrow I 161 V) k 1) L R (mTq sh I L R k 1 (fun _ => True))
  | 0, t, V, h => by
    refine z_iload1 3 dX7_turnsRead_2 rfl ?_
    refine z_bipush 5 dX7_turnsRead_3 (by decide) rfl ?_
    refine z_icmp_ge 79 8 dX7_turnsRead_5 (by decide) rfl (by omega) (by omega) (fun h5 => ?_) (fun hz => absurd hz (by omega))
    exact z_return dX7_turnsRead_79 rfl (⟨rfl, rfl, rfl, rfl, V, rfl, trivial⟩)
  | m + 1, t, V, h => by
    obtain ⟨⟨s0, s1, s2, s3, s4, s5, s6, s7, s8, s9, s10, s11, s12, s13, s14, s15⟩, r0, r1, r2, r3, r4, r5, r6, r7, r8, r9, r10, r11, r12, r13, r14⟩ := id hM
    refine z_iload1 3 dX7_turnsRead_2 rfl ?_
    refine z_bipush 5 dX7_turnsRead_3 (by decide) rfl ?_
    refine z_icmp_ge 79 8 dX7_turnsRead_5 (by decide) rfl (by omega) (by omega) (fun hz => absurd hz (by omega)) (fun h5 => ?_)
    refine z_aload0 9 dX7_turnsRead_8 rfl ?_
    refine z_getR 12 dX7_turnsRead_9 fl_RX7_19 (by assumption) (by assumption) rfl ?_
    refine z_iload1 13 dX7_turnsRead_12 rfl ?_
    refine z_aload0 14 dX7_turnsRead_13 rfl ?_
    refine z_iconst 15 dX7_turnsRead_14 rfl ?_
    refine z_bipush 17 dX7_turnsRead_15 (by decide) rfl ?_
    refine z_xV2 20 dX7_turnsRead_17 lk_X7_turnsRead_148 (ct_X7_digit1 hM hk (by omega) (by omega)) rfl (Nat.le_of_ble_eq_true rfl) (Nat.le_of_ble_eq_true rfl) (by assumption) rfl rfl ?_
    refine z_iastx 21 (t) dX7_turnsRead_20 (by assumption) (by omega) (by omega) (mT_161 _ _ _ _ _ _) rfl ?_
    refine z_aload0 22 dX7_turnsRead_21 rfl ?_
    refine z_getR 25 dX7_turnsRead_22 fl_RX7_19 (by assumption) (by assumption) rfl ?_
    refine z_bipush 27 dX7_turnsRead_25 (by decide) rfl ?_
    refine z_iload1 28 dX7_turnsRead_27 rfl ?_
    refine z_iadd 29 dX7_turnsRead_28 rfl ?_
    refine z_iconst 30 dX7_turnsRead_29 rfl ?_
    refine z_iastx 31 (10 + t) dX7_turnsRead_30 (by assumption) (by omega) (by omega) (mT_161 _ _ _ _ _ _) rfl ?_
    refine z_aload0 32 dX7_turnsRead_31 rfl ?_
    refine z_getIx 35 dX7_turnsRead_32 fl_RX7_133 (by assumption) (mT_5 _ _ _) rfl ?_
    refine z_if_ne 73 38 dX7_turnsRead_35 (by decide) rfl (by omega) (fun h35 => ?_) (fun hz => absurd hz (by omega))
    refine z_iinc1 76 dX7_turnsRead_73 (Nat.le_of_ble_eq_true rfl) rfl rfl ?_
    refine z_goto 2 dX7_turnsRead_76 (by decide) ?_
    exact lp_X7_turns1 hM hk m (t + 1) _ (by omega)
theorem lp_X7_turns0 (hM : zMs sh R) (ht : zTm I T n) : ∀ (m t k : Nat) (V : Nat → Int) (S : zT), t + m = 10 → k ≤ n → zE X mX7_turnsRead 0 0 2 [zR 157, zI (t : Int)] [] sh (mT (zrow I 161 V) k 0) L R (mTq sh I L R (ttl T n m t k S).2.1 (if (ttl T n m t k S).1 = 0 then 1 else 0) (fun V' => ¬ (ttl T n m t k S).1 = 0 → (ttl T n m t k S).2.2 = stt V' m t S ∧ ∀ u, u < t → V' u = V u ∧ V' (10 + u) = V (10 + u)))
  | 0, t, k, V, S, h, hk => by
    have e : t = 10 := by omega
    subst e
    have e2 : ttl T n 0 10 k S = (1, k, S) := rfl
    rw [e2]
    rw [if_neg (show ¬ ((1 : Int), k, S).1 = 0 from (by decide : ¬ (1 : Int) = 0))]
    refine z_iload1 3 dX7_turnsRead_2 rfl ?_
    refine z_bipush 5 dX7_turnsRead_3 (by decide) rfl ?_
    refine z_icmp_ge 79 8 dX7_turnsRead_5 (by decide) rfl (by omega) (by omega) (fun h5 => ?_) (fun hz => absurd hz (by omega))
    exact z_return dX7_turnsRead_79 rfl (⟨rfl, rfl, rfl, rfl, V, rfl, fun _ => ⟨rfl, fun _ _ => ⟨rfl, rfl⟩⟩⟩)
  | m + 1, t, k, V, S, h, hk => by
    obtain ⟨⟨s0, s1, s2, s3, s4, s5, s6, s7, s8, s9, s10, s11, s12, s13, s14, s15⟩, r0, r1, r2, r3, r4, r5, r6, r7, r8, r9, r10, r11, r12, r13, r14⟩ := id hM
    have h70 := ht.2.1
    have d1r := tdg_r (T := T) (n := n) (k := k) (lo := 48) (hi := 57) hk (by omega)
    obtain ⟨v1, hv1, hv1r, kd⟩ := ct_X7_digit0 (X := X) (I := zrow I 161 V) (L := L) (R := R) (k := k) (lo := 0) (hi := 9) hM (zTm_row ht (by decide) (by decide) V) hk (by omega) (by omega)
    rw [show (0 : Int) + 48 = 48 from rfl, show (9 : Int) + 48 = 57 from rfl] at hv1 kd
    have er : ttl T n (m + 1) t k S = if (tdg T n 48 57 k).1 = -4 then (0, (tdg T n 48 57 k).2, S) else if (tbm T n (tdg T n 48 57 k).2).1 = -4 then (0, (tbm T n (tdg T n 48 57 k).2).2, S) else ttl T n m (t + 1) (tbm T n (tdg T n 48 57 k).2).2 (zup (zup S 1 t (tdg T n 48 57 k).1) 2 t (tbm T n (tdg T n 48 57 k).2).1) := rfl
    rw [er]
    generalize tdg T n 48 57 k = d1 at d1r hv1 kd ⊢
    by_cases hf : d1.1 = -4
    · rw [if_pos hf] at kd ⊢
      rw [if_pos rfl]
      refine z_iload1 3 dX7_turnsRead_2 rfl ?_
      refine z_bipush 5 dX7_turnsRead_3 (by decide) rfl ?_
      refine z_icmp_ge 79 8 dX7_turnsRead_5 (by decide) rfl (by omega) (by omega) (fun hz => absurd hz (by omega)) (fun h5 => ?_)
      refine z_aload0 9 dX7_turnsRead_8 rfl ?_
      refine z_getR 12 dX7_turnsRead_9 fl_RX7_19 (by assumption) (by assumption) rfl ?_
      refine z_iload1 13 dX7_turnsRead_12 rfl ?_
      refine z_aload0 14 dX7_turnsRead_13 rfl ?_
      refine z_iconst 15 dX7_turnsRead_14 rfl ?_
      refine z_bipush 17 dX7_turnsRead_15 (by decide) rfl ?_
      refine z_xV2 20 dX7_turnsRead_17 lk_X7_turnsRead_148 (kd) rfl (Nat.le_of_ble_eq_true rfl) (Nat.le_of_ble_eq_true rfl) (by assumption) rfl rfl ?_
      refine z_iastx 21 (t) dX7_turnsRead_20 (by assumption) (by omega) (by omega) (mT_161 _ _ _ _ _ _) rfl ?_
      refine z_aload0 22 dX7_turnsRead_21 rfl ?_
      refine z_getR 25 dX7_turnsRead_22 fl_RX7_19 (by assumption) (by assumption) rfl ?_
      refine z_bipush 27 dX7_turnsRead_25 (by decide) rfl ?_
      refine z_iload1 28 dX7_turnsRead_27 rfl ?_
      refine z_iadd 29 dX7_turnsRead_28 rfl ?_
      refine z_iconst 30 dX7_turnsRead_29 rfl ?_
      refine z_iastx 31 (10 + t) dX7_turnsRead_30 (by assumption) (by omega) (by omega) (mT_161 _ _ _ _ _ _) rfl ?_
      refine z_aload0 32 dX7_turnsRead_31 rfl ?_
      refine z_getIx 35 dX7_turnsRead_32 fl_RX7_133 (by assumption) (mT_5 _ _ _) rfl ?_
      refine z_if_ne 73 38 dX7_turnsRead_35 (by decide) rfl (by omega) (fun h35 => ?_) (fun hz => absurd hz (by omega))
      refine z_iinc1 76 dX7_turnsRead_73 (Nat.le_of_ble_eq_true rfl) rfl rfl ?_
      refine z_goto 2 dX7_turnsRead_76 (by decide) ?_
      refine zE_mono (fun r' sh' I' L' R' hz => ?_) (lp_X7_turns1 (I := I) hM (by omega) m (t + 1) _ (by omega))
      obtain ⟨y1, y2, y3, y4, V', y5, -⟩ := hz
      exact ⟨y1, y2, y3, y4, V', y5, fun q => absurd rfl q⟩
    · rw [if_neg hf] at kd ⊢
      have hv1' := hv1 hf
      have hk2 := tnl_r T n d1.2 d1r.2.1
      have hm2 := mat_t (k := tnl T n d1.2) ht.2.2.2
      have et : tbm T n d1.2 = if tat T n (tnl T n d1.2) = 94 then tdg T n 49 57 (tnl T n d1.2 + 1) else (0, tnl T n d1.2) := rfl
      generalize hV1 : (fun q => if q = 10 + t then (0 : Int) else (fun q => if q = t then v1 else V q) q) = V1
      have hV1t : V1 t = v1 ∧ V1 (10 + t) = 0 ∧ ∀ u, u < t → V1 u = V u ∧ V1 (10 + u) = V (10 + u) := by
        subst hV1
        refine ⟨by show (if t = 10 + t then (0 : Int) else if t = t then v1 else V t) = v1; rw [if_neg (by omega), if_pos rfl], by show (if 10 + t = 10 + t then (0 : Int) else _) = 0; rw [if_pos rfl], fun u hu => ⟨?_, ?_⟩⟩
        · show (if u = 10 + t then (0 : Int) else if u = t then v1 else V u) = V u
          rw [if_neg (by omega), if_neg (by omega)]
        · show (if 10 + u = 10 + t then (0 : Int) else if 10 + u = t then v1 else V (10 + u)) = V (10 + u)
          rw [if_neg (by omega), if_neg (by omega)]
      have kh := ct_X7_here (X := X) (I := zrow I 161 V1) (L := L) (R := R) (f := 0) hM (zTm_row ht (by decide) (by decide) V1) d1r.2.1
      by_cases h94 : tat T n (tnl T n d1.2) = 94
      · rw [if_pos h94] at et
        have hlt : tnl T n d1.2 < n := tat_lt (T := T) (by omega)
        have d2r := tdg_r (T := T) (n := n) (k := tnl T n d1.2 + 1) (lo := 49) (hi := 57) (by omega) (by omega)
        obtain ⟨v2, hv2, hv2r, kd2⟩ := ct_X7_digit0 (X := X) (I := zrow I 161 V1) (L := L) (R := R) (k := tnl T n d1.2 + 1) (lo := 1) (hi := 9) hM (zTm_row ht (by decide) (by decide) V1) (by omega) (by omega) (by omega)
        rw [show (1 : Int) + 48 = 49 from rfl, show (9 : Int) + 48 = 57 from rfl, ← et] at hv2 kd2
        rw [← et] at d2r
        generalize tbm T n d1.2 = d2 at d2r hv2 kd2 ⊢
        generalize hV2 : (fun q => if q = 10 + t then v2 else V1 q) = V2
        have hV2t : V2 t = v1 ∧ V2 (10 + t) = v2 ∧ ∀ u, u < t → V2 u = V u ∧ V2 (10 + u) = V (10 + u) := by
          subst hV2
          refine ⟨by show (if t = 10 + t then v2 else V1 t) = v1; rw [if_neg (by omega)]; exact hV1t.1, by show (if 10 + t = 10 + t then v2 else _) = v2; rw [if_pos rfl], fun u hu => ⟨?_, ?_⟩⟩
          · show (if u = 10 + t then v2 else V1 u) = V u
            rw [if_neg (by omega)]
            exact (hV1t.2.2 u hu).1
          · show (if 10 + u = 10 + t then v2 else V1 (10 + u)) = V (10 + u)
            rw [if_neg (by omega)]
            exact (hV1t.2.2 u hu).2
        have em94 : mat T n (tnl T n d1.2) = 94 := by omega
        rw [em94] at kh
        by_cases hf2 : d2.1 = -4
        · rw [if_pos hf2] at kd2 ⊢
          rw [if_pos rfl]
          refine z_iload1 3 dX7_turnsRead_2 rfl ?_
          refine z_bipush 5 dX7_turnsRead_3 (by decide) rfl ?_
          refine z_icmp_ge 79 8 dX7_turnsRead_5 (by decide) rfl (by omega) (by omega) (fun hz => absurd hz (by omega)) (fun h5 => ?_)
          refine z_aload0 9 dX7_turnsRead_8 rfl ?_
          refine z_getR 12 dX7_turnsRead_9 fl_RX7_19 (by assumption) (by assumption) rfl ?_
          refine z_iload1 13 dX7_turnsRead_12 rfl ?_
          refine z_aload0 14 dX7_turnsRead_13 rfl ?_
          refine z_iconst 15 dX7_turnsRead_14 rfl ?_
          refine z_bipush 17 dX7_turnsRead_15 (by decide) rfl ?_
          refine z_xV2 20 dX7_turnsRead_17 lk_X7_turnsRead_148 (kd) rfl (Nat.le_of_ble_eq_true rfl) (Nat.le_of_ble_eq_true rfl) (by assumption) rfl rfl ?_
          refine z_iastx 21 (t) dX7_turnsRead_20 (by assumption) (by omega) (by omega) (mT_161 _ _ _ _ _ _) rfl ?_
          refine z_aload0 22 dX7_turnsRead_21 rfl ?_
          refine z_getR 25 dX7_turnsRead_22 fl_RX7_19 (by assumption) (by assumption) rfl ?_
          refine z_bipush 27 dX7_turnsRead_25 (by decide) rfl ?_
          refine z_iload1 28 dX7_turnsRead_27 rfl ?_
          refine z_iadd 29 dX7_turnsRead_28 rfl ?_
          refine z_iconst 30 dX7_turnsRead_29 rfl ?_
          refine z_iastx 31 (10 + t) dX7_turnsRead_30 (by assumption) (by omega) (by omega) ((mT_161 _ _ _ _ _ _).trans (congrArg (fun V => mT (zrow I 161 V) _ _) hV1)) rfl ?_
          refine z_aload0 32 dX7_turnsRead_31 rfl ?_
          refine z_getIx 35 dX7_turnsRead_32 fl_RX7_133 (by assumption) (mT_5 _ _ _) rfl ?_
          refine z_if_ne 73 38 dX7_turnsRead_35 (by decide) rfl (by omega) (fun hz => absurd hz (by omega)) (fun h35 => ?_)
          refine z_aload0 39 dX7_turnsRead_38 rfl ?_
          refine z_xV0 42 dX7_turnsRead_39 lk_X7_turnsRead_137 (kh) rfl (Nat.le_of_ble_eq_true rfl) (Nat.le_of_ble_eq_true rfl) (by assumption) rfl rfl ?_
          refine z_bipush 44 dX7_turnsRead_42 (by decide) rfl ?_
          refine z_icmp_ne 73 47 dX7_turnsRead_44 (by decide) rfl (by omega) (by omega) (fun hz => absurd hz (by omega)) (fun h44 => ?_)
          refine z_aload0 48 dX7_turnsRead_47 rfl ?_
          refine z_dup 49 dX7_turnsRead_48 rfl rfl ?_
          refine z_getIx 52 dX7_turnsRead_49 fl_RX7_130 (by assumption) (mT_4 _ _ _) rfl ?_
          refine z_iconst 53 dX7_turnsRead_52 rfl ?_
          refine z_iadd 54 dX7_turnsRead_53 rfl ?_
          refine z_putIx 57 dX7_turnsRead_54 fp_RX7_130 (by assumption) (mT_u4 _ _ (tnl T n d1.2 + 1) _ (by omega)) rfl ?_
          refine z_aload0 58 dX7_turnsRead_57 rfl ?_
          refine z_getR 61 dX7_turnsRead_58 fl_RX7_19 (by assumption) (by assumption) rfl ?_
          refine z_bipush 63 dX7_turnsRead_61 (by decide) rfl ?_
          refine z_iload1 64 dX7_turnsRead_63 rfl ?_
          refine z_iadd 65 dX7_turnsRead_64 rfl ?_
          refine z_aload0 66 dX7_turnsRead_65 rfl ?_
          refine z_iconst 67 dX7_turnsRead_66 rfl ?_
          refine z_bipush 69 dX7_turnsRead_67 (by decide) rfl ?_
          refine z_xV2 72 dX7_turnsRead_69 lk_X7_turnsRead_148 (kd2) rfl (Nat.le_of_ble_eq_true rfl) (Nat.le_of_ble_eq_true rfl) (by assumption) rfl rfl ?_
          refine z_iastx 73 (10 + t) dX7_turnsRead_72 (by assumption) (by omega) (by omega) ((mT_161 _ _ _ _ _ _).trans (congrArg (fun V => mT (zrow I 161 V) _ _) hV2)) rfl ?_
          refine z_iinc1 76 dX7_turnsRead_73 (Nat.le_of_ble_eq_true rfl) rfl rfl ?_
          refine z_goto 2 dX7_turnsRead_76 (by decide) ?_
          refine zE_mono (fun r' sh' I' L' R' hz => ?_) (lp_X7_turns1 (I := I) hM (by omega) m (t + 1) _ (by omega))
          obtain ⟨y1, y2, y3, y4, V', y5, -⟩ := hz
          exact ⟨y1, y2, y3, y4, V', y5, fun q => absurd rfl q⟩
        · rw [if_neg hf2] at kd2 ⊢
          have hv2' := hv2 hf2
          refine z_iload1 3 dX7_turnsRead_2 rfl ?_
          refine z_bipush 5 dX7_turnsRead_3 (by decide) rfl ?_
          refine z_icmp_ge 79 8 dX7_turnsRead_5 (by decide) rfl (by omega) (by omega) (fun hz => absurd hz (by omega)) (fun h5 => ?_)
          refine z_aload0 9 dX7_turnsRead_8 rfl ?_
          refine z_getR 12 dX7_turnsRead_9 fl_RX7_19 (by assumption) (by assumption) rfl ?_
          refine z_iload1 13 dX7_turnsRead_12 rfl ?_
          refine z_aload0 14 dX7_turnsRead_13 rfl ?_
          refine z_iconst 15 dX7_turnsRead_14 rfl ?_
          refine z_bipush 17 dX7_turnsRead_15 (by decide) rfl ?_
          refine z_xV2 20 dX7_turnsRead_17 lk_X7_turnsRead_148 (kd) rfl (Nat.le_of_ble_eq_true rfl) (Nat.le_of_ble_eq_true rfl) (by assumption) rfl rfl ?_
          refine z_iastx 21 (t) dX7_turnsRead_20 (by assumption) (by omega) (by omega) (mT_161 _ _ _ _ _ _) rfl ?_
          refine z_aload0 22 dX7_turnsRead_21 rfl ?_
          refine z_getR 25 dX7_turnsRead_22 fl_RX7_19 (by assumption) (by assumption) rfl ?_
          refine z_bipush 27 dX7_turnsRead_25 (by decide) rfl ?_
          refine z_iload1 28 dX7_turnsRead_27 rfl ?_
          refine z_iadd 29 dX7_turnsRead_28 rfl ?_
          refine z_iconst 30 dX7_turnsRead_29 rfl ?_
          refine z_iastx 31 (10 + t) dX7_turnsRead_30 (by assumption) (by omega) (by omega) ((mT_161 _ _ _ _ _ _).trans (congrArg (fun V => mT (zrow I 161 V) _ _) hV1)) rfl ?_
          refine z_aload0 32 dX7_turnsRead_31 rfl ?_
          refine z_getIx 35 dX7_turnsRead_32 fl_RX7_133 (by assumption) (mT_5 _ _ _) rfl ?_
          refine z_if_ne 73 38 dX7_turnsRead_35 (by decide) rfl (by omega) (fun hz => absurd hz (by omega)) (fun h35 => ?_)
          refine z_aload0 39 dX7_turnsRead_38 rfl ?_
          refine z_xV0 42 dX7_turnsRead_39 lk_X7_turnsRead_137 (kh) rfl (Nat.le_of_ble_eq_true rfl) (Nat.le_of_ble_eq_true rfl) (by assumption) rfl rfl ?_
          refine z_bipush 44 dX7_turnsRead_42 (by decide) rfl ?_
          refine z_icmp_ne 73 47 dX7_turnsRead_44 (by decide) rfl (by omega) (by omega) (fun hz => absurd hz (by omega)) (fun h44 => ?_)
          refine z_aload0 48 dX7_turnsRead_47 rfl ?_
          refine z_dup 49 dX7_turnsRead_48 rfl rfl ?_
          refine z_getIx 52 dX7_turnsRead_49 fl_RX7_130 (by assumption) (mT_4 _ _ _) rfl ?_
          refine z_iconst 53 dX7_turnsRead_52 rfl ?_
          refine z_iadd 54 dX7_turnsRead_53 rfl ?_
          refine z_putIx 57 dX7_turnsRead_54 fp_RX7_130 (by assumption) (mT_u4 _ _ (tnl T n d1.2 + 1) _ (by omega)) rfl ?_
          refine z_aload0 58 dX7_turnsRead_57 rfl ?_
          refine z_getR 61 dX7_turnsRead_58 fl_RX7_19 (by assumption) (by assumption) rfl ?_
          refine z_bipush 63 dX7_turnsRead_61 (by decide) rfl ?_
          refine z_iload1 64 dX7_turnsRead_63 rfl ?_
          refine z_iadd 65 dX7_turnsRead_64 rfl ?_
          refine z_aload0 66 dX7_turnsRead_65 rfl ?_
          refine z_iconst 67 dX7_turnsRead_66 rfl ?_
          refine z_bipush 69 dX7_turnsRead_67 (by decide) rfl ?_
          refine z_xV2 72 dX7_turnsRead_69 lk_X7_turnsRead_148 (kd2) rfl (Nat.le_of_ble_eq_true rfl) (Nat.le_of_ble_eq_true rfl) (by assumption) rfl rfl ?_
          refine z_iastx 73 (10 + t) dX7_turnsRead_72 (by assumption) (by omega) (by omega) ((mT_161 _ _ _ _ _ _).trans (congrArg (fun V => mT (zrow I 161 V) _ _) hV2)) rfl ?_
          refine z_iinc1 76 dX7_turnsRead_73 (Nat.le_of_ble_eq_true rfl) rfl rfl ?_
          refine z_goto 2 dX7_turnsRead_76 (by decide) ?_
          refine zE_mono (fun r' sh' I' L' R' hz => ?_) (lp_X7_turns0 hM ht m (t + 1) d2.2 V2 (zup (zup S 1 t d1.1) 2 t d2.1) (by omega) d2r.2.1)
          obtain ⟨y1, y2, y3, y4, V', y5, y6⟩ := hz
          refine ⟨y1, y2, y3, y4, V', y5, fun q => ?_⟩
          obtain ⟨w1, w2⟩ := y6 q
          have w3 := w2 t (by omega)
          refine ⟨?_, fun u hu => ⟨(w2 u (by omega)).1.trans (hV2t.2.2 u hu).1, (w2 u (by omega)).2.trans (hV2t.2.2 u hu).2⟩⟩
          rw [w1]
          show _ = stt V' m (t + 1) (zup (zup S 1 t (V' t)) 2 t (V' (10 + t)))
          rw [w3.1, w3.2, hV2t.1, hV2t.2.1, hv1', hv2']
      · rw [if_neg h94] at et
        rw [et, if_neg (by show ¬ (0 : Int) = -4; decide)]
        generalize hc : mat T n (tnl T n d1.2) = c at kh hm2
        refine z_iload1 3 dX7_turnsRead_2 rfl ?_
        refine z_bipush 5 dX7_turnsRead_3 (by decide) rfl ?_
        refine z_icmp_ge 79 8 dX7_turnsRead_5 (by decide) rfl (by omega) (by omega) (fun hz => absurd hz (by omega)) (fun h5 => ?_)
        refine z_aload0 9 dX7_turnsRead_8 rfl ?_
        refine z_getR 12 dX7_turnsRead_9 fl_RX7_19 (by assumption) (by assumption) rfl ?_
        refine z_iload1 13 dX7_turnsRead_12 rfl ?_
        refine z_aload0 14 dX7_turnsRead_13 rfl ?_
        refine z_iconst 15 dX7_turnsRead_14 rfl ?_
        refine z_bipush 17 dX7_turnsRead_15 (by decide) rfl ?_
        refine z_xV2 20 dX7_turnsRead_17 lk_X7_turnsRead_148 (kd) rfl (Nat.le_of_ble_eq_true rfl) (Nat.le_of_ble_eq_true rfl) (by assumption) rfl rfl ?_
        refine z_iastx 21 (t) dX7_turnsRead_20 (by assumption) (by omega) (by omega) (mT_161 _ _ _ _ _ _) rfl ?_
        refine z_aload0 22 dX7_turnsRead_21 rfl ?_
        refine z_getR 25 dX7_turnsRead_22 fl_RX7_19 (by assumption) (by assumption) rfl ?_
        refine z_bipush 27 dX7_turnsRead_25 (by decide) rfl ?_
        refine z_iload1 28 dX7_turnsRead_27 rfl ?_
        refine z_iadd 29 dX7_turnsRead_28 rfl ?_
        refine z_iconst 30 dX7_turnsRead_29 rfl ?_
        refine z_iastx 31 (10 + t) dX7_turnsRead_30 (by assumption) (by omega) (by omega) ((mT_161 _ _ _ _ _ _).trans (congrArg (fun V => mT (zrow I 161 V) _ _) hV1)) rfl ?_
        refine z_aload0 32 dX7_turnsRead_31 rfl ?_
        refine z_getIx 35 dX7_turnsRead_32 fl_RX7_133 (by assumption) (mT_5 _ _ _) rfl ?_
        refine z_if_ne 73 38 dX7_turnsRead_35 (by decide) rfl (by omega) (fun hz => absurd hz (by omega)) (fun h35 => ?_)
        refine z_aload0 39 dX7_turnsRead_38 rfl ?_
        refine z_xV0 42 dX7_turnsRead_39 lk_X7_turnsRead_137 (kh) rfl (Nat.le_of_ble_eq_true rfl) (Nat.le_of_ble_eq_true rfl) (by assumption) rfl rfl ?_
        refine z_bipush 44 dX7_turnsRead_42 (by decide) rfl ?_
        refine z_icmp_ne 73 47 dX7_turnsRead_44 (by decide) rfl (by omega) (by omega) (fun h44 => ?_) (fun hz => absurd hz (by omega))
        refine z_iinc1 76 dX7_turnsRead_73 (Nat.le_of_ble_eq_true rfl) rfl rfl ?_
        refine z_goto 2 dX7_turnsRead_76 (by decide) ?_
        refine zE_mono (fun r' sh' I' L' R' hz => ?_) (lp_X7_turns0 hM ht m (t + 1) (tnl T n d1.2) V1 (zup (zup S 1 t d1.1) 2 t 0) (by omega) hk2.2)
        obtain ⟨y1, y2, y3, y4, V', y5, y6⟩ := hz
        refine ⟨y1, y2, y3, y4, V', y5, fun q => ?_⟩
        obtain ⟨w1, w2⟩ := y6 q
        have w3 := w2 t (by omega)
        refine ⟨?_, fun u hu => ⟨(w2 u (by omega)).1.trans (hV1t.2.2 u hu).1, (w2 u (by omega)).2.trans (hV1t.2.2 u hu).2⟩⟩
        rw [w1]
        show _ = stt V' m (t + 1) (zup (zup S 1 t (V' t)) 2 t (V' (10 + t)))
        rw [w3.1, w3.2, hV1t.1, hV1t.2.1, hv1']
end MODV
