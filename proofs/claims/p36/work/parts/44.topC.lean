/-! ===== calls on the object that try things on the trial ===== -/
def swf (T : zT) (r t : Nat) (o : Int) : Nat → Nat → Int
  | 0, _ => -4
  | m + 1, i => if sfe (zup T 1 t (i : Int)) r = o then (i : Int) else swf T r t o m (i + 1)
def swx (T : zT) (r : Nat) (o : Int) : Nat → Nat → Int
  | 0, _ => -4
  | m + 1, t => if swf T r t o 10 0 = -4 then swx T r o m (t + 1) else 10 * (t : Int) + swf T r t o 10 0
def smy (T : zT) (r t : Nat) : Nat → Nat → Int → Int
  | 0, _, x => x
  | m + 1, i, x => smy T r t m (i + 1) (if 0 ≤ sfe (zup T 1 t (i : Int)) r ∧ sfe (zup T 1 t (i : Int)) r ≤ 7 then zor x (zshl 1 (sfe (zup T 1 t (i : Int)) r)) else x)
def swg (T : zT) (r : Nat) : Nat → Nat → Int
  | 0, _ => -4
  | m + 1, i => if 0 ≤ sfe (zup T 4 r (i : Int)) r ∧ sfe (zup T 4 r (i : Int)) r ≤ 7 then (i : Int) else swg T r m (i + 1)
def scn (T : zT) : Nat → Nat → Nat → Nat
  | 0, _, x => x
  | m + 1, i, x => scn T m (i + 1) (if 0 ≤ sfe T i ∧ sfe T i ≤ 7 then x + 1 else x)
def sbm (T : zT) : Nat → Nat → Int → Int → Int × Int
  | 0, _, a, c => (a, c)
  | m + 1, t, a, c => if c < (scn (zup T 2 t 0) (T 0 6).toNat 0 0 : Int) then sbm T m (t + 1) (t : Int) (scn (zup T 2 t 0) (T 0 6).toNat 0 0 : Int) else sbm T m (t + 1) a c
def oWaxes (A : zA) (r o : Int) : Int := if (0 ≤ r ∧ r ≤ A.1 0 6 - 1) ∧ (0 ≤ o ∧ o ≤ 7) then (if sfe A.1 r.toNat = o then 100 else swx A.1 r.toNat o 10 0) else -1
def oMay (A : zA) (r t : Int) : Int := if (0 ≤ r ∧ r ≤ A.1 0 6 - 1) ∧ (0 ≤ t ∧ t ≤ 9) then smy A.1 r.toNat t.toNat 10 0 0 else -1
def oWeight (A : zA) (r : Int) : Int := if 0 ≤ r ∧ r ≤ A.1 0 6 - 1 then swg A.1 r.toNat 20 1 else -1
def oBump (A : zA) (w : Int) : Int := if 0 ≤ w ∧ w ≤ 1 then (if w = 0 then (sbm A.1 10 0 0 (-1)).1 else (sbm A.1 10 0 0 (-1)).2) else -1
theorem swf_c {S S' : zT} (h : zQe S S') {r t : Nat} (hr : (r : Int) < S 0 6) (o : Int) : ∀ (m i : Nat), swf S r t o m i = swf S' r t o m i
  | 0, i => rfl
  | m + 1, i => by
    unfold swf
    rw [sfe_c (zQe_up h (i := 1) (j := t) (by omega) (i : Int)) (r := r) (by rw [zup_row _ _ (by decide)]; exact hr), swf_c h hr o m (i + 1)]
theorem swf_r (T : zT) (r t : Nat) (o : Int) : ∀ (m i : Nat), i + m ≤ 20 → -4 ≤ swf T r t o m i ∧ swf T r t o m i ≤ 20
  | 0, i, _ => by unfold swf; omega
  | m + 1, i, h => by
    unfold swf
    have := swf_r T r t o m (i + 1) (by omega)
    split <;> omega
theorem swx_c {S S' : zT} (h : zQe S S') {r : Nat} (hr : (r : Int) < S 0 6) (o : Int) : ∀ (m t : Nat), swx S r o m t = swx S' r o m t
  | 0, t => rfl
  | m + 1, t => by
    unfold swx
    rw [swf_c h hr o 10 0, swx_c h hr o m (t + 1)]
theorem smy_c {S S' : zT} (h : zQe S S') {r t : Nat} (hr : (r : Int) < S 0 6) : ∀ (m i : Nat) (x : Int), smy S r t m i x = smy S' r t m i x
  | 0, i, x => rfl
  | m + 1, i, x => by
    unfold smy
    rw [sfe_c (zQe_up h (i := 1) (j := t) (by omega) (i : Int)) (r := r) (by rw [zup_row _ _ (by decide)]; exact hr), smy_c h hr m (i + 1)]
theorem swg_c {S S' : zT} (h : zQe S S') {r : Nat} (hr : (r : Int) < S 0 6) : ∀ (m i : Nat), swg S r m i = swg S' r m i
  | 0, i => rfl
  | m + 1, i => by
    unfold swg
    rw [sfe_c (zQe_up h (i := 4) (j := r) (by omega) (i : Int)) (r := r) (by rw [zup_row _ _ (by decide)]; exact hr), swg_c h hr m (i + 1)]
theorem scn_c {S S' : zT} (h : zQe S S') : ∀ (m i x : Nat), (i : Int) + m ≤ S 0 6 → scn S m i x = scn S' m i x
  | 0, i, x, _ => rfl
  | m + 1, i, x, hi => by
    unfold scn
    rw [sfe_c h (r := i) (by omega)]
    exact scn_c h m (i + 1) _ (by omega)
theorem sbm_c {S S' : zT} (h : zQe S S') (h0 : 0 ≤ S 0 6) : ∀ (m t : Nat) (a c : Int), sbm S m t a c = sbm S' m t a c
  | 0, t, a, c => rfl
  | m + 1, t, a, c => by
    unfold sbm
    have e := scn_c (zQe_up h (i := 2) (j := t) (by omega) 0) (S 0 6).toNat 0 0 (by rw [zup_row _ _ (by decide)]; omega)
    rw [e, ← h.1.1, sbm_c h h0 m (t + 1), sbm_c h h0 m (t + 1)]
def zTq (sh : zH) (I L : zI2) (R : zR2) (T : zT) (v : Int) : zQ := fun r' sh' I' L' R' => r' = [zI v] ∧ sh' = sh ∧ (∃ W, I' = zsl (zrow I 141 W) 8 T) ∧ L' = L ∧ R' = R
section TOPC
variable {X : zXs} {sh : zH} {I L : zI2} {R : zR2} {P : Nat → Nat} {A : zA}
theorem tl_X6_firstWaxFor {T T' : zT} {r t : Nat} {o old f : Int} {i : Int} (hC : zCs sh R P) (ht : t < 10) (W : Nat → Int) (hT : zup T' 1 t old = T) : zE X mX6_firstWaxFor 0 0 69 [zR 0, zI r, zI t, zI o, zI old, zI f, zI i] [] sh (zsl (zrow I 141 W) 8 T') L R (zTq sh I L R T f) := by
  obtain ⟨⟨c0, c1, c2, c3, c4, c5, c6, c7, c8, c9, c10, c11⟩, ⟨n1, n8, n73⟩, ⟨hh, hpm⟩, kh, tp, ⟨shs, shk⟩, spd, o1, o2, ra⟩ := id hC
  obtain ⟨⟨s0, s1, s2, s3, s4, s5, s6⟩, r0, r1, r2, r3, r4, r5⟩ := id n8
  refine z_aload0 70 dX6_firstWaxFor_69 rfl ?_
  refine z_getR 73 dX6_firstWaxFor_70 fl_RX6_16 (by assumption) (by assumption) rfl ?_
  refine z_getR 76 dX6_firstWaxFor_73 fl_RX6_101 (by assumption) (by assumption) rfl ?_
  refine z_iload2 77 dX6_firstWaxFor_76 rfl ?_
  refine z_iload4 79 dX6_firstWaxFor_77 rfl ?_
  refine z_iastx 80 (t) dX6_firstWaxFor_79 (by assumption) (by omega) (by omega) (zsl_up _ _ _ (i := 1) (by decide) _ _) rfl ?_
  refine z_iload5 82 dX6_firstWaxFor_80 rfl ?_
  exact z_ireturn dX6_firstWaxFor_82 rfl (⟨rfl, rfl, ⟨W, by rw [hT]⟩, rfl, rfl⟩)
theorem lp_X6_firstWaxFor {T : zT} {r t : Nat} {o : Int} (hC : zCs sh R P) (hT : zSr T) (h5 : r < 5) (ht : t < 10) (ho : 0 ≤ o ∧ o ≤ 7) : ∀ (m i : Nat) (W : Nat → Int) (T' : zT), i + m = 10 → (∀ v, zup T' 1 t v = zup T 1 t v) → zE X mX6_firstWaxFor 0 0 18 [zR 0, zI r, zI t, zI o, zI (T 1 t), zI (-4), zI (i : Int)] [] sh (zsl (zrow I 141 W) 8 T') L R (zTq sh I L R T (swf T r t o m i))
  | 0, i, W, T', hi, hv => by
    refine z_iload6 20 dX6_firstWaxFor_18 rfl ?_
    refine z_bipush 22 dX6_firstWaxFor_20 (by decide) rfl ?_
    refine z_icmp_gt 69 25 dX6_firstWaxFor_22 (by decide) rfl (by omega) (by omega) (fun h22 => ?_) (fun hz => absurd hz (by omega))
    exact tl_X6_firstWaxFor hC ht W (by rw [hv, zup_self])
  | m + 1, i, W, T', hi, hv => by
    obtain ⟨⟨c0, c1, c2, c3, c4, c5, c6, c7, c8, c9, c10, c11⟩, ⟨n1, n8, n73⟩, ⟨hh, hpm⟩, kh, tp, ⟨shs, shk⟩, spd, o1, o2, ra⟩ := id hC
    obtain ⟨⟨s0, s1, s2, s3, s4, s5, s6⟩, r0, r1, r2, r3, r4, r5⟩ := id n8
    have hTi : zSr (zup T 1 t (i : Int)) := zSr_up1 hT t (by omega)
    obtain ⟨W2, hW, hfo⟩ := ct_foreW (X := X) (I := I) (L := L) (r := r) W n8 hTi h5 (Or.inr (by decide : 8 + 7 ≤ 141)) spd
    have hsf := sfe_r (zup T 1 t (i : Int)) r hTi h5
    refine z_iload6 20 dX6_firstWaxFor_18 rfl ?_
    refine z_bipush 22 dX6_firstWaxFor_20 (by decide) rfl ?_
    refine z_icmp_gt 69 25 dX6_firstWaxFor_22 (by decide) rfl (by omega) (by omega) (fun hz => absurd hz (by omega)) (fun h22 => ?_)
    refine z_iload5 27 dX6_firstWaxFor_25 rfl ?_
    refine z_bipush 29 dX6_firstWaxFor_27 (by decide) rfl ?_
    refine z_icmp_ne 69 32 dX6_firstWaxFor_29 (by decide) rfl (by omega) (by omega) (fun hz => absurd hz (by omega)) (fun h29 => ?_)
    refine z_aload0 33 dX6_firstWaxFor_32 rfl ?_
    refine z_getR 36 dX6_firstWaxFor_33 fl_RX6_16 (by assumption) (by assumption) rfl ?_
    refine z_getR 39 dX6_firstWaxFor_36 fl_RX6_101 (by assumption) (by assumption) rfl ?_
    refine z_iload2 40 dX6_firstWaxFor_39 rfl ?_
    refine z_iload6 42 dX6_firstWaxFor_40 rfl ?_
    refine z_iastx 43 (t) dX6_firstWaxFor_42 (by assumption) (by omega) (by omega) ((zsl_up _ _ _ (i := 1) (by decide) _ _).trans (congrArg (zsl _ _) (hv _))) rfl ?_
    refine z_aload0 44 dX6_firstWaxFor_43 rfl ?_
    refine z_getR 47 dX6_firstWaxFor_44 fl_RX6_16 (by assumption) (by assumption) rfl ?_
    refine z_iload1 48 dX6_firstWaxFor_47 rfl ?_
    refine z_aload0 49 dX6_firstWaxFor_48 rfl ?_
    refine z_getR 52 dX6_firstWaxFor_49 fl_RX6_49 (by assumption) (by assumption) rfl ?_
    refine z_xV2 55 dX6_firstWaxFor_52 lk_X6_firstWaxFor_171 (hfo) rfl (Nat.le_of_ble_eq_true rfl) (Nat.le_of_ble_eq_true rfl) (by assumption) rfl rfl ?_
    refine z_iload3 56 dX6_firstWaxFor_55 rfl ?_
    refine z_icmp_ne 63 59 dX6_firstWaxFor_56 (by decide) rfl (by omega) (by omega) (fun h56 => ?_) (fun h56 => ?_)
    · refine z_iinc6 66 dX6_firstWaxFor_63 (Nat.le_of_ble_eq_true rfl) rfl rfl ?_
      refine z_goto 18 dX6_firstWaxFor_66 (by decide) ?_
      rw [show swf T r t o (m + 1) i = swf T r t o m (i + 1) by rw [swf, if_neg (by omega)]]
      exact lp_X6_firstWaxFor hC hT h5 ht ho m (i + 1) W2 _ (by omega) (fun v => zup_up _ _ _ _ _)
    · refine z_iload6 61 dX6_firstWaxFor_59 rfl ?_
      refine z_istore5 63 dX6_firstWaxFor_61 (Nat.le_of_ble_eq_true rfl) rfl rfl ?_
      refine z_iinc6 66 dX6_firstWaxFor_63 (Nat.le_of_ble_eq_true rfl) rfl rfl ?_
      refine z_goto 18 dX6_firstWaxFor_66 (by decide) ?_
      refine z_iload6 20 dX6_firstWaxFor_18 rfl ?_
      refine z_bipush 22 dX6_firstWaxFor_20 (by decide) rfl ?_
      refine z_icmp_gt 69 25 dX6_firstWaxFor_22 (by decide) rfl (by omega) (by omega) (fun h22 => ?_) (fun h22 => ?_)
      · rw [show swf T r t o (m + 1) i = (i : Int) by rw [swf, if_pos (by omega)]]
        exact tl_X6_firstWaxFor hC ht W2 (by rw [zup_up, zup_self])
      · refine z_iload5 27 dX6_firstWaxFor_25 rfl ?_
        refine z_bipush 29 dX6_firstWaxFor_27 (by decide) rfl ?_
        refine z_icmp_ne 69 32 dX6_firstWaxFor_29 (by decide) rfl (by omega) (by omega) (fun h29 => ?_) (fun hz => absurd hz (by omega))
        rw [show swf T r t o (m + 1) i = (i : Int) by rw [swf, if_pos (by omega)]]
        exact tl_X6_firstWaxFor hC ht W2 (by rw [zup_up, zup_self])
theorem ct_X6_firstWaxFor {T : zT} {r t : Nat} {o : Int} (hC : zCs sh R P) (hT : zSr T) (h5 : r < 5) (ht : t < 10) (ho : 0 ≤ o ∧ o ≤ 7) (W : Nat → Int) : zE X mX6_firstWaxFor 0 0 0 [zR 0, zI r, zI t, zI o, zX, zX, zX] [] sh (zsl (zrow I 141 W) 8 T) L R (zTq sh I L R T (swf T r t o 10 0)) := by
  obtain ⟨⟨c0, c1, c2, c3, c4, c5, c6, c7, c8, c9, c10, c11⟩, ⟨n1, n8, n73⟩, ⟨hh, hpm⟩, kh, tp, ⟨shs, shk⟩, spd, o1, o2, ra⟩ := id hC
  obtain ⟨⟨s0, s1, s2, s3, s4, s5, s6⟩, r0, r1, r2, r3, r4, r5⟩ := id n8
  refine z_aload0 1 dX6_firstWaxFor_0 rfl ?_
  refine z_getR 4 dX6_firstWaxFor_1 fl_RX6_16 (by assumption) (by assumption) rfl ?_
  refine z_getR 7 dX6_firstWaxFor_4 fl_RX6_101 (by assumption) (by assumption) rfl ?_
  refine z_iload2 8 dX6_firstWaxFor_7 rfl ?_
  refine z_ialdx 9 (t) dX6_firstWaxFor_8 (by assumption) (by omega) (by omega) (zsl_r _ _ _ (i := 1) (by decide) _) rfl ?_
  refine z_istore4 11 dX6_firstWaxFor_9 (Nat.le_of_ble_eq_true rfl) rfl rfl ?_
  refine z_bipush 13 dX6_firstWaxFor_11 (by decide) rfl ?_
  refine z_istore5 15 dX6_firstWaxFor_13 (Nat.le_of_ble_eq_true rfl) rfl rfl ?_
  refine z_iconst 16 dX6_firstWaxFor_15 rfl ?_
  refine z_istore6 18 dX6_firstWaxFor_16 (Nat.le_of_ble_eq_true rfl) rfl rfl ?_
  exact lp_X6_firstWaxFor hC hT h5 ht ho 10 0 W T rfl (fun _ => rfl)
theorem lp_X6_waxes {T : zT} {r : Nat} {o : Int} (h : zCA sh R P I L A) (hT : zSr T) (hq : zQe T A.1) (h5 : r < 5) (hr : (r : Int) < T 0 6) (ho : 0 ≤ o ∧ o ≤ 7) : ∀ (m t : Nat) (W : Nat → Int) (y : zV), t + m = 10 → zE X mX6_waxes 0 0 52 [zR 0, zI r, zI o, zI (t : Int), y] [] sh (zsl (zrow I 141 W) 8 T) L R (zOp sh I L R (zI (swx A.1 r o m t)) A)
  | 0, t, W, y, hi => by
    refine z_iload3 53 dX6_waxes_52 rfl ?_
    refine z_bipush 55 dX6_waxes_53 (by decide) rfl ?_
    refine z_icmp_ge 88 58 dX6_waxes_55 (by decide) rfl (by omega) (by omega) (fun h55 => ?_) (fun hz => absurd hz (by omega))
    refine z_bipush 90 dX6_waxes_88 (by decide) rfl ?_
    exact z_ireturn dX6_waxes_90 rfl (zOp_tri h W hT rfl)
  | m + 1, t, W, y, hi => by
    obtain ⟨hC, hNow, hTri, hHis, hKep, hTap, hShe, hOrd⟩ := id h
    obtain ⟨⟨c0, c1, c2, c3, c4, c5, c6, c7, c8, c9, c10, c11⟩, ⟨n1, n8, n73⟩, ⟨hh, hpm⟩, kh, tp, ⟨shs, shk⟩, spd, o1, o2, ra⟩ := id hC
    obtain ⟨⟨s0, s1, s2, s3, s4, s5, s6⟩, r0, r1, r2, r3, r4, r5⟩ := id n1
    have n80 := n8.1.1
    have hh0 := hh.1.1
    have e6 := hNow.2.1.1
    have hn5 := hNow.1.1.1
    have ec := swf_c hq hr (t := t) o 10 0
    refine z_iload3 53 dX6_waxes_52 rfl ?_
    refine z_bipush 55 dX6_waxes_53 (by decide) rfl ?_
    refine z_icmp_ge 88 58 dX6_waxes_55 (by decide) rfl (by omega) (by omega) (fun hz => absurd hz (by omega)) (fun h55 => ?_)
    refine z_aload0 59 dX6_waxes_58 rfl ?_
    refine z_iload1 60 dX6_waxes_59 rfl ?_
    refine z_iload3 61 dX6_waxes_60 rfl ?_
    refine z_iload2 62 dX6_waxes_61 rfl ?_
    refine z_pV3 65 dX6_waxes_62 lk_X6_waxes_180 (ct_X6_firstWaxFor hC hT h5 (by omega) ho W) rfl (Nat.le_of_ble_eq_true rfl) (Nat.le_of_ble_eq_true rfl) (by assumption) rfl rfl (fun r0 sh0 I0 L0 R0 hpq => ?_)
    obtain ⟨q1, q2, ⟨W2, q3⟩, q4, q5⟩ := hpq
    subst r0 sh0 I0 L0 R0
    refine z_istore4 67 dX6_waxes_65 (Nat.le_of_ble_eq_true rfl) rfl rfl ?_
    refine z_iload4 69 dX6_waxes_67 rfl ?_
    refine z_bipush 71 dX6_waxes_69 (by decide) rfl ?_
    have hsw : -4 ≤ swf T r t o 10 0 ∧ swf T r t o 10 0 ≤ 20 := swf_r T r t o 10 0 (by omega)
    refine z_icmp_eq 82 74 dX6_waxes_71 (by decide) rfl (by omega) (by omega) (fun h71 => ?_) (fun h71 => ?_)
    · refine z_iinc3 85 dX6_waxes_82 (Nat.le_of_ble_eq_true rfl) rfl rfl ?_
      refine z_goto 52 dX6_waxes_85 (by decide) ?_
      rw [show swx A.1 r o (m + 1) t = swx A.1 r o m (t + 1) by rw [swx, ← ec, if_pos (by omega)]]
      exact lp_X6_waxes h hT hq h5 hr ho m (t + 1) W2 _ (by omega)
    · refine z_bipush 76 dX6_waxes_74 (by decide) rfl ?_
      refine z_iload3 77 dX6_waxes_76 rfl ?_
      refine z_imul 78 dX6_waxes_77 rfl ?_
      refine z_iload4 80 dX6_waxes_78 rfl ?_
      refine z_iadd 81 dX6_waxes_80 rfl ?_
      exact z_ireturn dX6_waxes_81 rfl (zOp_tri h W2 hT (by rw [swx, ← ec, if_neg (by omega)]))
end TOPC
