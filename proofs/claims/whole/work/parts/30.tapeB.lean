/-! ===== a Tape read as a slide ===== -/
def trl (T : Nat → Int) (n : Nat) : Nat → Nat → Nat → zT → Int × (Nat × zT)
  | 0, _, k, S => (1, k, S)
  | m + 1, r, k, S => if tat T n (tnl T n k) = 44 then (if (trr T n r (tnl T n k + 1) S).1 = 0 then (0, (trr T n r (tnl T n k + 1) S).2) else trl T n m (r + 1) (trr T n r (tnl T n k + 1) S).2.1 (trr T n r (tnl T n k + 1) S).2.2) else (1, tnl T n k, S)
def trs (T : Nat → Int) (n k : Nat) (S : zT) : Int × (Nat × zT) := if (trr T n 0 k S).1 = 0 then (0, (trr T n 0 k S).2) else trl T n 4 1 (trr T n 0 k S).2.1 (trr T n 0 k S).2.2
def tbm (T : Nat → Int) (n k : Nat) : Int × Nat := if tat T n (tnl T n k) = 94 then tdg T n 49 57 (tnl T n k + 1) else (0, tnl T n k)
def ttl (T : Nat → Int) (n : Nat) : Nat → Nat → Nat → zT → Int × (Nat × zT)
  | 0, _, k, S => (1, k, S)
  | m + 1, t, k, S => if (tdg T n 48 57 k).1 = -4 then (0, (tdg T n 48 57 k).2, S) else if (tbm T n (tdg T n 48 57 k).2).1 = -4 then (0, (tbm T n (tdg T n 48 57 k).2).2, S) else ttl T n m (t + 1) (tbm T n (tdg T n 48 57 k).2).2 (zup (zup S 1 t (tdg T n 48 57 k).1) 2 t (tbm T n (tdg T n 48 57 k).2).1)
def tsr (T : Nat → Int) (n k : Nat) (S : zT) : Int × (Nat × zT) :=
  if tat T n (tnl T n k) = 59 then (if (trs T n (tnl T n k + 1) S).1 = 0 then (0, (trs T n (tnl T n k + 1) S).2) else (if tat T n (tnl T n (trs T n (tnl T n k + 1) S).2.1) = -1 then 1 else 0, tnl T n (trs T n (tnl T n k + 1) S).2.1, (trs T n (tnl T n k + 1) S).2.2))
  else (if tat T n (tnl T n (tnl T n k)) = -1 then 1 else 0, tnl T n (tnl T n k), S)
def tsl (T : Nat → Int) (n : Nat) (S : zT) : Int × (Nat × zT) :=
  if (ttl T n 10 0 0 (zup (zup S 0 6 0) 0 7 0)).1 = 0 then (0, (ttl T n 10 0 0 (zup (zup S 0 6 0) 0 7 0)).2) else tsr T n (ttl T n 10 0 0 (zup (zup S 0 6 0) 0 7 0)).2.1 (ttl T n 10 0 0 (zup (zup S 0 6 0) 0 7 0)).2.2
/-- the riders behind a ';', where there is one -/
def trS (T : Nat → Int) (n k : Nat) (S : zT) : Int × (Nat × zT) := if tat T n (tnl T n k) = 59 then trs T n (tnl T n k + 1) S else (1, tnl T n k, S)
theorem tsr_trS (T : Nat → Int) (n k : Nat) (S : zT) : tsr T n k S = if (trS T n k S).1 = 0 then (0, (trS T n k S).2) else (if tat T n (tnl T n (trS T n k S).2.1) = -1 then 1 else 0, tnl T n (trS T n k S).2.1, (trS T n k S).2.2) := by
  unfold tsr trS
  by_cases h : tat T n (tnl T n k) = 59
  · rw [if_pos h, if_pos h]
  · rw [if_neg h, if_neg h, if_neg (show ¬ (1 : Int) = 0 by decide)]
theorem sad_6 (S : zT) (r : Nat) (k h l : Int) : sad S r k h l 0 6 = (r : Int) + 1 := zup_at _ _ _ _
theorem tbm_r {T : Nat → Int} {n k : Nat} (h : k ≤ n) : (tbm T n k).2 ≤ n ∧ ((tbm T n k).1 = -4 ∨ (0 ≤ (tbm T n k).1 ∧ (tbm T n k).1 ≤ 9)) := by
  have h1 := tnl_r T n k h
  unfold tbm
  split
  · rename_i h2
    have h3 := tat_lt (T := T) (n := n) (k := tnl T n k) (by omega)
    have hd := tdg_r (T := T) (n := n) (k := tnl T n k + 1) (lo := 49) (hi := 57) (by omega) (by omega)
    exact ⟨hd.2.1, by omega⟩
  · exact ⟨h1.2, Or.inr ⟨Int.le_refl 0, by show (0 : Int) ≤ 9; omega⟩⟩
theorem trr_r {T : Nat → Int} {n k r : Nat} {S : zT} (hT : ∀ j, j < 70 → 0 ≤ T j ∧ T j ≤ 126) (hn : n ≤ 70) (h : k ≤ n) : ((trr T n r k S).1 = 0 ∨ ((trr T n r k S).1 = 1 ∧ (trr T n r k S).2.2 0 6 = (r : Int) + 1)) ∧ (trr T n r k S).2.1 ≤ n := by
  have hk1 := tnl_r T n k h
  have hkr := tkd_r (tat T n (tnl T n k))
  unfold trr
  split
  · exact ⟨Or.inl rfl, hk1.2⟩
  · have hk2 := tat_lt (T := T) (n := n) (k := tnl T n k) (by omega)
    have hv := thv_r (T := T) (n := n) (k := tnl T n k + 1) hT hn hk2
    split
    · exact ⟨Or.inl rfl, hv.1⟩
    · have hl := tle_r (T := T) (n := n) (k := (thv T n (tnl T n k + 1)).2) hv.1
      split
      · exact ⟨Or.inl rfl, hl.1⟩
      · exact ⟨Or.inr ⟨rfl, sad_6 S r (tkd (tat T n (tnl T n k))) (thv T n (tnl T n k + 1)).1 (tle T n (thv T n (tnl T n k + 1)).2).1⟩, hl.1⟩
theorem trl_r {T : Nat → Int} {n : Nat} (hT : ∀ j, j < 70 → 0 ≤ T j ∧ T j ≤ 126) (hn : n ≤ 70) : ∀ (m r k : Nat) (S : zT), k ≤ n → ((trl T n m r k S).1 = 0 ∨ (trl T n m r k S).1 = 1) ∧ (trl T n m r k S).2.1 ≤ n
  | 0, r, k, S, h => ⟨Or.inr rfl, h⟩
  | m + 1, r, k, S, h => by
    have hk1 := tnl_r T n k h
    unfold trl
    split
    · have hk2 := tat_lt (T := T) (n := n) (k := tnl T n k) (by omega)
      have hq := trr_r (r := r) (S := S) hT hn (show tnl T n k + 1 ≤ n from hk2)
      split
      · exact ⟨Or.inl rfl, hq.2⟩
      · exact trl_r hT hn m (r + 1) _ _ hq.2
    · exact ⟨Or.inr rfl, hk1.2⟩
theorem trs_r {T : Nat → Int} {n k : Nat} {S : zT} (hT : ∀ j, j < 70 → 0 ≤ T j ∧ T j ≤ 126) (hn : n ≤ 70) (h : k ≤ n) : ((trs T n k S).1 = 0 ∨ (trs T n k S).1 = 1) ∧ (trs T n k S).2.1 ≤ n := by
  have hq := trr_r (r := 0) (S := S) hT hn h
  unfold trs
  split
  · exact ⟨Or.inl rfl, hq.2⟩
  · exact trl_r hT hn 4 1 _ _ hq.2
theorem trS_r {T : Nat → Int} {n k : Nat} {S : zT} (hT : ∀ j, j < 70 → 0 ≤ T j ∧ T j ≤ 126) (hn : n ≤ 70) (h : k ≤ n) : ((trS T n k S).1 = 0 ∨ (trS T n k S).1 = 1) ∧ (trS T n k S).2.1 ≤ n := by
  have hk1 := tnl_r T n k h
  unfold trS
  split
  · exact trs_r hT hn (tat_lt (T := T) (n := n) (k := tnl T n k) (by omega))
  · exact ⟨Or.inr rfl, hk1.2⟩
theorem ttl_r {T : Nat → Int} {n : Nat} (hT : ∀ j, j < 70 → 0 ≤ T j ∧ T j ≤ 126) (hn : n ≤ 70) : ∀ (m t k : Nat) (S : zT), k ≤ n → ((ttl T n m t k S).1 = 0 ∨ (ttl T n m t k S).1 = 1) ∧ (ttl T n m t k S).2.1 ≤ n ∧ (ttl T n m t k S).2.2 0 = S 0
  | 0, t, k, S, h => ⟨Or.inr rfl, h, rfl⟩
  | m + 1, t, k, S, h => by
    have hd := tdg_r (T := T) (n := n) (k := k) (lo := 48) (hi := 57) h (by omega)
    have hb := tbm_r (T := T) (n := n) (k := (tdg T n 48 57 k).2) hd.2.1
    unfold ttl
    split
    · exact ⟨Or.inl rfl, hd.2.1, rfl⟩
    · split
      · exact ⟨Or.inl rfl, hb.1, rfl⟩
      · have := ttl_r hT hn m (t + 1) (tbm T n (tdg T n 48 57 k).2).2 (zup (zup S 1 t (tdg T n 48 57 k).1) 2 t (tbm T n (tdg T n 48 57 k).2).1) hb.1
        refine ⟨this.1, this.2.1, this.2.2.trans ?_⟩
        rw [zup_row _ _ (by decide), zup_row _ _ (by decide)]
section TAPE3
variable {X : zXs} {sh : zH} {I L : zI2} {R : zR2} {p n b : Nat} {T : Nat → Int}
theorem lp_X5_readRiders (hs : zTp sh R p) (ht : zTr I p T n) (hb : zSl sh R b) (hpb : p + 2 ≤ b ∨ b + 7 ≤ p) : ∀ (m r k : Nat) (S : zT), r + m = 5 → 1 ≤ r → k ≤ n → S 0 6 = (r : Int) → zE X mX5_readRiders 0 0 2 [zR p, zR b, zI (r : Int)] [] sh (ztk (zsl I b S) p k) L R (zEq [zI (trl T n m r k S).1] sh (ztk (zsl I b (trl T n m r k S).2.2) p (trl T n m r k S).2.1) L R)
  | 0, r, k, S, h, h1, hk, hr => by
    refine z_iload2 3 dX5_readRiders_2 rfl ?_
    refine z_iconst 4 dX5_readRiders_3 rfl ?_
    refine z_icmp_ge 51 7 dX5_readRiders_4 (by decide) rfl (by omega) (by omega) (fun h4 => ?_) (fun hz => absurd hz (by omega))
    refine z_iconst 52 dX5_readRiders_51 rfl ?_
    exact z_zreturn dX5_readRiders_52 rfl (by omega) (⟨rfl, rfl, rfl, rfl, rfl⟩)
  | m + 1, r, k, S, h, h1, hk, hr => by
    have ht2 := zTr_sl ht S hpb
    obtain ⟨s0, s1, r0⟩ := id hs
    obtain ⟨t1, t2, t3, t4⟩ := id ht2
    have hk1 := tnl_r T n k hk
    have ha := tat_r (k := tnl T n k) t4 t2
    have hkl := fun q => tat_lt (T := T) (n := n) (k := tnl T n k) q
    refine z_iload2 3 dX5_readRiders_2 rfl ?_
    refine z_iconst 4 dX5_readRiders_3 rfl ?_
    refine z_icmp_ge 51 7 dX5_readRiders_4 (by decide) rfl (by omega) (by omega) (fun hz => absurd hz (by omega)) (fun h4 => ?_)
    refine z_aload0 8 dX5_readRiders_7 rfl ?_
    refine z_xV0 11 dX5_readRiders_8 lk_X5_readRiders_37 (ct_X5_nextLetter hs ht2 hk) rfl (Nat.le_of_ble_eq_true rfl) (Nat.le_of_ble_eq_true rfl) (by assumption) rfl rfl ?_
    refine z_iload2 12 dX5_readRiders_11 rfl ?_
    refine z_if_ne 20 15 dX5_readRiders_12 (by decide) rfl (by omega) (fun h12 => ?_) (fun hz => absurd hz (by omega))
    refine z_bipush 22 dX5_readRiders_20 (by decide) rfl ?_
    refine z_icmp_ne 51 25 dX5_readRiders_22 (by decide) rfl (by omega) (by omega) (fun h22 => ?_) (fun h22 => ?_)
    · refine z_iconst 52 dX5_readRiders_51 rfl ?_
      exact z_zreturn dX5_readRiders_52 rfl (by omega) (⟨by rw [trl, if_neg h22], rfl, by rw [trl, if_neg h22], rfl, rfl⟩)
    · refine z_aload0 26 dX5_readRiders_25 rfl ?_
      refine z_dup 27 dX5_readRiders_26 rfl rfl ?_
      refine z_getIx 30 dX5_readRiders_27 fl_RX5_19 (by assumption) (ztk_k _ _ _) rfl ?_
      refine z_iconst 31 dX5_readRiders_30 rfl ?_
      refine z_iadd 32 dX5_readRiders_31 rfl ?_
      refine z_putIx 35 dX5_readRiders_32 fp_RX5_19 (by assumption) (ztk_up _ _ _ (tnl T n k + 1) (by omega)) rfl ?_
      refine z_aload0 36 dX5_readRiders_35 rfl ?_
      refine z_aload1 37 dX5_readRiders_36 rfl ?_
      have hk2 : tnl T n k + 1 ≤ n := hkl (by omega)
      have hq := trr_r (r := r) (S := S) t4 t2 hk2
      refine z_xV1 40 dX5_readRiders_37 lk_X5_readRiders_51 (ct_X5_readRider hs ht hb hpb hk2 hr (by omega)) rfl (Nat.le_of_ble_eq_true rfl) (Nat.le_of_ble_eq_true rfl) (by assumption) rfl rfl ?_
      refine z_if_ne 45 43 dX5_readRiders_40 (by decide) rfl (by omega) (fun h40 => ?_) (fun h40 => ?_)
      · refine z_iinc2 48 dX5_readRiders_45 (Nat.le_of_ble_eq_true rfl) rfl rfl ?_
        refine z_goto 2 dX5_readRiders_48 (by decide) ?_
        rw [show trl T n (m + 1) r k S = trl T n m (r + 1) (trr T n r (tnl T n k + 1) S).2.1 (trr T n r (tnl T n k + 1) S).2.2 by rw [trl, if_pos h22, if_neg h40]]
        exact lp_X5_readRiders hs ht hb hpb m (r + 1) _ _ (by omega) (by omega) hq.2 (by rcases hq.1 with q | q; exact absurd q h40; exact q.2)
      · refine z_iconst 44 dX5_readRiders_43 rfl ?_
        exact z_zreturn dX5_readRiders_44 rfl (by omega) (⟨by rw [trl, if_pos h22, if_pos h40], rfl, by rw [trl, if_pos h22, if_pos h40], rfl, rfl⟩)
theorem tl_X5_readRiders {k : Nat} {S : zT} (hs : zTp sh R p) (ht : zTr I p T n) (hb : zSl sh R b) (hpb : p + 2 ≤ b ∨ b + 7 ≤ p) (hk : k ≤ n) (hr : S 0 6 = 0) : zE X mX5_readRiders 0 0 2 [zR p, zR b, zI 0] [] sh (ztk (zsl I b S) p k) L R (zEq [zI (trS T n k S).1] sh (ztk (zsl I b (trS T n k S).2.2) p (trS T n k S).2.1) L R) := by
  have ht2 := zTr_sl ht S hpb
  obtain ⟨s0, s1, r0⟩ := id hs
  obtain ⟨t1, t2, t3, t4⟩ := id ht2
  have hk1 := tnl_r T n k hk
  have ha := tat_r (k := tnl T n k) t4 t2
  have hkl := fun q => tat_lt (T := T) (n := n) (k := tnl T n k) q
  refine z_iload2 3 dX5_readRiders_2 rfl ?_
  refine z_iconst 4 dX5_readRiders_3 rfl ?_
  refine z_icmp_ge 51 7 dX5_readRiders_4 (by decide) rfl (by omega) (by omega) (fun hz => absurd hz (by omega)) (fun h4 => ?_)
  refine z_aload0 8 dX5_readRiders_7 rfl ?_
  refine z_xV0 11 dX5_readRiders_8 lk_X5_readRiders_37 (ct_X5_nextLetter hs ht2 hk) rfl (Nat.le_of_ble_eq_true rfl) (Nat.le_of_ble_eq_true rfl) (by assumption) rfl rfl ?_
  refine z_iload2 12 dX5_readRiders_11 rfl ?_
  refine z_if_ne 20 15 dX5_readRiders_12 (by decide) rfl (by omega) (fun hz => absurd hz (by omega)) (fun h12 => ?_)
  refine z_bipush 17 dX5_readRiders_15 (by decide) rfl ?_
  refine z_goto 22 dX5_readRiders_17 (by decide) ?_
  refine z_icmp_ne 51 25 dX5_readRiders_22 (by decide) rfl (by omega) (by omega) (fun h22 => ?_) (fun h22 => ?_)
  · refine z_iconst 52 dX5_readRiders_51 rfl ?_
    exact z_zreturn dX5_readRiders_52 rfl (by omega) (⟨by rw [trS, if_neg h22], rfl, by rw [trS, if_neg h22], rfl, rfl⟩)
  · refine z_aload0 26 dX5_readRiders_25 rfl ?_
    refine z_dup 27 dX5_readRiders_26 rfl rfl ?_
    refine z_getIx 30 dX5_readRiders_27 fl_RX5_19 (by assumption) (ztk_k _ _ _) rfl ?_
    refine z_iconst 31 dX5_readRiders_30 rfl ?_
    refine z_iadd 32 dX5_readRiders_31 rfl ?_
    refine z_putIx 35 dX5_readRiders_32 fp_RX5_19 (by assumption) (ztk_up _ _ _ (tnl T n k + 1) (by omega)) rfl ?_
    refine z_aload0 36 dX5_readRiders_35 rfl ?_
    refine z_aload1 37 dX5_readRiders_36 rfl ?_
    have hk2 : tnl T n k + 1 ≤ n := hkl (by omega)
    have hq := trr_r (r := 0) (S := S) t4 t2 hk2
    refine z_xV1 40 dX5_readRiders_37 lk_X5_readRiders_51 (ct_X5_readRider hs ht hb hpb hk2 (r := 0) hr (by omega)) rfl (Nat.le_of_ble_eq_true rfl) (Nat.le_of_ble_eq_true rfl) (by assumption) rfl rfl ?_
    refine z_if_ne 45 43 dX5_readRiders_40 (by decide) rfl (by omega) (fun h40 => ?_) (fun h40 => ?_)
    · refine z_iinc2 48 dX5_readRiders_45 (Nat.le_of_ble_eq_true rfl) rfl rfl ?_
      refine z_goto 2 dX5_readRiders_48 (by decide) ?_
      rw [trS, if_pos h22, trs, if_neg h40]
      exact lp_X5_readRiders hs ht hb hpb 4 1 _ _ rfl (by omega) hq.2 (by rcases hq.1 with q | q; exact absurd q h40; exact q.2)
    · refine z_iconst 44 dX5_readRiders_43 rfl ?_
      exact z_zreturn dX5_readRiders_44 rfl (by omega) (⟨by rw [trS, if_pos h22, trs, if_pos h40], rfl, by rw [trS, if_pos h22, trs, if_pos h40], rfl, rfl⟩)
theorem ct_X5_readRiders {k : Nat} {S : zT} (hs : zTp sh R p) (ht : zTr I p T n) (hb : zSl sh R b) (hpb : p + 2 ≤ b ∨ b + 7 ≤ p) (hk : k ≤ n) (hr : S 0 6 = 0) : zE X mX5_readRiders 0 0 0 [zR p, zR b, zX] [] sh (ztk (zsl I b S) p k) L R (zEq [zI (trS T n k S).1] sh (ztk (zsl I b (trS T n k S).2.2) p (trS T n k S).2.1) L R) := by
  refine z_iconst 1 dX5_readRiders_0 rfl ?_
  refine z_istore2 2 dX5_readRiders_1 (Nat.le_of_ble_eq_true rfl) rfl rfl ?_
  exact tl_X5_readRiders hs ht hb hpb hk hr
theorem tl_X5_readTurns (hs : zTp sh R p) (ht : zTr I p T n) (hb : zSl sh R b) (hpb : p + 2 ≤ b ∨ b + 7 ≤ p) (m t : Nat) (d1 : Int) (V : Int × (Nat × zT)) (S : zT) (e : Int × Nat) {e1 : Int} {e2 : Nat} (h : t + (m + 1) = 10) (he : e.2 ≤ n ∧ (e.1 = -4 ∨ (0 ≤ e.1 ∧ e.1 ≤ 9))) (he1 : e1 = e.1) (he2 : e2 = e.2) (hv2 : e.1 = -4 → V = (0, e.2, S)) (hv3 : ¬ e.1 = -4 → V = ttl T n m (t + 1) e.2 (zup (zup S 1 t d1) 2 t e.1))
    (hlp : ∀ (k' : Nat) (S' : zT) (z3 z4 : zV), k' ≤ n → zE X mX5_readTurns 0 0 2 [zR p, zR b, zI ((t + 1 : Nat) : Int), z3, z4] [] sh (ztk (zsl I b S') p k') L R (zEq [zI (ttl T n m (t + 1) k' S').1] sh (ztk (zsl I b (ttl T n m (t + 1) k' S').2.2) p (ttl T n m (t + 1) k' S').2.1) L R)) :
    zE X mX5_readTurns 0 0 57 [zR p, zR b, zI (t : Int), zI d1, zI e1] [] sh (ztk (zsl I b S) p e2) L R (zEq [zI V.1] sh (ztk (zsl I b V.2.2) p V.2.1) L R) := by
  subst he1
  subst he2
  obtain ⟨⟨b0, b1, b2, b3, b4, b5, b6⟩, q0, q1, q2, q3, q4, q5⟩ := id hb
  refine z_iload4 59 dX5_readTurns_57 rfl ?_
  refine z_bipush 61 dX5_readTurns_59 (by decide) rfl ?_
  refine z_icmp_ne 66 64 dX5_readTurns_61 (by decide) rfl (by omega) (by omega) (fun h61 => ?_) (fun h61 => ?_)
  · refine z_aload1 67 dX5_readTurns_66 rfl ?_
    refine z_getR 70 dX5_readTurns_67 fl_RX5_45 (by assumption) (by assumption) rfl ?_
    refine z_iload2 71 dX5_readTurns_70 rfl ?_
    refine z_iload3 72 dX5_readTurns_71 rfl ?_
    refine z_iastx 73 (t) dX5_readTurns_72 (by assumption) (by omega) (by omega) (ztk_slu _ _ _ _ _ (by omega) (by decide) _ _) rfl ?_
    refine z_aload1 74 dX5_readTurns_73 rfl ?_
    refine z_getR 77 dX5_readTurns_74 fl_RX5_48 (by assumption) (by assumption) rfl ?_
    refine z_iload2 78 dX5_readTurns_77 rfl ?_
    refine z_iload4 80 dX5_readTurns_78 rfl ?_
    refine z_iastx 81 (t) dX5_readTurns_80 (by assumption) (by omega) (by omega) (ztk_slu _ _ _ _ _ (by omega) (by decide) _ _) rfl ?_
    refine z_iinc2 84 dX5_readTurns_81 (Nat.le_of_ble_eq_true rfl) rfl rfl ?_
    refine z_goto 2 dX5_readTurns_84 (by decide) ?_
    rw [hv3 h61]
    exact hlp _ _ _ _ he.1
  · refine z_iconst 65 dX5_readTurns_64 rfl ?_
    exact z_zreturn dX5_readTurns_65 rfl (by omega) (⟨by rw [hv2 h61], rfl, by rw [hv2 h61], rfl, rfl⟩)
theorem lp_X5_readTurns (hs : zTp sh R p) (ht : zTr I p T n) (hb : zSl sh R b) (hpb : p + 2 ≤ b ∨ b + 7 ≤ p) : ∀ (m t k : Nat) (S : zT) (z3 z4 : zV), t + m = 10 → k ≤ n → zE X mX5_readTurns 0 0 2 [zR p, zR b, zI (t : Int), z3, z4] [] sh (ztk (zsl I b S) p k) L R (zEq [zI (ttl T n m t k S).1] sh (ztk (zsl I b (ttl T n m t k S).2.2) p (ttl T n m t k S).2.1) L R)
  | 0, t, k, S, z3, z4, h, hk => by
    refine z_iload2 3 dX5_readTurns_2 rfl ?_
    refine z_bipush 5 dX5_readTurns_3 (by decide) rfl ?_
    refine z_icmp_ge 87 8 dX5_readTurns_5 (by decide) rfl (by omega) (by omega) (fun h5 => ?_) (fun hz => absurd hz (by omega))
    refine z_iconst 88 dX5_readTurns_87 rfl ?_
    exact z_zreturn dX5_readTurns_88 rfl (by omega) (⟨rfl, rfl, rfl, rfl, rfl⟩)
  | m + 1, t, k, S, z3, z4, h, hk => by
    have ht2 := zTr_sl ht S hpb
    obtain ⟨s0, s1, r0⟩ := id hs
    obtain ⟨t1, t2, t3, t4⟩ := id ht2
    obtain ⟨⟨b0, b1, b2, b3, b4, b5, b6⟩, q0, q1, q2, q3, q4, q5⟩ := id hb
    have hd := tdg_r (T := T) (n := n) (k := k) (lo := 48) (hi := 57) hk (by omega)
    have hbm := tbm_r (T := T) (n := n) (k := (tdg T n 48 57 k).2) hd.2.1
    have hc1 := ct_X5_readDigit (X := X) (L := L) (lo := 48) (hi := 57) hs ht2 hk (by omega) (by omega)
    have e1 : (tdg T n 48 57 k).1 = -4 → ttl T n (m + 1) t k S = (0, (tdg T n 48 57 k).2, S) := fun q => by rw [ttl, if_pos q]
    have e2 : ¬ (tdg T n 48 57 k).1 = -4 → (tbm T n (tdg T n 48 57 k).2).1 = -4 → ttl T n (m + 1) t k S = (0, (tbm T n (tdg T n 48 57 k).2).2, S) := fun q q' => by rw [ttl, if_neg q, if_pos q']
    have e3 : ¬ (tdg T n 48 57 k).1 = -4 → ¬ (tbm T n (tdg T n 48 57 k).2).1 = -4 → ttl T n (m + 1) t k S = ttl T n m (t + 1) (tbm T n (tdg T n 48 57 k).2).2 (zup (zup S 1 t (tdg T n 48 57 k).1) 2 t (tbm T n (tdg T n 48 57 k).2).1) := fun q q' => by rw [ttl, if_neg q, if_neg q']
    generalize tdg T n 48 57 k = d at hd hbm hc1 e1 e2 e3
    have hk1 := tnl_r T n d.2 hd.2.1
    have ha := tat_r (k := tnl T n d.2) t4 t2
    have hkl := fun q => tat_lt (T := T) (n := n) (k := tnl T n d.2) q
    refine z_iload2 3 dX5_readTurns_2 rfl ?_
    refine z_bipush 5 dX5_readTurns_3 (by decide) rfl ?_
    refine z_icmp_ge 87 8 dX5_readTurns_5 (by decide) rfl (by omega) (by omega) (fun hz => absurd hz (by omega)) (fun h5 => ?_)
    refine z_aload0 9 dX5_readTurns_8 rfl ?_
    refine z_bipush 11 dX5_readTurns_9 (by decide) rfl ?_
    refine z_bipush 13 dX5_readTurns_11 (by decide) rfl ?_
    refine z_xV2 16 dX5_readTurns_13 lk_X5_readTurns_41 (hc1) rfl (Nat.le_of_ble_eq_true rfl) (Nat.le_of_ble_eq_true rfl) (by assumption) rfl rfl ?_
    refine z_istore3 17 dX5_readTurns_16 (Nat.le_of_ble_eq_true rfl) rfl rfl ?_
    refine z_iload3 18 dX5_readTurns_17 rfl ?_
    refine z_bipush 20 dX5_readTurns_18 (by decide) rfl ?_
    refine z_icmp_ne 25 23 dX5_readTurns_20 (by decide) rfl (by omega) (by omega) (fun h20 => ?_) (fun h20 => ?_)
    · refine z_iconst 26 dX5_readTurns_25 rfl ?_
      refine z_istore4 28 dX5_readTurns_26 (Nat.le_of_ble_eq_true rfl) rfl rfl ?_
      refine z_aload0 29 dX5_readTurns_28 rfl ?_
      refine z_xV0 32 dX5_readTurns_29 lk_X5_readTurns_37 (ct_X5_nextLetter hs ht2 hd.2.1) rfl (Nat.le_of_ble_eq_true rfl) (Nat.le_of_ble_eq_true rfl) (by assumption) rfl rfl ?_
      refine z_bipush 34 dX5_readTurns_32 (by decide) rfl ?_
      refine z_icmp_ne 57 37 dX5_readTurns_34 (by decide) rfl (by omega) (by omega) (fun h34 => ?_) (fun h34 => ?_)
      · first | exact tl_X5_readTurns hs ht hb hpb m t d.1 _ S _ h hbm (by unfold tbm; rw [if_pos h34]) (by unfold tbm; rw [if_pos h34]) (e2 h20) (e3 h20) (fun k' S' z3 z4 hk' => lp_X5_readTurns hs ht hb hpb m (t + 1) k' S' z3 z4 (by omega) hk') | exact tl_X5_readTurns hs ht hb hpb m t d.1 _ S _ h hbm (by unfold tbm; rw [if_neg h34]) (by unfold tbm; rw [if_neg h34]) (e2 h20) (e3 h20) (fun k' S' z3 z4 hk' => lp_X5_readTurns hs ht hb hpb m (t + 1) k' S' z3 z4 (by omega) hk')
      · refine z_aload0 38 dX5_readTurns_37 rfl ?_
        refine z_dup 39 dX5_readTurns_38 rfl rfl ?_
        refine z_getIx 42 dX5_readTurns_39 fl_RX5_19 (by assumption) (ztk_k _ _ _) rfl ?_
        refine z_iconst 43 dX5_readTurns_42 rfl ?_
        refine z_iadd 44 dX5_readTurns_43 rfl ?_
        refine z_putIx 47 dX5_readTurns_44 fp_RX5_19 (by assumption) (ztk_up _ _ _ (tnl T n d.2 + 1) (by omega)) rfl ?_
        refine z_aload0 48 dX5_readTurns_47 rfl ?_
        refine z_bipush 50 dX5_readTurns_48 (by decide) rfl ?_
        refine z_bipush 52 dX5_readTurns_50 (by decide) rfl ?_
        refine z_xV2 55 dX5_readTurns_52 lk_X5_readTurns_41 (ct_X5_readDigit hs ht2 (hkl (by omega)) (by omega) (by omega)) rfl (Nat.le_of_ble_eq_true rfl) (Nat.le_of_ble_eq_true rfl) (by assumption) rfl rfl ?_
        refine z_istore4 57 dX5_readTurns_55 (Nat.le_of_ble_eq_true rfl) rfl rfl ?_
        first | exact tl_X5_readTurns hs ht hb hpb m t d.1 _ S _ h hbm (by unfold tbm; rw [if_pos h34]) (by unfold tbm; rw [if_pos h34]) (e2 h20) (e3 h20) (fun k' S' z3 z4 hk' => lp_X5_readTurns hs ht hb hpb m (t + 1) k' S' z3 z4 (by omega) hk') | exact tl_X5_readTurns hs ht hb hpb m t d.1 _ S _ h hbm (by unfold tbm; rw [if_neg h34]) (by unfold tbm; rw [if_neg h34]) (e2 h20) (e3 h20) (fun k' S' z3 z4 hk' => lp_X5_readTurns hs ht hb hpb m (t + 1) k' S' z3 z4 (by omega) hk')
    · refine z_iconst 24 dX5_readTurns_23 rfl ?_
      exact z_zreturn dX5_readTurns_24 rfl (by omega) (⟨by rw [e1 h20], rfl, by rw [e1 h20], rfl, rfl⟩)
theorem ct_X5_readTurns {k : Nat} {S : zT} (hs : zTp sh R p) (ht : zTr I p T n) (hb : zSl sh R b) (hpb : p + 2 ≤ b ∨ b + 7 ≤ p) (hk : k ≤ n) : zE X mX5_readTurns 0 0 0 [zR p, zR b, zX, zX, zX] [] sh (ztk (zsl I b S) p k) L R (zEq [zI (ttl T n 10 0 k S).1] sh (ztk (zsl I b (ttl T n 10 0 k S).2.2) p (ttl T n 10 0 k S).2.1) L R) := by
  refine z_iconst 1 dX5_readTurns_0 rfl ?_
  refine z_istore2 2 dX5_readTurns_1 (Nat.le_of_ble_eq_true rfl) rfl rfl ?_
  exact lp_X5_readTurns hs ht hb hpb 10 0 k S zX zX rfl hk
theorem ct_X5_readSlide {S : zT} (hs : zTp sh R p) (ht : zTr I p T n) (hb : zSl sh R b) (hpb : p + 2 ≤ b ∨ b + 7 ≤ p) : zE X mX5_readSlide 0 0 0 [zR p, zR b] [] sh (zsl I b S) L R (zEq [zI (tsl T n S).1] sh (ztk (zsl I b (tsl T n S).2.2) p (tsl T n S).2.1) L R) := by
  obtain ⟨s0, s1, r0⟩ := id hs
  have hb0 := hb.1.1
  have hq := ttl_r ht.2.2.2 ht.2.1 10 0 0 (zup (zup S 0 6 0) 0 7 0) (Nat.zero_le n)
  have hc := ct_X5_readTurns (X := X) (I := I) (L := L) (k := 0) (S := zup (zup S 0 6 0) 0 7 0) hs ht hb hpb (Nat.zero_le n)
  unfold tsl
  have h06 : (zup (zup S 0 6 0) 0 7 0) 0 6 = 0 := by rw [zup_ne _ _ (by omega), zup_at]
  generalize ttl T n 10 0 0 (zup (zup S 0 6 0) 0 7 0) = d at hq hc ⊢
  have hd6 : d.2.2 0 6 = 0 := by rw [hq.2.2]; exact h06
  have hv := trS_r (S := d.2.2) ht.2.2.2 ht.2.1 hq.2.1
  have hr := ct_X5_readRiders (X := X) (I := I) (L := L) hs ht hb hpb hq.2.1 hd6
  rw [tsr_trS]
  generalize trS T n d.2.1 d.2.2 = V at hv hr ⊢
  have ht2 := zTr_sl ht V.2.2 hpb
  have ha := tat_r (k := tnl T n V.2.1) ht.2.2.2 ht.2.1
  refine z_aload0 1 dX5_readSlide_0 rfl ?_
  refine z_iconst 2 dX5_readSlide_1 rfl ?_
  refine z_putIx 5 dX5_readSlide_2 fp_RX5_19 (by assumption) (rfl) rfl ?_
  refine z_aload1 6 dX5_readSlide_5 rfl ?_
  refine z_iconst 7 dX5_readSlide_6 rfl ?_
  refine z_putIx 10 dX5_readSlide_7 fp_RX5_22 (by assumption) (ztk_slu0 I p 0 b _ (by omega) _ _) rfl ?_
  refine z_aload1 11 dX5_readSlide_10 rfl ?_
  refine z_iconst 12 dX5_readSlide_11 rfl ?_
  refine z_putIx 15 dX5_readSlide_12 fp_RX5_27 (by assumption) (ztk_slu0 I p 0 b _ (by omega) _ _) rfl ?_
  refine z_aload0 16 dX5_readSlide_15 rfl ?_
  refine z_aload1 17 dX5_readSlide_16 rfl ?_
  refine z_xV1 20 dX5_readSlide_17 lk_X5_readSlide_30 (hc) rfl (Nat.le_of_ble_eq_true rfl) (Nat.le_of_ble_eq_true rfl) (by assumption) rfl rfl ?_
  refine z_if_eq 43 23 dX5_readSlide_20 (by decide) rfl (by omega) (fun h20 => ?_) (fun h20 => ?_)
  · refine z_iconst 44 dX5_readSlide_43 rfl ?_
    exact z_zreturn dX5_readSlide_44 rfl (by omega) (⟨by first | rw [if_pos h20] | rw [if_neg h20, if_pos h28] | rw [if_neg h20, if_neg h28, if_pos h36] | rw [if_neg h20, if_neg h28, if_neg h36], rfl, by first | rw [if_pos h20] | rw [if_neg h20, if_pos h28] | rw [if_neg h20, if_neg h28], rfl, rfl⟩)
  · refine z_aload0 24 dX5_readSlide_23 rfl ?_
    refine z_aload1 25 dX5_readSlide_24 rfl ?_
    refine z_xV1 28 dX5_readSlide_25 lk_X5_readSlide_34 (hr) rfl (Nat.le_of_ble_eq_true rfl) (Nat.le_of_ble_eq_true rfl) (by assumption) rfl rfl ?_
    refine z_if_eq 43 31 dX5_readSlide_28 (by decide) rfl (by omega) (fun h28 => ?_) (fun h28 => ?_)
    · refine z_iconst 44 dX5_readSlide_43 rfl ?_
      exact z_zreturn dX5_readSlide_44 rfl (by omega) (⟨by first | rw [if_pos h20] | rw [if_neg h20, if_pos h28] | rw [if_neg h20, if_neg h28, if_pos h36] | rw [if_neg h20, if_neg h28, if_neg h36], rfl, by first | rw [if_pos h20] | rw [if_neg h20, if_pos h28] | rw [if_neg h20, if_neg h28], rfl, rfl⟩)
    · refine z_aload0 32 dX5_readSlide_31 rfl ?_
      refine z_xV0 35 dX5_readSlide_32 lk_X5_readSlide_37 (ct_X5_nextLetter hs ht2 hv.2) rfl (Nat.le_of_ble_eq_true rfl) (Nat.le_of_ble_eq_true rfl) (by assumption) rfl rfl ?_
      refine z_iconst 36 dX5_readSlide_35 rfl ?_
      refine z_icmp_ne 43 39 dX5_readSlide_36 (by decide) rfl (by omega) (by omega) (fun h36 => ?_) (fun h36 => ?_)
      · refine z_iconst 44 dX5_readSlide_43 rfl ?_
        exact z_zreturn dX5_readSlide_44 rfl (by omega) (⟨by first | rw [if_pos h20] | rw [if_neg h20, if_pos h28] | rw [if_neg h20, if_neg h28, if_pos h36] | rw [if_neg h20, if_neg h28, if_neg h36], rfl, by first | rw [if_pos h20] | rw [if_neg h20, if_pos h28] | rw [if_neg h20, if_neg h28], rfl, rfl⟩)
      · refine z_iconst 40 dX5_readSlide_39 rfl ?_
        refine z_goto 44 dX5_readSlide_40 (by decide) ?_
        exact z_zreturn dX5_readSlide_44 rfl (by omega) (⟨by first | rw [if_pos h20] | rw [if_neg h20, if_pos h28] | rw [if_neg h20, if_neg h28, if_pos h36] | rw [if_neg h20, if_neg h28, if_neg h36], rfl, by first | rw [if_pos h20] | rw [if_neg h20, if_pos h28] | rw [if_neg h20, if_neg h28], rfl, rfl⟩)
end TAPE3
