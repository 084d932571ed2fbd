/-! ===== a Slide's rides ===== -/
theorem zSr_up6 {S : zT} (h : zSr S) (r : Nat) {v : Int} (hv : 0 ≤ v ∧ v ≤ 30) : zSr (zup S 6 r v) := by
  obtain ⟨h1, h2, h3, h4, h5, h6, h7⟩ := h
  refine ⟨by rw [zup_row S v (by decide)]; exact h1, by rw [zup_row S v (by decide)]; exact h2, by rw [zup_row S v (by decide)]; exact h3, by rw [zup_row S v (by decide)]; exact h4, by rw [zup_row S v (by decide)]; exact h5, by rw [zup_row S v (by decide)]; exact h6, fun q hq => ?_⟩
  by_cases e : q = r
  · subst e; rw [zup_at]; exact hv
  · rw [zup_ne S v (by omega)]; exact h7 q hq
theorem zSr_up1 {S : zT} (h : zSr S) (t : Nat) {v : Int} (hv : 0 ≤ v ∧ v ≤ 9) : zSr (zup S 1 t v) := by
  obtain ⟨h1, h2, h3, h4, h5, h6, h7⟩ := h
  refine ⟨by rw [zup_row S v (by decide)]; exact h1, fun q hq => ?_, by rw [zup_row S v (by decide)]; exact h3, by rw [zup_row S v (by decide)]; exact h4, by rw [zup_row S v (by decide)]; exact h5, by rw [zup_row S v (by decide)]; exact h6, by rw [zup_row S v (by decide)]; exact h7⟩
  by_cases e : q = t
  · subst e; rw [zup_at]; exact hv
  · rw [zup_ne S v (by omega)]; exact h2 q hq
theorem zSr_up2 {S : zT} (h : zSr S) (t : Nat) {v : Int} (hv : 0 ≤ v ∧ v ≤ 9) : zSr (zup S 2 t v) := by
  obtain ⟨h1, h2, h3, h4, h5, h6, h7⟩ := h
  refine ⟨by rw [zup_row S v (by decide)]; exact h1, by rw [zup_row S v (by decide)]; exact h2, fun q hq => ?_, by rw [zup_row S v (by decide)]; exact h4, by rw [zup_row S v (by decide)]; exact h5, by rw [zup_row S v (by decide)]; exact h6, by rw [zup_row S v (by decide)]; exact h7⟩
  by_cases e : q = t
  · subst e; rw [zup_at]; exact hv
  · rw [zup_ne S v (by omega)]; exact h3 q hq
theorem zSr_up3 {S : zT} (h : zSr S) (r : Nat) {v : Int} (hv : 0 ≤ v ∧ v ≤ 4) : zSr (zup S 3 r v) := by
  obtain ⟨h1, h2, h3, h4, h5, h6, h7⟩ := h
  refine ⟨by rw [zup_row S v (by decide)]; exact h1, by rw [zup_row S v (by decide)]; exact h2, by rw [zup_row S v (by decide)]; exact h3, fun q hq => ?_, by rw [zup_row S v (by decide)]; exact h5, by rw [zup_row S v (by decide)]; exact h6, by rw [zup_row S v (by decide)]; exact h7⟩
  by_cases e : q = r
  · subst e; rw [zup_at]; exact hv
  · rw [zup_ne S v (by omega)]; exact h4 q hq
theorem zSr_up4 {S : zT} (h : zSr S) (r : Nat) {v : Int} (hv : 0 ≤ v ∧ v ≤ 20) : zSr (zup S 4 r v) := by
  obtain ⟨h1, h2, h3, h4, h5, h6, h7⟩ := h
  refine ⟨by rw [zup_row S v (by decide)]; exact h1, by rw [zup_row S v (by decide)]; exact h2, by rw [zup_row S v (by decide)]; exact h3, by rw [zup_row S v (by decide)]; exact h4, fun q hq => ?_, by rw [zup_row S v (by decide)]; exact h6, by rw [zup_row S v (by decide)]; exact h7⟩
  by_cases e : q = r
  · subst e; rw [zup_at]; exact hv
  · rw [zup_ne S v (by omega)]; exact h5 q hq
theorem zSr_up5 {S : zT} (h : zSr S) (r : Nat) {v : Int} (hv : 0 ≤ v ∧ v ≤ 7) : zSr (zup S 5 r v) := by
  obtain ⟨h1, h2, h3, h4, h5, h6, h7⟩ := h
  refine ⟨by rw [zup_row S v (by decide)]; exact h1, by rw [zup_row S v (by decide)]; exact h2, by rw [zup_row S v (by decide)]; exact h3, by rw [zup_row S v (by decide)]; exact h4, by rw [zup_row S v (by decide)]; exact h5, fun q hq => ?_, by rw [zup_row S v (by decide)]; exact h7⟩
  by_cases e : q = r
  · subst e; rw [zup_at]; exact hv
  · rw [zup_ne S v (by omega)]; exact h6 q hq
theorem zSr_up0 {S : zT} (h : zSr S) {j : Nat} {v : Int} (hv : ¬ j = 6 ∨ (0 ≤ v ∧ v ≤ 5)) : zSr (zup S 0 j v) := by
  obtain ⟨h1, h2, h3, h4, h5, h6, h7⟩ := h
  refine ⟨?_, by rw [zup_row S v (by decide)]; exact h2, by rw [zup_row S v (by decide)]; exact h3, by rw [zup_row S v (by decide)]; exact h4, by rw [zup_row S v (by decide)]; exact h5, by rw [zup_row S v (by decide)]; exact h6, by rw [zup_row S v (by decide)]; exact h7⟩
  rcases hv with hv | hv
  · rw [zup_ne S v (by omega)]; exact h1
  · by_cases e : j = 6
    · subst e; rw [zup_at]; exact hv
    · rw [zup_ne S v (by omega)]; exact h1
def lft (S : zT) (t : Nat) : zT := if sst S t = -4 then S else zup S 6 (sst S t).toNat 30
theorem lft_sr {S : zT} (h : zSr S) (t : Nat) : zSr (lft S t) := by
  unfold lft
  split
  · exact h
  · exact zSr_up6 h _ (by omega)
def sdn (w : Nat → Int) : Nat → Nat → zT → zT
  | 0, _, S => S
  | m + 1, t, S => if w t = -4 then lft S t else sdn w m (t + 1) (zup (lft S t) 1 t (if 0 < lft S t 1 t - 1 then lft S t 1 t - 1 else 0))
theorem sdn_sr (w : Nat → Int) : ∀ (m t : Nat) (S : zT), t + m ≤ 10 → zSr S → zSr (sdn w m t S)
  | 0, t, S, _, h => h
  | m + 1, t, S, ht, h => by
    unfold sdn
    have h1 := lft_sr h t
    split
    · exact h1
    · have h2 := h1.2.1 t (by omega)
      exact sdn_sr w m (t + 1) _ (by omega) (zSr_up1 h1 t (by split <;> omega))
theorem sft_r (S : zT) (r : Nat) (hS : zSr S) (h5 : r < 5) : ∀ (m t : Nat) (v : Int) (w : Nat → Int), t + m = 10 → 0 < v ∧ v ≤ 30 → 0 ≤ (sft S r m t v w).1 ∧ (sft S r m t v w).1 ≤ 19 ∧ ¬ ((sft S r m t v w).1 = 8 ∨ (sft S r m t v w).1 = 9)
  | 0, t, v, w, h, hv => by
    have h1 := hS.2.2.2.2.2.1 r h5
    show 0 ≤ (v + S 5 r) % 8 ∧ (v + S 5 r) % 8 ≤ 19 ∧ _
    refine ⟨by omega, by omega, ?_⟩
    show ¬ ((v + S 5 r) % 8 = 8 ∨ (v + S 5 r) % 8 = 9)
    omega
  | m + 1, t, v, w, h, hv => by
    unfold sft
    split
    · exact sft_r S r hS h5 m (t + 1) _ _ (by omega) ⟨by assumption, sbh_le S t r v (S 1 t)⟩
    · refine ⟨?_, ?_, ?_⟩
      · show 0 ≤ 10 + (t : Int); omega
      · show 10 + (t : Int) ≤ 19; omega
      · show ¬ (10 + (t : Int) = 8 ∨ 10 + (t : Int) = 9); omega
/-- the speeds behind the turns of a ride of r, -4 where he doesn't come; and how it ends -/
def sfw (S : zT) (r : Nat) : Nat → Int := (sft S r 10 0 2 (fun _ => -4)).2
def sfe (S : zT) (r : Nat) : Int := (sft S r 10 0 2 (fun _ => -4)).1
theorem sft_w (S : zT) (r : Nat) : ∀ (m t : Nat) (v : Int) (w w' : Nat → Int), (∀ j, j < 10 → w j = w' j) → (sft S r m t v w).1 = (sft S r m t v w').1 ∧ ∀ j, j < 10 → (sft S r m t v w).2 j = (sft S r m t v w').2 j
  | 0, t, v, w, w', h => ⟨rfl, h⟩
  | m + 1, t, v, w, w', h => by
    unfold sft
    split
    · refine sft_w S r m (t + 1) _ _ _ (fun j hj => ?_)
      by_cases e : j = t
      · simp [e]
      · simp [e, h j hj]
    · exact ⟨rfl, h⟩
theorem sft_0 (S : zT) (r : Nat) (f : Nat → Int) : (sft S r 10 0 2 (zfl f 10 (-4))).1 = sfe S r ∧ ∀ j, j < 10 → (sft S r 10 0 2 (zfl f 10 (-4))).2 j = sfw S r j :=
  sft_w S r 10 0 2 _ _ (fun j hj => by simp [zfl, hj])
theorem sfe_r (S : zT) (r : Nat) (hS : zSr S) (h5 : r < 5) : 0 ≤ sfe S r ∧ sfe S r ≤ 19 ∧ ¬ (sfe S r = 8 ∨ sfe S r = 9) := sft_r S r hS h5 10 0 2 _ rfl (by omega)
theorem sft_wr (S : zT) (r : Nat) : ∀ (m t : Nat) (v : Int) (w : Nat → Int), (∀ j, j < 10 → -4 ≤ w j ∧ w j ≤ 30) → ∀ j, j < 10 → -4 ≤ (sft S r m t v w).2 j ∧ (sft S r m t v w).2 j ≤ 30
  | 0, t, v, w, h, j, hj => h j hj
  | m + 1, t, v, w, h, j, hj => by
    unfold sft
    have hb := sbh_le S t r v (S 1 t)
    split
    · refine sft_wr S r m (t + 1) _ _ (fun q hq => ?_) j hj
      by_cases e : q = t
      · simp only [e, if_pos]; omega
      · simp only [if_neg e]; exact h q hq
    · exact h j hj
theorem sfw_r (S : zT) (r : Nat) (j : Nat) (hj : j < 10) : -4 ≤ sfw S r j ∧ sfw S r j ≤ 30 := sft_wr S r 10 0 2 _ (fun _ _ => by omega) j hj
def send (S : zT) (r : Nat) : zT := zup (zup (sdn (sfw S r) 10 0 S) 6 r (sfe S r)) 0 7 (zup (sdn (sfw S r) 10 0 S) 6 r (sfe S r) 0 7 + 1)
theorem send_sr {S : zT} (h : zSr S) {r : Nat} (h5 : r < 5) : zSr (send S r) := by
  have h1 := sfe_r S r h h5
  exact zSr_up0 (zSr_up6 (sdn_sr _ 10 0 S (by omega) h) r (by omega)) (Or.inl (by decide))
theorem sdn_w {w w' : Nat → Int} (hw : ∀ j, j < 10 → w j = w' j) : ∀ (m t : Nat) (S : zT), t + m ≤ 10 → sdn w m t S = sdn w' m t S
  | 0, t, S, _ => rfl
  | m + 1, t, S, h => by
    unfold sdn
    rw [hw t (by omega), sdn_w hw m (t + 1) _ (by omega)]
section SLIDED
variable {X : zXs} {sh : zH} {I L : zI2} {R : zR2} {S : zT} {b : Nat}
theorem ct_X4_speedBehind {r t : Nat} {v g : Int} (hs : zSl sh R b) (hr : zSr S) (h5 : r < 5) (ht : t < 10) (hv : -100 ≤ v ∧ v ≤ 100) (hg : -100 ≤ g ∧ g ≤ 100) : zE X mX4_speedBehind 0 0 0 [zR b, zI (t : Int), zI (r : Int), zI v, zI g, zX, zX, zX] [] sh (zsl I b S) L R (zEq [zI (sbh S t r v g)] sh (zsl I b S) L R) := by
  obtain ⟨⟨s0, s1, s2, s3, s4, s5, s6⟩, r0, r1, r2, r3, r4, r5⟩ := id hs
  have hb := hr.2.2.1 t ht
  have hsg := sgn_r S r t v hr h5 ht
  have hq := sst_r S t hr.1.2
  refine z_bipush 2 dX4_speedBehind_0 (by decide) rfl ?_
  refine z_iload3 3 dX4_speedBehind_2 rfl ?_
  refine z_aload0 4 dX4_speedBehind_3 rfl ?_
  refine z_iload2 5 dX4_speedBehind_4 rfl ?_
  refine z_iload1 6 dX4_speedBehind_5 rfl ?_
  refine z_iload3 7 dX4_speedBehind_6 rfl ?_
  refine z_xV3 10 dX4_speedBehind_7 lk_X4_speedBehind_58 (ct_X4_gained hs hr h5 ht (by omega)) rfl (Nat.le_of_ble_eq_true rfl) (Nat.le_of_ble_eq_true rfl) (by assumption) rfl rfl ?_
  refine z_iadd 11 dX4_speedBehind_10 rfl ?_
  refine z_iload4 13 dX4_speedBehind_11 rfl ?_
  refine z_isub 14 dX4_speedBehind_13 rfl ?_
  refine z_aload0 15 dX4_speedBehind_14 rfl ?_
  refine z_getR 18 dX4_speedBehind_15 fl_RX4_15 (by assumption) (by assumption) rfl ?_
  refine z_iload1 19 dX4_speedBehind_18 rfl ?_
  refine z_ialdx 20 (t) dX4_speedBehind_19 (by assumption) (by omega) (by omega) (zsl_r _ _ _ (by decide) _) rfl ?_
  refine z_isub 21 dX4_speedBehind_20 rfl ?_
  refine z_mmin 24 dX4_speedBehind_21 ml_RX4_62 sm_yJ9_min_7cf53 it_RJ9 co_yJ9_min_7cf53 (by decide) (Nat.le_of_ble_eq_true rfl) (by omega) (by omega) rfl ?_
  generalize hN : (if v + sgn S r t v - g - S 2 t < 30 then v + sgn S r t v - g - S 2 t else 30) = N
  have hN2 : -1000 ≤ N ∧ N ≤ 30 := by rw [← hN]; split <;> omega
  refine z_istore5 26 dX4_speedBehind_24 (Nat.le_of_ble_eq_true rfl) rfl rfl ?_
  refine z_aload0 27 dX4_speedBehind_26 rfl ?_
  refine z_iload1 28 dX4_speedBehind_27 rfl ?_
  refine z_xV1 31 dX4_speedBehind_28 lk_X4_speedBehind_54 (ct_X4_stuckOn hs hr ht) rfl (Nat.le_of_ble_eq_true rfl) (Nat.le_of_ble_eq_true rfl) (by assumption) rfl rfl ?_
  refine z_istore6 33 dX4_speedBehind_31 (Nat.le_of_ble_eq_true rfl) rfl rfl ?_
  refine z_iload6 35 dX4_speedBehind_33 rfl ?_
  refine z_bipush 37 dX4_speedBehind_35 (by decide) rfl ?_
  refine z_icmp_eq 50 40 dX4_speedBehind_37 (by decide) rfl (by omega) (by omega) (fun h37 => ?_) (fun h37 => ?_)
  · refine z_iconst 51 dX4_speedBehind_50 rfl ?_
    refine z_istore7 53 dX4_speedBehind_51 (Nat.le_of_ble_eq_true rfl) rfl rfl ?_
    refine z_iload7 55 dX4_speedBehind_53 rfl ?_
    refine z_if_eq 70 58 dX4_speedBehind_55 (by decide) rfl (by omega) (fun h55 => ?_) (fun hz => absurd hz (by omega))
    refine z_iload5 72 dX4_speedBehind_70 rfl ?_
    exact z_ireturn dX4_speedBehind_72 rfl (⟨by first | (exfalso; omega) | (unfold sbh; rw [hN]; first | rw [if_pos (by omega)] | rw [if_neg (by omega)]), rfl, rfl, rfl, rfl⟩)
  · refine z_iload6 42 dX4_speedBehind_40 rfl ?_
    refine z_iload2 43 dX4_speedBehind_42 rfl ?_
    refine z_icmp_eq 50 46 dX4_speedBehind_43 (by decide) rfl (by omega) (by omega) (fun h43 => ?_) (fun h43 => ?_)
    · refine z_iconst 51 dX4_speedBehind_50 rfl ?_
      refine z_istore7 53 dX4_speedBehind_51 (Nat.le_of_ble_eq_true rfl) rfl rfl ?_
      refine z_iload7 55 dX4_speedBehind_53 rfl ?_
      refine z_if_eq 70 58 dX4_speedBehind_55 (by decide) rfl (by omega) (fun h55 => ?_) (fun hz => absurd hz (by omega))
      refine z_iload5 72 dX4_speedBehind_70 rfl ?_
      exact z_ireturn dX4_speedBehind_72 rfl (⟨by first | (exfalso; omega) | (unfold sbh; rw [hN]; first | rw [if_pos (by omega)] | rw [if_neg (by omega)]), rfl, rfl, rfl, rfl⟩)
    · refine z_iconst 47 dX4_speedBehind_46 rfl ?_
      refine z_goto 51 dX4_speedBehind_47 (by decide) ?_
      refine z_istore7 53 dX4_speedBehind_51 (Nat.le_of_ble_eq_true rfl) rfl rfl ?_
      refine z_iload7 55 dX4_speedBehind_53 rfl ?_
      refine z_if_eq 70 58 dX4_speedBehind_55 (by decide) rfl (by omega) (fun hz => absurd hz (by omega)) (fun h55 => ?_)
      refine z_iload5 60 dX4_speedBehind_58 rfl ?_
      refine z_if_le 70 63 dX4_speedBehind_60 (by decide) rfl (by omega) (fun h60 => ?_) (fun h60 => ?_)
      · refine z_iload5 72 dX4_speedBehind_70 rfl ?_
        exact z_ireturn dX4_speedBehind_72 rfl (⟨by first | (exfalso; omega) | (unfold sbh; rw [hN]; first | rw [if_pos (by omega)] | rw [if_neg (by omega)]), rfl, rfl, rfl, rfl⟩)
      · refine z_iload5 65 dX4_speedBehind_63 rfl ?_
        refine z_iconst 66 dX4_speedBehind_65 rfl ?_
        refine z_idiv 67 dX4_speedBehind_66 (by omega) (by omega) rfl ?_
        refine z_goto 72 dX4_speedBehind_67 (by decide) ?_
        exact z_ireturn dX4_speedBehind_72 rfl (⟨by first | (exfalso; omega) | (unfold sbh; rw [hN]; first | rw [if_pos (by omega)] | rw [if_neg (by omega)]), rfl, rfl, rfl, rfl⟩)
theorem lp_X4_foretell {r sp : Nat} (hs : zSl sh R b) (hr : zSr S) (h5 : r < 5) (hsp : sp < b ∨ b + 7 ≤ sp) (hsh : sh[sp]? = some (20, 10)) : ∀ (m t : Nat) (v : Int) (w : Nat → Int), t + m = 10 → 0 < v ∧ v ≤ 30 → zE X mX4_foretell 0 0 11 [zR b, zI (r : Int), zR sp, zI v, zI (t : Int)] [] sh (zsl (zrow I sp w) b S) L R (zEq [zI (sft S r m t v w).1] sh (zsl (zrow I sp (sft S r m t v w).2) b S) L R)
  | 0, t, v, w, h, hv => by
    obtain ⟨⟨s0, s1, s2, s3, s4, s5, s6⟩, r0, r1, r2, r3, r4, r5⟩ := id hs
    have hl := hr.2.2.2.2.2.1 r h5
    refine z_iload4 13 dX4_foretell_11 rfl ?_
    refine z_bipush 15 dX4_foretell_13 (by decide) rfl ?_
    refine z_icmp_ge 55 18 dX4_foretell_15 (by decide) rfl (by omega) (by omega) (fun h15 => ?_) (fun hz => absurd hz (by omega))
    refine z_iload3 56 dX4_foretell_55 rfl ?_
    refine z_aload0 57 dX4_foretell_56 rfl ?_
    refine z_getR 60 dX4_foretell_57 fl_RX4_24 (by assumption) (by assumption) rfl ?_
    refine z_iload1 61 dX4_foretell_60 rfl ?_
    refine z_ialdx 62 (r) dX4_foretell_61 (by assumption) (by omega) (by omega) (zsl_r _ _ _ (by decide) _) rfl ?_
    refine z_iadd 63 dX4_foretell_62 rfl ?_
    refine z_bipush 65 dX4_foretell_63 (by decide) rfl ?_
    refine z_irem 66 dX4_foretell_65 (by omega) (by omega) rfl ?_
    exact z_ireturn dX4_foretell_66 rfl (⟨rfl, rfl, rfl, rfl, rfl⟩)
  | m + 1, t, v, w, h, hv => by
    obtain ⟨⟨s0, s1, s2, s3, s4, s5, s6⟩, r0, r1, r2, r3, r4, r5⟩ := id hs
    have hg := hr.2.1 t (by omega)
    have hb1 := sbh_le S t r v (S 1 t)
    have hb2 := sbh_ge S t r v (S 1 t) hr h5 (by omega) (by omega) (by omega)
    refine z_iload4 13 dX4_foretell_11 rfl ?_
    refine z_bipush 15 dX4_foretell_13 (by decide) rfl ?_
    refine z_icmp_ge 55 18 dX4_foretell_15 (by decide) rfl (by omega) (by omega) (fun hz => absurd hz (by omega)) (fun h15 => ?_)
    refine z_aload0 19 dX4_foretell_18 rfl ?_
    refine z_iload4 21 dX4_foretell_19 rfl ?_
    refine z_iload1 22 dX4_foretell_21 rfl ?_
    refine z_iload3 23 dX4_foretell_22 rfl ?_
    refine z_aload0 24 dX4_foretell_23 rfl ?_
    refine z_getR 27 dX4_foretell_24 fl_RX4_9 (by assumption) (by assumption) rfl ?_
    refine z_iload4 29 dX4_foretell_27 rfl ?_
    refine z_ialdx 30 (t) dX4_foretell_29 (by assumption) (by omega) (by omega) (zsl_r _ _ _ (by decide) _) rfl ?_
    refine z_xV4 33 dX4_foretell_30 lk_X4_foretell_68 (ct_X4_speedBehind hs hr h5 (by omega) (by omega) (by omega)) rfl (Nat.le_of_ble_eq_true rfl) (Nat.le_of_ble_eq_true rfl) (by assumption) rfl rfl ?_
    refine z_istore3 34 dX4_foretell_33 (Nat.le_of_ble_eq_true rfl) rfl rfl ?_
    refine z_iload3 35 dX4_foretell_34 rfl ?_
    refine z_if_gt 44 38 dX4_foretell_35 (by decide) rfl (by omega) (fun h35 => ?_) (fun h35 => ?_)
    · refine z_aload2 45 dX4_foretell_44 rfl ?_
      refine z_iload4 47 dX4_foretell_45 rfl ?_
      refine z_iload3 48 dX4_foretell_47 rfl ?_
      refine z_iastx 49 (t) dX4_foretell_48 (by assumption) (by omega) (by omega) ((zsl_upo _ _ _ hsp _ _).trans (congrArg (fun J => zsl J b S) (zrow_up _ _ _ _ _))) rfl ?_
      refine z_iinc4 52 dX4_foretell_49 (Nat.le_of_ble_eq_true rfl) rfl rfl ?_
      refine z_goto 11 dX4_foretell_52 (by decide) ?_
      rw [show sft S r (m + 1) t v w = sft S r m (t + 1) (sbh S t r v (S 1 t)) (fun j => if j = t then sbh S t r v (S 1 t) else w j) by rw [sft, if_pos (by omega)]]
      exact lp_X4_foretell hs hr h5 hsp hsh m (t + 1) _ _ (by omega) ⟨by omega, hb1⟩
    · refine z_bipush 40 dX4_foretell_38 (by decide) rfl ?_
      refine z_iload4 42 dX4_foretell_40 rfl ?_
      refine z_iadd 43 dX4_foretell_42 rfl ?_
      exact z_ireturn dX4_foretell_43 rfl (⟨by rw [sft, if_neg (by omega)], rfl, by rw [sft, if_neg (by omega)], rfl, rfl⟩)
theorem ct_X4_foretell {r sp : Nat} (hs : zSl sh R b) (hr : zSr S) (h5 : r < 5) (hsp : sp < b ∨ b + 7 ≤ sp) (hsh : sh[sp]? = some (20, 10)) : zE X mX4_foretell 0 0 0 [zR b, zI (r : Int), zR sp, zX, zX] [] sh (zsl I b S) L R (zEq [zI (sfe S r)] sh (zsl (zrow I sp (sft S r 10 0 2 (zfl (I sp) 10 (-4))).2) b S) L R) := by
  have hfill := ct_J7_fill (X := X) (I := zsl I b S) (L := L) (R := R) (v := -4) hsh (by omega)
  rw [zsl_rowo _ _ _ hsp, zsl_oR _ _ _ hsp] at hfill
  rw [← (sft_0 S r (I sp)).1]
  refine z_aload2 1 dX4_foretell_0 rfl ?_
  refine z_bipush 3 dX4_foretell_1 (by decide) rfl ?_
  refine z_xSv2 6 dX4_foretell_3 lk_X4_foretell_40 (hfill) rfl (Nat.le_of_ble_eq_true rfl) (Nat.le_of_ble_eq_true rfl) rfl ?_
  refine z_iconst 7 dX4_foretell_6 rfl ?_
  refine z_istore3 8 dX4_foretell_7 (Nat.le_of_ble_eq_true rfl) rfl rfl ?_
  refine z_iconst 9 dX4_foretell_8 rfl ?_
  refine z_istore4 11 dX4_foretell_9 (Nat.le_of_ble_eq_true rfl) rfl rfl ?_
  exact lp_X4_foretell hs hr h5 hsp hsh 10 0 2 _ rfl (by omega)
theorem ct_X4_liftFrom {t : Nat} (hs : zSl sh R b) (hr : zSr S) (ht : t < 10) : zE X mX4_liftFrom 0 0 0 [zR b, zI (t : Int), zX] [] sh (zsl I b S) L R (zEq [] sh (zsl I b (lft S t)) L R) := by
  obtain ⟨⟨s0, s1, s2, s3, s4, s5, s6⟩, r0, r1, r2, r3, r4, r5⟩ := id hs
  have hq := sst_r S t hr.1.2
  refine z_aload0 1 dX4_liftFrom_0 rfl ?_
  refine z_iload1 2 dX4_liftFrom_1 rfl ?_
  refine z_xV1 5 dX4_liftFrom_2 lk_X4_liftFrom_54 (ct_X4_stuckOn hs hr ht) rfl (Nat.le_of_ble_eq_true rfl) (Nat.le_of_ble_eq_true rfl) (by assumption) rfl rfl ?_
  refine z_istore2 6 dX4_liftFrom_5 (Nat.le_of_ble_eq_true rfl) rfl rfl ?_
  refine z_iload2 7 dX4_liftFrom_6 rfl ?_
  refine z_bipush 9 dX4_liftFrom_7 (by decide) rfl ?_
  refine z_icmp_eq 20 12 dX4_liftFrom_9 (by decide) rfl (by omega) (by omega) (fun h9 => ?_) (fun h9 => ?_)
  · exact z_return dX4_liftFrom_20 rfl (⟨rfl, rfl, by unfold lft; (first | rw [if_pos h9] | rw [if_neg h9]), rfl, rfl⟩)
  · refine z_aload0 13 dX4_liftFrom_12 rfl ?_
    refine z_getR 16 dX4_liftFrom_13 fl_RX4_27 (by assumption) (by assumption) rfl ?_
    refine z_iload2 17 dX4_liftFrom_16 rfl ?_
    refine z_bipush 19 dX4_liftFrom_17 (by decide) rfl ?_
    refine z_iastx 20 ((sst S t).toNat) dX4_liftFrom_19 (by assumption) (by omega) (by omega) (zsl_up _ _ _ (by decide) _ _) rfl ?_
    exact z_return dX4_liftFrom_20 rfl (⟨rfl, rfl, by unfold lft; (first | rw [if_pos h9] | rw [if_neg h9]), rfl, rfl⟩)
/-- the end of sendDown -/
theorem tl_X4_sendDown {r sp : Nat} {e x y : Int} (hs : zSl sh R b) (h5 : r < 5) : zE X mX4_sendDown 0 0 78 [zR b, zI (r : Int), zR sp, zI e, zI x, zI y] [] sh (zsl I b S) L R (zEq [zI e] sh (zsl I b (zup (zup S 6 r e) 0 7 (zup S 6 r e 0 7 + 1))) L R) := by
  obtain ⟨⟨s0, s1, s2, s3, s4, s5, s6⟩, r0, r1, r2, r3, r4, r5⟩ := id hs
  refine z_aload0 79 dX4_sendDown_78 rfl ?_
  refine z_getR 82 dX4_sendDown_79 fl_RX4_27 (by assumption) (by assumption) rfl ?_
  refine z_iload1 83 dX4_sendDown_82 rfl ?_
  refine z_iload3 84 dX4_sendDown_83 rfl ?_
  refine z_iastx 85 (r) dX4_sendDown_84 (by assumption) (by omega) (by omega) (zsl_up _ _ _ (by decide) _ _) rfl ?_
  refine z_aload0 86 dX4_sendDown_85 rfl ?_
  refine z_dup 87 dX4_sendDown_86 rfl rfl ?_
  refine z_getIx 90 dX4_sendDown_87 fl_RX4_34 (by assumption) (zsl_0 _ _ _ _) rfl ?_
  refine z_iconst 91 dX4_sendDown_90 rfl ?_
  refine z_iadd 92 dX4_sendDown_91 rfl ?_
  refine z_putIx 95 dX4_sendDown_92 fp_RX4_34 (by assumption) (zsl_up0 _ _ _ _ _) rfl ?_
  refine z_iload3 96 dX4_sendDown_95 rfl ?_
  exact z_ireturn dX4_sendDown_96 rfl (⟨rfl, rfl, rfl, rfl, rfl⟩)
theorem lp_X4_sendDown {r sp : Nat} {e : Int} (hs : zSl sh R b) (h5 : r < 5) (hsp : sp < b ∨ b + 7 ≤ sp) (hsh : sh[sp]? = some (20, 10)) (hI : ∀ j, j < 10 → -4 ≤ I sp j ∧ I sp j ≤ 30) : ∀ (m t : Nat) (S : zT), t + m = 10 → zSr S → zE X mX4_sendDown 0 0 13 [zR b, zI (r : Int), zR sp, zI e, zI 1, zI (t : Int)] [] sh (zsl I b S) L R (zEq [zI e] sh (zsl I b (zup (zup (sdn (I sp) m t S) 6 r e) 0 7 (zup (sdn (I sp) m t S) 6 r e 0 7 + 1))) L R)
  | 0, t, S, h, hr => by
    refine z_iload5 15 dX4_sendDown_13 rfl ?_
    refine z_bipush 17 dX4_sendDown_15 (by decide) rfl ?_
    refine z_icmp_ge 78 20 dX4_sendDown_17 (by decide) rfl (by omega) (by omega) (fun h17 => ?_) (fun hz => absurd hz (by omega))
    exact tl_X4_sendDown hs h5
  | m + 1, t, S, h, hr => by
    obtain ⟨⟨s0, s1, s2, s3, s4, s5, s6⟩, r0, r1, r2, r3, r4, r5⟩ := id hs
    have hw := hI t (by omega)
    have h1 := lft_sr hr t
    have hg := h1.2.1 t (by omega)
    refine z_iload5 15 dX4_sendDown_13 rfl ?_
    refine z_bipush 17 dX4_sendDown_15 (by decide) rfl ?_
    refine z_icmp_ge 78 20 dX4_sendDown_17 (by decide) rfl (by omega) (by omega) (fun hz => absurd hz (by omega)) (fun h17b => ?_)
    refine z_iload4 22 dX4_sendDown_20 rfl ?_
    refine z_if_eq 78 25 dX4_sendDown_22 (by decide) rfl (by omega) (fun hz => absurd hz (by omega)) (fun h22 => ?_)
    refine z_aload0 26 dX4_sendDown_25 rfl ?_
    refine z_iload5 28 dX4_sendDown_26 rfl ?_
    refine z_xVv1 31 dX4_sendDown_28 lk_X4_sendDown_76 (ct_X4_liftFrom hs hr (by omega)) rfl (Nat.le_of_ble_eq_true rfl) (Nat.le_of_ble_eq_true rfl) (by assumption) rfl rfl ?_
    refine z_aload2 32 dX4_sendDown_31 rfl ?_
    refine z_iload5 34 dX4_sendDown_32 rfl ?_
    refine z_ialdx 35 (t) dX4_sendDown_34 (by assumption) (by omega) (by omega) (zsl_o _ _ _ hsp _) rfl ?_
    refine z_bipush 37 dX4_sendDown_35 (by decide) rfl ?_
    refine z_icmp_eq 44 40 dX4_sendDown_37 (by decide) rfl (by omega) (by omega) (fun h37 => ?_) (fun h37 => ?_)
    · refine z_iconst 45 dX4_sendDown_44 rfl ?_
      refine z_istore4 47 dX4_sendDown_45 (Nat.le_of_ble_eq_true rfl) rfl rfl ?_
      refine z_iload4 49 dX4_sendDown_47 rfl ?_
      refine z_if_eq 72 52 dX4_sendDown_49 (by decide) rfl (by omega) (fun h49 => ?_) (fun hz => absurd hz (by omega))
      refine z_iinc5 75 dX4_sendDown_72 (Nat.le_of_ble_eq_true rfl) rfl rfl ?_
      refine z_goto 13 dX4_sendDown_75 (by decide) ?_
      refine z_iload5 15 dX4_sendDown_13 rfl ?_
      refine z_bipush 17 dX4_sendDown_15 (by decide) rfl ?_
      refine z_icmp_ge 78 20 dX4_sendDown_17 (by decide) rfl (by omega) (by omega) (fun h17b => ?_) (fun h17b => ?_)
      · rw [show sdn (I sp) (m + 1) t S = lft S t by rw [sdn, if_pos h37]]
        exact tl_X4_sendDown hs h5
      · refine z_iload4 22 dX4_sendDown_20 rfl ?_
        refine z_if_eq 78 25 dX4_sendDown_22 (by decide) rfl (by omega) (fun h22 => ?_) (fun hz => absurd hz (by omega))
        rw [show sdn (I sp) (m + 1) t S = lft S t by rw [sdn, if_pos h37]]
        exact tl_X4_sendDown hs h5
    · refine z_iconst 41 dX4_sendDown_40 rfl ?_
      refine z_goto 45 dX4_sendDown_41 (by decide) ?_
      refine z_istore4 47 dX4_sendDown_45 (Nat.le_of_ble_eq_true rfl) rfl rfl ?_
      refine z_iload4 49 dX4_sendDown_47 rfl ?_
      refine z_if_eq 72 52 dX4_sendDown_49 (by decide) rfl (by omega) (fun hz => absurd hz (by omega)) (fun h49 => ?_)
      refine z_aload0 53 dX4_sendDown_52 rfl ?_
      refine z_getR 56 dX4_sendDown_53 fl_RX4_9 (by assumption) (by assumption) rfl ?_
      refine z_iload5 58 dX4_sendDown_56 rfl ?_
      refine z_iconst 59 dX4_sendDown_58 rfl ?_
      refine z_aload0 60 dX4_sendDown_59 rfl ?_
      refine z_getR 63 dX4_sendDown_60 fl_RX4_9 (by assumption) (by assumption) rfl ?_
      refine z_iload5 65 dX4_sendDown_63 rfl ?_
      refine z_ialdx 66 (t) dX4_sendDown_65 (by assumption) (by omega) (by omega) (zsl_r _ _ _ (by decide) _) rfl ?_
      refine z_iconst 67 dX4_sendDown_66 rfl ?_
      refine z_isub 68 dX4_sendDown_67 rfl ?_
      refine z_mmax 71 dX4_sendDown_68 ml_RX4_80 sm_yJ9_max_7cf53 it_RJ9 co_yJ9_max_7cf53 (by decide) (Nat.le_of_ble_eq_true rfl) (by omega) (by omega) rfl ?_
      refine z_iastx 72 (t) dX4_sendDown_71 (by assumption) (by omega) (by omega) (zsl_up _ _ _ (by decide) _ _) rfl ?_
      refine z_iinc5 75 dX4_sendDown_72 (Nat.le_of_ble_eq_true rfl) rfl rfl ?_
      refine z_goto 13 dX4_sendDown_75 (by decide) ?_
      rw [show sdn (I sp) (m + 1) t S = sdn (I sp) m (t + 1) (zup (lft S t) 1 t (if 0 < lft S t 1 t - 1 then lft S t 1 t - 1 else 0)) by rw [sdn, if_neg h37]]
      exact lp_X4_sendDown hs h5 hsp hsh hI m (t + 1) _ (by omega) (zSr_up1 h1 t (by split <;> omega))
end SLIDED
section SLIDEE
variable {X : zXs} {sh : zH} {I L : zI2} {R : zR2} {S : zT} {b : Nat}
theorem ct_X4_sendDown {r sp : Nat} (hs : zSl sh R b) (hr : zSr S) (h5 : r < 5) (hsp : sp < b ∨ b + 7 ≤ sp) (hsh : sh[sp]? = some (20, 10)) : zE X mX4_sendDown 0 0 0 [zR b, zI (r : Int), zR sp, zX, zX, zX] [] sh (zsl I b S) L R (zEq [zI (sfe S r)] sh (zsl (zrow I sp (sft S r 10 0 2 (zfl (I sp) 10 (-4))).2) b (send S r)) L R) := by
  have s0 := hs.1.1
  have hw0 := (sft_0 S r (I sp)).2
  generalize hW : (sft S r 10 0 2 (zfl (I sp) 10 (-4))).2 = w at hw0
  have hfo := ct_X4_foretell (X := X) (I := I) (L := L) hs hr h5 hsp hsh
  rw [hW] at hfo
  have hrow : ∀ j, zrow I sp w sp j = w j := zrow_at I sp w
  have e : send S r = zup (zup (sdn (zrow I sp w sp) 10 0 S) 6 r (sfe S r)) 0 7 (zup (sdn (zrow I sp w sp) 10 0 S) 6 r (sfe S r) 0 7 + 1) := by
    unfold send
    rw [sdn_w (w := sfw S r) (w' := zrow I sp w sp) (fun j hj => by rw [hrow, hw0 j hj]) 10 0 S (by omega)]
  rw [e]
  refine z_aload0 1 dX4_sendDown_0 rfl ?_
  refine z_iload1 2 dX4_sendDown_1 rfl ?_
  refine z_aload2 3 dX4_sendDown_2 rfl ?_
  refine z_xV2 6 dX4_sendDown_3 lk_X4_sendDown_72 (hfo) rfl (Nat.le_of_ble_eq_true rfl) (Nat.le_of_ble_eq_true rfl) (by assumption) rfl rfl ?_
  refine z_istore3 7 dX4_sendDown_6 (Nat.le_of_ble_eq_true rfl) rfl rfl ?_
  refine z_iconst 8 dX4_sendDown_7 rfl ?_
  refine z_istore4 10 dX4_sendDown_8 (Nat.le_of_ble_eq_true rfl) rfl rfl ?_
  refine z_iconst 11 dX4_sendDown_10 rfl ?_
  refine z_istore5 13 dX4_sendDown_11 (Nat.le_of_ble_eq_true rfl) rfl rfl ?_
  exact lp_X4_sendDown hs h5 hsp hsh (fun j hj => by rw [hrow, hw0 j hj]; exact sfw_r S r j hj) 10 0 S rfl hr
theorem zand_31 (x : Int) : zand x 2147483647 = x % 2147483648 := by
  unfold zand
  rw [pk_and (Int32.ofInt x) (m := Int32.ofInt 2147483647) 31 (by decide)]
  have h1 : (Int32.ofInt x).toBitVec.toNat = (x % 4294967296).toNat := by
    show (BitVec.ofInt 32 x).toNat = _
    rw [BitVec.toNat_ofInt]
    rfl
  rw [h1]
  have h2 : (x % 4294967296).toNat % 2 ^ 31 < 2147483648 := Nat.mod_lt _ (by decide)
  rw [nI_toInt (by omega)]
  omega
def sdr (d : Int) : Int := (d * 1103515245 + 12345) % 2147483648
def sdoA (S : zT) : zT := zup S 0 8 (sdr (S 0 8))
def sdoB (S : zT) : zT := if 0 < S 0 6 then (if S 6 (S 0 8 / 65536 % S 0 6).toNat = 30 then send S (S 0 8 / 65536 % S 0 6).toNat else zup S 6 (S 0 8 / 65536 % S 0 6).toNat 30) else S
def sdoC (S : zT) : zT := zup S 1 (S 0 8 / 128 % 10).toNat (if S 1 (S 0 8 / 128 % 10).toNat + 1 < 9 then S 1 (S 0 8 / 128 % 10).toNat + 1 else 9)
def sdo (S : zT) : zT := sdoC (sdoB (sdoA S))
end SLIDEE
