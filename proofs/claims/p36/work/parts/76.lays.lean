/-! ===== the law's lays: the row told out of the script, typed, and read by the class alike ===== -/
def lT (sh : zH) (I L : zI2) (R : zR2) (A : zA) (N : Nat → Int) (V : zT) : Prop := (∃ P, zCA sh R P I L A) ∧ sh[157]? = some (20, 43) ∧ 158 ≤ sh.length ∧ I 157 = wpk N V
def tQ (sh : zH) (v : zV) (A : zA) (N : Nat → Int) (V : zT) : zQ := fun r' sh' I' L' R' => r' = [v] ∧ sh = sh' ∧ lT sh' I' L' R' A N V
abbrev tA (S0 : zT) (tp : List Int) (shs : Nat → Int × (Int × (Nat → Int))) : zA := (S0, ([], (none, (tp, shs))))
def yvt (X : zXs) (t : Nat) : Int := zshr (pcl X (1 + t / 4)) (7 * ((t : Int) % 4))
def yvr (X : zXs) (r : Nat) : Int := zshr (pcl X (4 + r / 2)) (15 * ((r : Int) % 2))
def ve1 (X : zXs) (sm : Int) (t : Nat) : Int := zand (yvt X t) 15 % 10 / sm
def ve2 (X : zXs) (sm : Int) (t : Nat) : Int := if zand (zshr (yvt X t) 4) 7 < 6 then 0 else 1 + zand (zshr (yvt X t) 2) 31 % 9 / sm
def vr3 (X : zXs) (r : Nat) : Int := zand (yvr X r) 7 % 5
def vr4 (X : zXs) (r : Nat) : Int := 1 + zand (zshr (yvr X r) 3) 31 % 20
def vr5 (X : zXs) (r : Nat) : Int := zand (zshr (yvr X r) 8) 7
def vst (X : zXs) (sm : Int) (t : Nat) (V : zT) : zT := zup (zup V 1 t (ve1 X sm t)) 2 t (ve2 X sm t)
def vsr0 (X : zXs) (r : Nat) (V : zT) : zT := zup (zup (zup (zup V 3 r (vr3 X r)) 4 r (vr4 X r)) 5 r (vr5 X r)) 6 r 30
def vsr (X : zXs) (r : Nat) (V : zT) : zT := zup (vsr0 X r V) 0 6 ((r : Int) + 1)
def lvt (X : zXs) (sm : Int) : Nat → Nat → zT → zT
  | 0, _, V => V
  | m + 1, t, V => lvt X sm m (t + 1) (vst X sm t V)
def lvr (X : zXs) : Nat → Nat → zT → zT
  | 0, _, V => V
  | m + 1, r, V => lvr X m (r + 1) (vsr X r V)
def vsm (X : zXs) : Int := 1 + zand (pcl X 0) 3
def vnr (X : zXs) : Int := 1 + zand (zshr (pcl X 0) 2) 7 % 5
def vfin (X : zXs) : zT := lvr X (vnr X).toNat 0 (lvt X (vsm X) 10 0 zz)
theorem zand_r {x : Int} (m k : Nat) (hm : m = 2 ^ k - 1) (hk : k ≤ 30) : 0 ≤ zand x (m : Int) ∧ zand x (m : Int) ≤ (m : Int) := by
  have h2 : (2 : Nat) ^ k ≤ 2 ^ 30 := Nat.pow_le_pow_right (by omega) hk
  have h3 := Nat.two_pow_pos k
  unfold zand
  rw [pk_and (Int32.ofInt x) (m := Int32.ofInt (m : Int)) k (by rw [zb_nI, pk_tn (by omega), hm])]
  have h4 : (Int32.ofInt x).toBitVec.toNat % 2 ^ k < 2 ^ k := Nat.mod_lt _ h3
  rw [nI_toInt (by omega)]
  omega
theorem div_r {a s : Int} {n : Int} (h : 0 ≤ a ∧ a ≤ n) (hs : 0 < s) : 0 ≤ a / s ∧ a / s ≤ n := ⟨Int.ediv_nonneg h.1 (by omega), Int.le_trans (Int.ediv_le_self s h.1) h.2⟩
theorem vsm_r (X : zXs) : 1 ≤ vsm X ∧ vsm X ≤ 4 := by
  have : 0 ≤ zand (pcl X 0) 3 ∧ zand (pcl X 0) 3 ≤ 3 := zand_r 3 2 rfl (by omega)
  unfold vsm
  omega
theorem vnr_r (X : zXs) : 1 ≤ vnr X ∧ vnr X ≤ 5 := by
  have : 0 ≤ zand (zshr (pcl X 0) 2) 7 ∧ zand (zshr (pcl X 0) 2) 7 ≤ 7 := zand_r 7 3 rfl (by omega)
  unfold vnr
  omega
theorem ve1_r (X : zXs) {sm : Int} (hs : 1 ≤ sm) (t : Nat) : 0 ≤ ve1 X sm t ∧ ve1 X sm t ≤ 9 := by
  have : 0 ≤ zand (yvt X t) 15 ∧ zand (yvt X t) 15 ≤ 15 := zand_r 15 4 rfl (by omega)
  exact div_r (by omega) (by omega)
theorem ve2_r (X : zXs) {sm : Int} (hs : 1 ≤ sm) (t : Nat) : 0 ≤ ve2 X sm t ∧ ve2 X sm t ≤ 9 := by
  have h : 0 ≤ zand (zshr (yvt X t) 2) 31 ∧ zand (zshr (yvt X t) 2) 31 ≤ 31 := zand_r 31 5 rfl (by omega)
  have h2 := div_r (a := zand (zshr (yvt X t) 2) 31 % 9) (n := 8) (s := sm) (by omega) (by omega)
  unfold ve2
  split <;> omega
theorem vr_r (X : zXs) (r : Nat) : (0 ≤ vr3 X r ∧ vr3 X r ≤ 4) ∧ (1 ≤ vr4 X r ∧ vr4 X r ≤ 20) ∧ (0 ≤ vr5 X r ∧ vr5 X r ≤ 7) := by
  have h1 : 0 ≤ zand (yvr X r) 7 ∧ zand (yvr X r) 7 ≤ 7 := zand_r 7 3 rfl (by omega)
  have h2 : 0 ≤ zand (zshr (yvr X r) 3) 31 ∧ zand (zshr (yvr X r) 3) 31 ≤ 31 := zand_r 31 5 rfl (by omega)
  have h3 : 0 ≤ zand (zshr (yvr X r) 8) 7 ∧ zand (zshr (yvr X r) 8) 7 ≤ 7 := zand_r 7 3 rfl (by omega)
  unfold vr3 vr4 vr5
  omega
/-- the row, r riders told -/
def vI (V : zT) (r : Nat) : Prop := zSr V ∧ V 0 6 = (r : Int) ∧ V 0 7 = 0 ∧ ∀ q, q < r → 1 ≤ V 4 q ∧ V 6 q = 30
theorem vI_t {V : zT} (X : zXs) {sm : Int} (hs : 1 ≤ sm) (t : Nat) (h : vI V 0) : vI (vst X sm t V) 0 := by
  obtain ⟨h1, h2, h3, h4⟩ := h
  have e0 : vst X sm t V 0 = V 0 := by unfold vst; rw [zup_row _ _ (by decide), zup_row _ _ (by decide)]
  exact ⟨zSr_up2 (zSr_up1 h1 t (ve1_r X hs t)) t (ve2_r X hs t), by rw [e0]; exact h2, by rw [e0]; exact h3, fun q hq => by omega⟩
theorem vsr_s (X : zXs) (V : zT) (r : Nat) : (∀ a, a = 1 ∨ a = 2 → vsr X r V a = V a) ∧ vsr X r V 0 6 = (r : Int) + 1 ∧ vsr X r V 0 7 = V 0 7 ∧ (∀ q, q ≠ r → vsr X r V 3 q = V 3 q ∧ vsr X r V 4 q = V 4 q ∧ vsr X r V 5 q = V 5 q ∧ vsr X r V 6 q = V 6 q) ∧ vsr X r V 3 r = vr3 X r ∧ vsr X r V 4 r = vr4 X r ∧ vsr X r V 5 r = vr5 X r ∧ vsr X r V 6 r = 30 := by
  unfold vsr vsr0 zup
  refine ⟨fun a ha => ?_, ?_, ?_, fun q hq => ?_, ?_, ?_, ?_, ?_⟩
  · rcases ha with h | h <;> subst h <;> (funext c; simp)
  all_goals simp
  all_goals simp [hq]
theorem vI_r {V : zT} (X : zXs) {r : Nat} (hr : r < 5) (h : vI V r) : vI (vsr X r V) (r + 1) := by
  obtain ⟨h1, h2, h3, h4⟩ := h
  obtain ⟨s1, s2, s3, s4, s5, s6, s7, s8⟩ := vsr_s X V r
  obtain ⟨r3, r4, r5⟩ := vr_r X r
  refine ⟨zSr_up0 (zSr_up6 (zSr_up5 (zSr_up4 (zSr_up3 h1 r r3) r (by omega)) r r5) r (by omega)) (Or.inr (by omega)), by rw [s2]; omega, s3.trans h3, fun q hq => ?_⟩
  by_cases e : q = r
  · subst e; rw [s6, s8]; exact ⟨r4.1, rfl⟩
  · rw [(s4 q e).2.1, (s4 q e).2.2.2]
    exact h4 q (by omega)
theorem lvt_I (X : zXs) {sm : Int} (hs : 1 ≤ sm) : ∀ (m t : Nat) (V : zT), vI V 0 → vI (lvt X sm m t V) 0
  | 0, _, _, h => h
  | m + 1, t, V, h => lvt_I X hs m (t + 1) _ (vI_t X hs t h)
theorem lvr_I (X : zXs) : ∀ (m r : Nat) (V : zT), r + m ≤ 5 → vI V r → vI (lvr X m r V) (r + m)
  | 0, _, _, _, h => h
  | m + 1, r, V, hr, h => by
    have := lvr_I X m (r + 1) _ (by omega) (vI_r X (by omega) h)
    rw [show r + (m + 1) = r + 1 + m by omega]
    exact this
theorem vfin_I (X : zXs) : vI (vfin X) (vnr X).toNat := by
  have hn := vnr_r X
  have := lvr_I X (vnr X).toNat 0 _ (by omega) (lvt_I X (vsm_r X).1 10 0 zz ⟨zz_sr, rfl, rfl, fun q hq => by omega⟩)
  rw [Nat.zero_add] at this
  exact this
theorem vI_gd {V : zT} {n : Nat} {d : Int} (h : vI V n) (hn : 1 ≤ n) (hd : 0 ≤ d ∧ d ≤ 2147483647) : gd (zup V 0 8 d) := by
  obtain ⟨h1, h2, h3, h4⟩ := h
  have e6 : zup V 0 8 d 0 6 = V 0 6 := zup_ne _ _ (by omega)
  have e7 : zup V 0 8 d 0 7 = V 0 7 := zup_ne _ _ (by omega)
  have er : ∀ a, a ≠ 0 → zup V 0 8 d a = V a := fun a ha => zup_row _ _ ha
  refine ⟨⟨zSr_up0 h1 (Or.inl (by decide)), by rw [e7]; omega, by rw [zup_at]; exact hd⟩, by rw [e6]; omega, fun p q hp _ h10 h19 _ => ?_, fun q hq => ?_⟩
  · rw [e6] at hp
    rw [er 6 (by decide)] at h10 h19
    have := (h4 p (by omega)).2
    omega
  · rw [e6] at hq
    rw [er 4 (by decide), er 6 (by decide)]
    have := h4 q (by omega)
    exact ⟨this.1, Or.inl this.2⟩
theorem ttx_c {V V' : zT} (h : ∀ a, a = 1 ∨ a = 2 → V' a = V a) : ∀ (m t : Nat), ttx V' m t = ttx V m t
  | 0, _ => rfl
  | m + 1, t => by
    unfold ttx
    rw [h 1 (Or.inl rfl), h 2 (Or.inr rfl), ttx_c h m (t + 1)]
theorem rtx_c {V V' : zT} {r : Nat} (h : V' 3 r = V 3 r ∧ V' 4 r = V 4 r ∧ V' 5 r = V 5 r) : rtx V' r = rtx V r := by
  unfold rtx
  rw [h.1, h.2.1, h.2.2]
theorem rts_c {V V' : zT} : ∀ (m r : Nat), (∀ q, r ≤ q → q < r + m → V' 3 q = V 3 q ∧ V' 4 q = V 4 q ∧ V' 5 q = V 5 q) → rts V' m r = rts V m r
  | 0, _, _ => rfl
  | m + 1, r, h => by
    unfold rts
    rw [rtx_c (h r (by omega) (by omega)), rts_c m (r + 1) (fun q a b => h q (by omega) (by omega))]
theorem rts_sn (V : zT) : ∀ (m r : Nat), rts V (m + 1) r = rts V m r ++ rtx V (r + m)
  | 0, r => by
    show rtx V r ++ [] = [] ++ rtx V (r + 0)
    rw [List.append_nil, List.nil_append, Nat.add_zero]
  | m + 1, r => by
    show rtx V r ++ rts V (m + 1) (r + 1) = (rtx V r ++ rts V m (r + 1)) ++ rtx V (r + (m + 1))
    rw [rts_sn V m (r + 1), List.append_assoc, show r + 1 + m = r + (m + 1) by omega]
section LAYS
variable {X : zXs} {sh : zH} {I L I' L' : zI2} {R R' : zR2} {N : Nat → Int} {V S0 : zT} {A A' : zA} {tp : List Int} {shs : Nat → Int × (Int × (Nat → Int))}
theorem lT_c (hl : lT sh I L R A N V) (h : pH sh I L R I' L' R' A') : lT sh I' L' R' A' N V := ⟨h.1, hl.2.1, hl.2.2.1, ((h.2 157 (by decide)).1).trans hl.2.2.2⟩
theorem lT_up {k i j : Nat} {v : Int} (hl : lT sh I L R A N V) (h : wix k i j) : lT sh (zup I 157 k v) L R A N (zup V i j v) := by
  obtain ⟨⟨P, hc⟩, h1, h2, h3⟩ := hl
  refine ⟨⟨P, pCA_lo hc (fun a ha => ⟨zup_row _ _ (by omega), rfl⟩)⟩, h1, h2, ?_⟩
  rw [← wpk_up N V h v, ← h3]
  funext c
  unfold zup
  by_cases hk : c = k
  · rw [if_pos ⟨rfl, hk⟩, if_pos hk]
  · rw [if_neg (fun z => hk z.2), if_neg hk]
theorem lT_2 {v : Int} (hl : lT sh I L R A N V) : lT sh (zup I 157 2 v) L R A (fun q => if q = 2 then v else N q) V := by
  obtain ⟨⟨P, hc⟩, h1, h2, h3⟩ := hl
  refine ⟨⟨P, pCA_lo hc (fun a ha => ⟨zup_row _ _ (by omega), rfl⟩)⟩, h1, h2, ?_⟩
  funext c
  unfold zup
  by_cases hk : c = 2
  · subst hk
    rw [if_pos ⟨rfl, rfl⟩]
    rfl
  · rw [if_neg (fun z => hk z.2), h3]
    unfold wpk
    simp only [if_neg hk]
theorem lT_at (hl : lT sh I L R A N V) (k : Nat) : I 157 k = wpk N V k := by rw [hl.2.2.2]
theorem lT_r3 (hl : lT sh I L R A N V) {t : Nat} (h : t < 10) : I 157 (3 + t) = V 1 t := (lT_at hl _).trans (wpk_r _ _ h)
theorem lT_r13 (hl : lT sh I L R A N V) {t : Nat} (h : t < 10) : I 157 (13 + t) = V 2 t := (lT_at hl _).trans (wpk_b _ _ h)
theorem lT_r23 (hl : lT sh I L R A N V) {r : Nat} (h : r < 5) : I 157 (23 + 4 * r) = V 3 r := (lT_at hl _).trans (wpk_k N V (w := 0) h (by decide))
theorem lT_r24 (hl : lT sh I L R A N V) {r : Nat} (h : r < 5) : I 157 (24 + 4 * r) = V 4 r := by
  rw [show 24 + 4 * r = 23 + 4 * r + 1 by omega]
  exact (lT_at hl _).trans (wpk_k _ _ h (by decide))
theorem lT_r25 (hl : lT sh I L R A N V) {r : Nat} (h : r < 5) : I 157 (25 + 4 * r) = V 5 r := by
  rw [show 25 + 4 * r = 23 + 4 * r + 2 by omega]
  exact (lT_at hl _).trans (wpk_k _ _ h (by decide))
theorem lT_s0 (hl : lT sh I L R A N V) : sh[0]? = some (6, 12) := by
  obtain ⟨⟨P, hc⟩, _⟩ := hl
  exact hc.1.1.1
theorem pt_type {x : Int} (hl : lT sh I L R (tA S0 tp shs) N V) (hx : 32 ≤ x ∧ x ≤ 126) (hn : tp.length < 70) : zE X mX6_type 0 0 0 [zR 0, zI x] [] sh I L R (tQ sh (zI ((tp.length : Int) + 1)) (tA S0 (tp ++ [x]) shs) N V) := by
  obtain ⟨⟨P, hc⟩, _⟩ := id hl
  refine zE_mo (fun r sh' I' L' R' hq => ?_) (pc_type (pH.rf hc) hx hn)
  obtain ⟨e1, e2, h3⟩ := hq
  subst e2
  exact ⟨e1, rfl, lT_c hl h3⟩
theorem ct_L_number {v : Int} (hv : 1 ≤ v ∧ v ≤ 20) (hl : lT sh I L R (tA S0 tp shs) N V) (hn : tp.length ≤ 68) : zE X mL_number 0 0 0 [zR 0, zI v] [] sh I L R (tQ sh (zI 1) (tA S0 (tp ++ ntx v) shs) N V) := by
  have s0 := lT_s0 hl
  by_cases h10 : v < 10
  · have e : ntx v = [48 + v % 10] := by unfold ntx; rw [if_pos h10]
    rw [e]
    refine z_iload1 1 dL_number_0 rfl ?_
    refine z_bipush 3 dL_number_1 (by decide) rfl ?_
    refine z_icmp_lt 20 6 dL_number_3 (by decide) rfl (by omega) (by omega) (fun h3 => ?_) (fun hz => absurd hz (by omega))
    refine z_aload0 21 dL_number_20 rfl ?_
    refine z_bipush 23 dL_number_21 (by decide) rfl ?_
    refine z_iload1 24 dL_number_23 rfl ?_
    refine z_bipush 26 dL_number_24 (by decide) rfl ?_
    refine z_irem 27 dL_number_26 (by omega) (by omega) rfl ?_
    refine z_iadd 28 dL_number_27 rfl ?_
    refine z_pV1 31 dL_number_28 lk_L_number_9 (pt_type hl (by omega) (by omega)) rfl (Nat.le_of_ble_eq_true rfl) (Nat.le_of_ble_eq_true rfl) (by assumption) rfl rfl (fun r0 sh0 I0 L0 R0 hpq => ?_)
    obtain ⟨rfl, rfl, hl⟩ := hpq
    refine z_if_le 38 34 dL_number_31 (by decide) rfl (by omega) (fun hz => absurd hz (by omega)) (fun h31 => ?_)
    refine z_iconst 35 dL_number_34 rfl ?_
    refine z_goto 39 dL_number_35 (by decide) ?_
    exact z_zreturn dL_number_39 rfl (by omega) (⟨rfl, rfl, hl⟩)
  · have e : tp ++ ntx v = (tp ++ [48 + v / 10]) ++ [48 + v % 10] := by unfold ntx; rw [if_neg h10, List.append_assoc]; rfl
    rw [e]
    have lq : (tp ++ [48 + v / 10]).length = tp.length + 1 := by rw [List.length_append]; rfl
    refine z_iload1 1 dL_number_0 rfl ?_
    refine z_bipush 3 dL_number_1 (by decide) rfl ?_
    refine z_icmp_lt 20 6 dL_number_3 (by decide) rfl (by omega) (by omega) (fun hz => absurd hz (by omega)) (fun h3 => ?_)
    refine z_aload0 7 dL_number_6 rfl ?_
    refine z_bipush 9 dL_number_7 (by decide) rfl ?_
    refine z_iload1 10 dL_number_9 rfl ?_
    refine z_bipush 12 dL_number_10 (by decide) rfl ?_
    refine z_idiv 13 dL_number_12 (by omega) (by omega) rfl ?_
    refine z_iadd 14 dL_number_13 rfl ?_
    refine z_pV1 17 dL_number_14 lk_L_number_9 (pt_type hl (by omega) (by omega)) rfl (Nat.le_of_ble_eq_true rfl) (Nat.le_of_ble_eq_true rfl) (by assumption) rfl rfl (fun r0 sh0 I0 L0 R0 hpq => ?_)
    obtain ⟨rfl, rfl, hl⟩ := hpq
    refine z_if_le 38 20 dL_number_17 (by decide) rfl (by omega) (fun hz => absurd hz (by omega)) (fun h17 => ?_)
    refine z_aload0 21 dL_number_20 rfl ?_
    refine z_bipush 23 dL_number_21 (by decide) rfl ?_
    refine z_iload1 24 dL_number_23 rfl ?_
    refine z_bipush 26 dL_number_24 (by decide) rfl ?_
    refine z_irem 27 dL_number_26 (by omega) (by omega) rfl ?_
    refine z_iadd 28 dL_number_27 rfl ?_
    refine z_pV1 31 dL_number_28 lk_L_number_9 (pt_type hl (by omega) (by omega)) rfl (Nat.le_of_ble_eq_true rfl) (Nat.le_of_ble_eq_true rfl) (by assumption) rfl rfl (fun r0 sh0 I0 L0 R0 hpq => ?_)
    obtain ⟨rfl, rfl, hl⟩ := hpq
    refine z_if_le 38 34 dL_number_31 (by decide) rfl (by omega) (fun hz => absurd hz (by omega)) (fun h31 => ?_)
    refine z_iconst 35 dL_number_34 rfl ?_
    refine z_goto 39 dL_number_35 (by decide) ?_
    exact z_zreturn dL_number_39 rfl (by omega) (⟨rfl, rfl, hl⟩)
theorem lp_L_turns (hV : zSr V) : ∀ (m t : Nat) (tp : List Int) (I L : zI2) (R : zR2), t + m = 10 → tp.length + 3 * m ≤ 60 → lT sh I L R (tA S0 tp shs) N V → zE X mL_turns 0 0 4 [zR 0, zR 157, zI 1, zI (t : Int)] [] sh I L R (tQ sh (zI 1) (tA S0 (tp ++ ttx V m t) shs) N V)
  | 0, t, tp, I, L, R, hm, hn, hl => by
    rw [show ttx V 0 t = [] from rfl, List.append_nil]
    refine z_iload3 5 dL_turns_4 rfl ?_
    refine z_bipush 7 dL_turns_5 (by decide) rfl ?_
    refine z_icmp_ge 75 10 dL_turns_7 (by decide) rfl (by omega) (by omega) (fun h7 => ?_) (fun hz => absurd hz (by omega))
    refine z_iload2 76 dL_turns_75 rfl ?_
    exact z_zreturn dL_turns_76 rfl (by omega) (⟨rfl, rfl, hl⟩)
  | m + 1, t, tp, I, L, R, hm, hn, hl => by
    have s0 := lT_s0 hl
    have s157 := hl.2.1
    have g1 := hV.2.1 t (by omega)
    have g2 := hV.2.2.1 t (by omega)
    have l1 : ∀ (l : List Int) (x : Int), (l ++ [x]).length = l.length + 1 := fun l x => by rw [List.length_append]; rfl
    by_cases hb : V 2 t = 0
    · have e : tp ++ ttx V (m + 1) t = (tp ++ [48 + V 1 t]) ++ ttx V m (t + 1) := by
        show tp ++ ((48 + V 1 t) :: ((if V 2 t = 0 then [] else [94, 48 + V 2 t]) ++ ttx V m (t + 1))) = _
        rw [if_pos hb, List.append_assoc]
        rfl
      rw [e]
      have kr := fun I L R => lp_L_turns hV m (t + 1) (tp ++ [48 + V 1 t]) I L R (by omega) (by rw [l1]; omega)
      refine z_iload3 5 dL_turns_4 rfl ?_
      refine z_bipush 7 dL_turns_5 (by decide) rfl ?_
      refine z_icmp_ge 75 10 dL_turns_7 (by decide) rfl (by omega) (by omega) (fun hz => absurd hz (by omega)) (fun h7 => ?_)
      refine z_iload2 11 dL_turns_10 rfl ?_
      refine z_if_eq 75 14 dL_turns_11 (by decide) rfl (by omega) (fun hz => absurd hz ((by omega))) (fun h11 => ?_)
      refine z_aload0 15 dL_turns_14 rfl ?_
      refine z_bipush 17 dL_turns_15 (by decide) rfl ?_
      refine z_aload1 18 dL_turns_17 rfl ?_
      refine z_iconst 19 dL_turns_18 rfl ?_
      refine z_iload3 20 dL_turns_19 rfl ?_
      refine z_iadd 21 dL_turns_20 rfl ?_
      refine z_ialdx 22 (3 + t) dL_turns_21 (by assumption) (by omega) (by omega) (lT_r3 hl (by omega)) rfl ?_
      refine z_iadd 23 dL_turns_22 rfl ?_
      refine z_pV1 26 dL_turns_23 lk_L_turns_9 (pt_type hl (by omega) (by omega)) rfl (Nat.le_of_ble_eq_true rfl) (Nat.le_of_ble_eq_true rfl) (by assumption) rfl rfl (fun r0 sh0 I0 L0 R0 hpq => ?_)
      obtain ⟨rfl, rfl, hl⟩ := hpq
      refine z_if_le 67 29 dL_turns_26 (by decide) rfl (by omega) (fun hz => absurd hz (by omega)) (fun h26 => ?_)
      refine z_aload1 30 dL_turns_29 rfl ?_
      refine z_bipush 32 dL_turns_30 (by decide) rfl ?_
      refine z_iload3 33 dL_turns_32 rfl ?_
      refine z_iadd 34 dL_turns_33 rfl ?_
      refine z_ialdx 35 (13 + t) dL_turns_34 (by assumption) (by omega) (by omega) (lT_r13 hl (by omega)) rfl ?_
      refine z_if_eq 63 38 dL_turns_35 (by decide) rfl (by omega) (fun h35 => ?_) (fun hz => absurd hz (by omega))
      refine z_iconst 64 dL_turns_63 rfl ?_
      refine z_goto 68 dL_turns_64 (by decide) ?_
      refine z_istore2 69 dL_turns_68 (Nat.le_of_ble_eq_true rfl) rfl rfl ?_
      refine z_iinc3 72 dL_turns_69 (Nat.le_of_ble_eq_true rfl) rfl rfl ?_
      refine z_goto 4 dL_turns_72 (by decide) ?_
      exact kr _ _ _ hl
    · have e : tp ++ ttx V (m + 1) t = (((tp ++ [48 + V 1 t]) ++ [94]) ++ [48 + V 2 t]) ++ ttx V m (t + 1) := by
        show tp ++ ((48 + V 1 t) :: ((if V 2 t = 0 then [] else [94, 48 + V 2 t]) ++ ttx V m (t + 1))) = _
        rw [if_neg hb, List.append_assoc, List.append_assoc, List.append_assoc]
        rfl
      rw [e]
      have lq := l1 tp (48 + V 1 t)
      have lq2 := l1 (tp ++ [48 + V 1 t]) 94
      have kr := fun I L R => lp_L_turns hV m (t + 1) (((tp ++ [48 + V 1 t]) ++ [94]) ++ [48 + V 2 t]) I L R (by omega) (by rw [l1, l1, l1]; omega)
      refine z_iload3 5 dL_turns_4 rfl ?_
      refine z_bipush 7 dL_turns_5 (by decide) rfl ?_
      refine z_icmp_ge 75 10 dL_turns_7 (by decide) rfl (by omega) (by omega) (fun hz => absurd hz (by omega)) (fun h7 => ?_)
      refine z_iload2 11 dL_turns_10 rfl ?_
      refine z_if_eq 75 14 dL_turns_11 (by decide) rfl (by omega) (fun hz => absurd hz ((by omega))) (fun h11 => ?_)
      refine z_aload0 15 dL_turns_14 rfl ?_
      refine z_bipush 17 dL_turns_15 (by decide) rfl ?_
      refine z_aload1 18 dL_turns_17 rfl ?_
      refine z_iconst 19 dL_turns_18 rfl ?_
      refine z_iload3 20 dL_turns_19 rfl ?_
      refine z_iadd 21 dL_turns_20 rfl ?_
      refine z_ialdx 22 (3 + t) dL_turns_21 (by assumption) (by omega) (by omega) (lT_r3 hl (by omega)) rfl ?_
      refine z_iadd 23 dL_turns_22 rfl ?_
      refine z_pV1 26 dL_turns_23 lk_L_turns_9 (pt_type hl (by omega) (by omega)) rfl (Nat.le_of_ble_eq_true rfl) (Nat.le_of_ble_eq_true rfl) (by assumption) rfl rfl (fun r0 sh0 I0 L0 R0 hpq => ?_)
      obtain ⟨rfl, rfl, hl⟩ := hpq
      refine z_if_le 67 29 dL_turns_26 (by decide) rfl (by omega) (fun hz => absurd hz (by omega)) (fun h26 => ?_)
      refine z_aload1 30 dL_turns_29 rfl ?_
      refine z_bipush 32 dL_turns_30 (by decide) rfl ?_
      refine z_iload3 33 dL_turns_32 rfl ?_
      refine z_iadd 34 dL_turns_33 rfl ?_
      refine z_ialdx 35 (13 + t) dL_turns_34 (by assumption) (by omega) (by omega) (lT_r13 hl (by omega)) rfl ?_
      refine z_if_eq 63 38 dL_turns_35 (by decide) rfl (by omega) (fun hz => absurd hz (hb)) (fun h35 => ?_)
      refine z_aload0 39 dL_turns_38 rfl ?_
      refine z_bipush 41 dL_turns_39 (by decide) rfl ?_
      refine z_pV1 44 dL_turns_41 lk_L_turns_9 (pt_type hl (by omega) (by omega)) rfl (Nat.le_of_ble_eq_true rfl) (Nat.le_of_ble_eq_true rfl) (by assumption) rfl rfl (fun r0 sh0 I0 L0 R0 hpq => ?_)
      obtain ⟨rfl, rfl, hl⟩ := hpq
      refine z_if_le 67 47 dL_turns_44 (by decide) rfl (by omega) (fun hz => absurd hz (by omega)) (fun h44 => ?_)
      refine z_aload0 48 dL_turns_47 rfl ?_
      refine z_bipush 50 dL_turns_48 (by decide) rfl ?_
      refine z_aload1 51 dL_turns_50 rfl ?_
      refine z_bipush 53 dL_turns_51 (by decide) rfl ?_
      refine z_iload3 54 dL_turns_53 rfl ?_
      refine z_iadd 55 dL_turns_54 rfl ?_
      refine z_ialdx 56 (13 + t) dL_turns_55 (by assumption) (by omega) (by omega) (lT_r13 hl (by omega)) rfl ?_
      refine z_iadd 57 dL_turns_56 rfl ?_
      refine z_pV1 60 dL_turns_57 lk_L_turns_9 (pt_type hl (by omega) (by omega)) rfl (Nat.le_of_ble_eq_true rfl) (Nat.le_of_ble_eq_true rfl) (by assumption) rfl rfl (fun r0 sh0 I0 L0 R0 hpq => ?_)
      obtain ⟨rfl, rfl, hl⟩ := hpq
      refine z_if_le 67 63 dL_turns_60 (by decide) rfl (by omega) (fun hz => absurd hz (by omega)) (fun h60 => ?_)
      refine z_iconst 64 dL_turns_63 rfl ?_
      refine z_goto 68 dL_turns_64 (by decide) ?_
      refine z_istore2 69 dL_turns_68 (Nat.le_of_ble_eq_true rfl) rfl rfl ?_
      refine z_iinc3 72 dL_turns_69 (Nat.le_of_ble_eq_true rfl) rfl rfl ?_
      refine z_goto 4 dL_turns_72 (by decide) ?_
      exact kr _ _ _ hl
theorem ct_L_turns (hV : zSr V) (hl : lT sh I L R (tA S0 tp shs) N V) (hn : tp.length ≤ 30) : zE X mL_turns 0 0 0 [zR 0, zR 157, zX, zX] [] sh I L R (tQ sh (zI 1) (tA S0 (tp ++ ttx V 10 0) shs) N V) := by
  refine z_iconst 1 dL_turns_0 rfl ?_
  refine z_istore2 2 dL_turns_1 (Nat.le_of_ble_eq_true rfl) rfl rfl ?_
  refine z_iconst 3 dL_turns_2 rfl ?_
  refine z_istore3 4 dL_turns_3 (Nat.le_of_ble_eq_true rfl) rfl rfl ?_
  exact lp_L_turns hV 10 0 tp _ _ _ rfl (by omega) hl
end LAYS
