/-! ===== a Rain at place q: its object, two rows of 31 longs behind it (ways W, waysBehind B) ===== -/
def zRa (sh : zH) (R : zR2) (q : Nat) : Prop := sh[q]? = some (2, 2) ∧ sh[q + 1]? = some (21, 31) ∧ sh[q + 2]? = some (21, 31) ∧ R q 0 = some (q + 1) ∧ R q 1 = some (q + 2)
def zln (L : zI2) (q : Nat) (W B : Nat → Int) : zI2 := zrow (zrow L (q + 1) W) (q + 2) B
theorem zln_W (L : zI2) (q : Nat) (W B : Nat → Int) (j : Nat) : zln L q W B (q + 1) j = W j := by simp [zln, zrow]
theorem zln_WR (L : zI2) (q : Nat) (W B : Nat → Int) : zln L q W B (q + 1) = W := funext (zln_W L q W B)
theorem zln_B (L : zI2) (q : Nat) (W B : Nat → Int) (j : Nat) : zln L q W B (q + 2) j = B j := by simp [zln, zrow]
theorem zln_BR (L : zI2) (q : Nat) (W B : Nat → Int) : zln L q W B (q + 2) = B := funext (zln_B L q W B)
theorem zln_self (L : zI2) (q : Nat) : zln L q (L (q + 1)) (L (q + 2)) = L := by unfold zln; rw [zrow_self, zrow_self]
theorem zln_rowW (L : zI2) (q : Nat) (W B f : Nat → Int) : zrow (zln L q W B) (q + 1) f = zln L q f B := by
  funext a c
  unfold zln zrow
  by_cases h : a = q + 1
  · simp [h]
  · simp [h]
theorem zln_rowB (L : zI2) (q : Nat) (W B f : Nat → Int) : zrow (zln L q W B) (q + 2) f = zln L q W f := by unfold zln; rw [zrow_row]
theorem zln_upW (L : zI2) (q : Nat) (W B : Nat → Int) (j : Nat) (v : Int) : zup (zln L q W B) (q + 1) j v = zln L q (fun c => if c = j then v else W c) B := by
  funext a c
  unfold zln zrow zup
  by_cases h : a = q + 1
  · subst h
    by_cases h2 : c = j <;> simp [h2]
  · simp [h]
theorem zln_upB (L : zI2) (q : Nat) (W B : Nat → Int) (j : Nat) (v : Int) : zup (zln L q W B) (q + 2) j v = zln L q W (fun c => if c = j then v else B c) := by
  unfold zln
  rw [zrow_up]
def rad (B : Nat → Int) (x m : Int) : Nat → Int := if 1 ≤ x ∧ x ≤ 30 then (fun c => if c = x.toNat then B x.toNat + m else B c) else B
def rps (S : zT) (t r : Nat) (c d wt : Int) (W : Nat → Int) : Nat → Nat → (Nat → Int) → (Nat → Int)
  | 0, _, B => B
  | m + 1, s, B => if 0 < W s then rps S t r c d wt W m (s + 1) (rad (rad B (sbh S t r (s : Int) d) (W s * (10 - c))) (sbh S t r (s : Int) wt) (W s * c)) else rps S t r c d wt W m (s + 1) B
def rwet (d : Int) : Int := if d + 2 < 9 then d + 2 else 9
def rpt (S : zT) (r : Nat) (c : Int) (t : Nat) (V : (Nat → Int) × (Nat → Int)) : (Nat → Int) × (Nat → Int) :=
  (zcp (rps S t r c (S 1 t) (rwet (S 1 t)) V.1 30 1 (zfl V.2 31 0)) V.1 0 0 31, rps S t r c (S 1 t) (rwet (S 1 t)) V.1 30 1 (zfl V.2 31 0))
def rit (S : zT) (r : Nat) (c : Int) (V : (Nat → Int) × (Nat → Int)) : Nat → (Nat → Int) × (Nat → Int)
  | 0 => V
  | t + 1 => rpt S r c t (rit S r c V t)
def rv0 (W B : Nat → Int) : (Nat → Int) × (Nat → Int) := (fun j => if j = 2 then 1 else zfl W 31 0 j, B)
def rsm (W : Nat → Int) : Nat → Nat → Int → Int
  | 0, _, x => x
  | m + 1, s, x => rsm W m (s + 1) (x + W s)
section RAIN
variable {X : zXs} {sh : zH} {I L : zI2} {R : zR2} {S : zT} {q b : Nat}
theorem ct_X2_addWays {x m : Int} {W B : Nat → Int} (hs : zRa sh R q) (hx : -1000 ≤ x ∧ x ≤ 1000) : zE X mX2_addWays 0 0 0 [zR q, zI x, zL m, zX] [] sh I (zln L q W B) R (zEq [] sh I (zln L q W (rad B x m)) R) := by
  obtain ⟨s0, s1, s2, r0, r1⟩ := id hs
  have hz := zwi_r x 1 30
  refine z_iload1 1 dX2_addWays_0 rfl ?_
  refine z_iconst 2 dX2_addWays_1 rfl ?_
  refine z_bipush 4 dX2_addWays_2 (by decide) rfl ?_
  refine z_xSN3 7 dX2_addWays_4 lk_X2_addWays_54 (ct_X6_within (by omega) (by omega) (by omega)) rfl (Nat.le_of_ble_eq_true rfl) (Nat.le_of_ble_eq_true rfl) rfl ?_
  refine z_if_eq 20 10 dX2_addWays_7 (by decide) rfl (by omega) (fun h7 => ?_) (fun h7 => ?_)
  · exact z_return dX2_addWays_20 rfl (⟨rfl, rfl, rfl, by unfold rad; first | rw [if_neg (zwi_eq0 h7)] | rw [if_pos h8], rfl⟩)
  · have h8 := zwi_ne0 h7
    refine z_aload0 11 dX2_addWays_10 rfl ?_
    refine z_getR 14 dX2_addWays_11 fl_RX2_15 (by assumption) (by assumption) rfl ?_
    refine z_iload1 15 dX2_addWays_14 rfl ?_
    refine z_dup2 16 dX2_addWays_15 rfl rfl rfl ?_
    refine z_laldx 17 (x.toNat) dX2_addWays_16 (by assumption) (by omega) (by omega) (zln_B _ _ _ _ _) rfl ?_
    refine z_lload2 18 dX2_addWays_17 rfl ?_
    refine z_ladd 19 dX2_addWays_18 rfl ?_
    refine z_lastx 20 (x.toNat) dX2_addWays_19 (by assumption) (by omega) (by omega) (zln_upB _ _ _ _ _ _) rfl ?_
    exact z_return dX2_addWays_20 rfl (⟨rfl, rfl, rfl, by unfold rad; first | rw [if_neg (zwi_eq0 h7)] | rw [if_pos h8], rfl⟩)
theorem tl_X2_passTurn {z2 z3 z4 z5 z6 z7 : zV} {W B : Nat → Int} (hs : zRa sh R q) : zE X mX2_passTurn 0 0 112 [zR q, zR b, z2, z3, z4, z5, z6, z7] [] sh I (zln L q W B) R (zEq [] sh I (zln L q (zcp B W 0 0 31) B) R) := by
  obtain ⟨s0, s1, s2, r0, r1⟩ := id hs
  refine z_aload0 113 dX2_passTurn_112 rfl ?_
  refine z_getR 116 dX2_passTurn_113 fl_RX2_15 (by assumption) (by assumption) rfl ?_
  refine z_iconst 117 dX2_passTurn_116 rfl ?_
  refine z_aload0 118 dX2_passTurn_117 rfl ?_
  refine z_getR 121 dX2_passTurn_118 fl_RX2_9 (by assumption) (by assumption) rfl ?_
  refine z_iconst 122 dX2_passTurn_121 rfl ?_
  refine z_aload0 123 dX2_passTurn_122 rfl ?_
  refine z_getR 126 dX2_passTurn_123 fl_RX2_9 (by assumption) (by assumption) rfl ?_
  refine z_alen 127 dX2_passTurn_126 (by assumption) (by decide) rfl ?_
  refine z_copyL 130 (sp := 0) (dp := 0) (n := 31) dX2_passTurn_127 ml_RX2_48 na_acp sm_arraycopyName it_RJ10 (by assumption) (by assumption) (by first | omega | rfl) (by first | omega | rfl) (by first | omega | rfl) (by first | omega | rfl) (by decide) (Nat.le_of_ble_eq_true rfl) rfl ?_
  exact z_return dX2_passTurn_130 rfl (⟨rfl, rfl, rfl, by rw [zln_WR, zln_BR, zln_rowW], rfl⟩)
theorem lp_X2_passTurn {r t : Nat} {c d wt : Int} {W : Nat → Int} (hs : zRa sh R q) (hb : zSl sh R b) (hr : zSr S) (h5 : r < 5) (ht : t < 10) (hc : 0 ≤ c ∧ c ≤ 10) (hd : 0 ≤ d ∧ d ≤ 9) (hwt : 0 ≤ wt ∧ wt ≤ 9) (hW : ∀ j, j < 31 → 0 ≤ W j ∧ W j ≤ 1000000000000000000) : ∀ (m s : Nat) (B : Nat → Int), s + m = 31 → 1 ≤ s → zE X mX2_passTurn 0 0 31 [zR q, zR b, zI (r : Int), zI c, zI (t : Int), zI d, zI wt, zI (s : Int)] [] sh (zsl I b S) (zln L q W B) R (zEq [] sh (zsl I b S) (zln L q (zcp (rps S t r c d wt W m s B) W 0 0 31) (rps S t r c d wt W m s B)) R)
  | 0, s, B, h, h1 => by
    obtain ⟨s0, s1, s2, r0, r1⟩ := id hs
    refine z_iload7 33 dX2_passTurn_31 rfl ?_
    refine z_aload0 34 dX2_passTurn_33 rfl ?_
    refine z_getR 37 dX2_passTurn_34 fl_RX2_9 (by assumption) (by assumption) rfl ?_
    refine z_alen 38 dX2_passTurn_37 (by assumption) (by decide) rfl ?_
    refine z_icmp_ge 112 41 dX2_passTurn_38 (by decide) rfl (by omega) (by omega) (fun h38 => ?_) (fun hz => absurd hz (by omega))
    exact tl_X2_passTurn hs
  | m + 1, s, B, h, h1 => by
    obtain ⟨s0, s1, s2, r0, r1⟩ := id hs
    have t0 := hb.1.1
    have hWs := hW s (by omega)
    have hcm : zcmpL (W s) 0 ≤ 0 ↔ W s ≤ 0 := by unfold zcmpL; split <;> (try split) <;> omega
    have hcr : -1 ≤ zcmpL (W s) 0 ∧ zcmpL (W s) 0 ≤ 1 := by unfold zcmpL; split <;> (try split) <;> omega
    have b1 := sbh_le S t r (s : Int) d
    have b2 := sbh_ge S t r (s : Int) d hr h5 ht (by omega) (by omega)
    have b3 := sbh_le S t r (s : Int) wt
    have b4 := sbh_ge S t r (s : Int) wt hr h5 ht (by omega) (by omega)
    refine z_iload7 33 dX2_passTurn_31 rfl ?_
    refine z_aload0 34 dX2_passTurn_33 rfl ?_
    refine z_getR 37 dX2_passTurn_34 fl_RX2_9 (by assumption) (by assumption) rfl ?_
    refine z_alen 38 dX2_passTurn_37 (by assumption) (by decide) rfl ?_
    refine z_icmp_ge 112 41 dX2_passTurn_38 (by decide) rfl (by omega) (by omega) (fun hz => absurd hz (by omega)) (fun h38 => ?_)
    refine z_aload0 42 dX2_passTurn_41 rfl ?_
    refine z_getR 45 dX2_passTurn_42 fl_RX2_9 (by assumption) (by assumption) rfl ?_
    refine z_iload7 47 dX2_passTurn_45 rfl ?_
    refine z_laldx 48 (s) dX2_passTurn_47 (by assumption) (by omega) (by omega) (zln_W _ _ _ _ _) rfl ?_
    refine z_lconst0 49 dX2_passTurn_48 rfl ?_
    refine z_lcmp 50 dX2_passTurn_49 (by omega) (by omega) rfl ?_
    refine z_if_le 106 53 dX2_passTurn_50 (by decide) rfl (by omega) (fun h50 => ?_) (fun h50 => ?_)
    · refine z_iinc7 109 dX2_passTurn_106 (Nat.le_of_ble_eq_true rfl) rfl rfl ?_
      refine z_goto 31 dX2_passTurn_109 (by decide) ?_
      first | (rw [show rps S t r c d wt W (m + 1) s B = rps S t r c d wt W m (s + 1) B by rw [rps, if_neg (by omega)]]; exact lp_X2_passTurn hs hb hr h5 ht hc hd hwt hW m (s + 1) _ (by omega) (by omega)) | (rw [show rps S t r c d wt W (m + 1) s B = rps S t r c d wt W m (s + 1) (rad (rad B (sbh S t r (s : Int) d) (W s * (10 - c))) (sbh S t r (s : Int) wt) (W s * c)) by rw [rps, if_pos (by omega)]]; exact lp_X2_passTurn hs hb hr h5 ht hc hd hwt hW m (s + 1) _ (by omega) (by omega))
    · refine z_aload0 54 dX2_passTurn_53 rfl ?_
      refine z_aload1 55 dX2_passTurn_54 rfl ?_
      refine z_iload4 57 dX2_passTurn_55 rfl ?_
      refine z_iload2 58 dX2_passTurn_57 rfl ?_
      refine z_iload7 60 dX2_passTurn_58 rfl ?_
      refine z_iload5 62 dX2_passTurn_60 rfl ?_
      refine z_xV4 65 dX2_passTurn_62 lk_X2_passTurn_40 (ct_X4_speedBehind hb hr h5 ht (by omega) (by omega)) rfl (Nat.le_of_ble_eq_true rfl) (Nat.le_of_ble_eq_true rfl) (by assumption) rfl rfl ?_
      refine z_aload0 66 dX2_passTurn_65 rfl ?_
      refine z_getR 69 dX2_passTurn_66 fl_RX2_9 (by assumption) (by assumption) rfl ?_
      refine z_iload7 71 dX2_passTurn_69 rfl ?_
      refine z_laldx 72 (s) dX2_passTurn_71 (by assumption) (by omega) (by omega) (zln_W _ _ _ _ _) rfl ?_
      refine z_bipush 74 dX2_passTurn_72 (by decide) rfl ?_
      refine z_iload3 75 dX2_passTurn_74 rfl ?_
      refine z_isub 76 dX2_passTurn_75 rfl ?_
      refine z_i2l 77 dX2_passTurn_76 (by omega) rfl ?_
      refine z_lmul 78 dX2_passTurn_77 rfl ?_
      refine z_xVv2 81 dX2_passTurn_78 lk_X2_passTurn_44 (ct_X2_addWays hs (by omega)) rfl (Nat.le_of_ble_eq_true rfl) (Nat.le_of_ble_eq_true rfl) (by assumption) rfl rfl ?_
      refine z_aload0 82 dX2_passTurn_81 rfl ?_
      refine z_aload1 83 dX2_passTurn_82 rfl ?_
      refine z_iload4 85 dX2_passTurn_83 rfl ?_
      refine z_iload2 86 dX2_passTurn_85 rfl ?_
      refine z_iload7 88 dX2_passTurn_86 rfl ?_
      refine z_iload6 90 dX2_passTurn_88 rfl ?_
      refine z_xV4 93 dX2_passTurn_90 lk_X2_passTurn_40 (ct_X4_speedBehind hb hr h5 ht (by omega) (by omega)) rfl (Nat.le_of_ble_eq_true rfl) (Nat.le_of_ble_eq_true rfl) (by assumption) rfl rfl ?_
      refine z_aload0 94 dX2_passTurn_93 rfl ?_
      refine z_getR 97 dX2_passTurn_94 fl_RX2_9 (by assumption) (by assumption) rfl ?_
      refine z_iload7 99 dX2_passTurn_97 rfl ?_
      refine z_laldx 100 (s) dX2_passTurn_99 (by assumption) (by omega) (by omega) (zln_W _ _ _ _ _) rfl ?_
      refine z_iload3 101 dX2_passTurn_100 rfl ?_
      refine z_i2l 102 dX2_passTurn_101 (by omega) rfl ?_
      refine z_lmul 103 dX2_passTurn_102 rfl ?_
      refine z_xVv2 106 dX2_passTurn_103 lk_X2_passTurn_44 (ct_X2_addWays hs (by omega)) rfl (Nat.le_of_ble_eq_true rfl) (Nat.le_of_ble_eq_true rfl) (by assumption) rfl rfl ?_
      refine z_iinc7 109 dX2_passTurn_106 (Nat.le_of_ble_eq_true rfl) rfl rfl ?_
      refine z_goto 31 dX2_passTurn_109 (by decide) ?_
      first | (rw [show rps S t r c d wt W (m + 1) s B = rps S t r c d wt W m (s + 1) B by rw [rps, if_neg (by omega)]]; exact lp_X2_passTurn hs hb hr h5 ht hc hd hwt hW m (s + 1) _ (by omega) (by omega)) | (rw [show rps S t r c d wt W (m + 1) s B = rps S t r c d wt W m (s + 1) (rad (rad B (sbh S t r (s : Int) d) (W s * (10 - c))) (sbh S t r (s : Int) wt) (W s * c)) by rw [rps, if_pos (by omega)]]; exact lp_X2_passTurn hs hb hr h5 ht hc hd hwt hW m (s + 1) _ (by omega) (by omega))
theorem ct_X2_passTurn {r t : Nat} {c : Int} {W B : Nat → Int} (hs : zRa sh R q) (hb : zSl sh R b) (hr : zSr S) (h5 : r < 5) (ht : t < 10) (hc : 0 ≤ c ∧ c ≤ 10) (hW : ∀ j, j < 31 → 0 ≤ W j ∧ W j ≤ 1000000000000000000) : zE X mX2_passTurn 0 0 0 [zR q, zR b, zI (r : Int), zI c, zI (t : Int), zX, zX, zX] [] sh (zsl I b S) (zln L q W B) R (zEq [] sh (zsl I b S) (zln L q (rpt S r c t (W, B)).1 (rpt S r c t (W, B)).2) R) := by
  obtain ⟨s0, s1, s2, r0, r1⟩ := id hs
  obtain ⟨⟨t0, t1, t2, t3, t4, t5, t6⟩, q0, q1, q2, q3, q4, q5⟩ := id hb
  have hg := hr.2.1 t ht
  have hf := ct_J7_fillL (X := X) (I := zsl I b S) (L := zln L q W B) (R := R) (v := 0) s2 (by omega)
  rw [zln_BR, zln_rowB] at hf
  have hwt : 0 ≤ rwet (S 1 t) ∧ rwet (S 1 t) ≤ 9 := by unfold rwet; split <;> omega
  refine z_aload0 1 dX2_passTurn_0 rfl ?_
  refine z_getR 4 dX2_passTurn_1 fl_RX2_15 (by assumption) (by assumption) rfl ?_
  refine z_lconst0 5 dX2_passTurn_4 rfl ?_
  refine z_xSv2 8 dX2_passTurn_5 lk_X2_passTurn_18 (hf) rfl (Nat.le_of_ble_eq_true rfl) (Nat.le_of_ble_eq_true rfl) rfl ?_
  refine z_aload1 9 dX2_passTurn_8 rfl ?_
  refine z_getR 12 dX2_passTurn_9 fl_RX2_28 (by assumption) (by assumption) rfl ?_
  refine z_iload4 14 dX2_passTurn_12 rfl ?_
  refine z_ialdx 15 (t) dX2_passTurn_14 (by assumption) (by omega) (by omega) (zsl_r _ _ _ (by decide) _) rfl ?_
  refine z_istore5 17 dX2_passTurn_15 (Nat.le_of_ble_eq_true rfl) rfl rfl ?_
  refine z_bipush 19 dX2_passTurn_17 (by decide) rfl ?_
  refine z_iload5 21 dX2_passTurn_19 rfl ?_
  refine z_iconst 22 dX2_passTurn_21 rfl ?_
  refine z_iadd 23 dX2_passTurn_22 rfl ?_
  refine z_mmin 26 dX2_passTurn_23 ml_RX2_34 sm_yJ9_min_7cf53 it_RJ9 co_yJ9_min_7cf53 (by decide) (Nat.le_of_ble_eq_true rfl) (by omega) (by omega) rfl ?_
  refine z_istore6 28 dX2_passTurn_26 (Nat.le_of_ble_eq_true rfl) rfl rfl ?_
  refine z_iconst 29 dX2_passTurn_28 rfl ?_
  refine z_istore7 31 dX2_passTurn_29 (Nat.le_of_ble_eq_true rfl) rfl rfl ?_
  exact lp_X2_passTurn hs hb hr h5 ht hc hg hwt hW 30 1 _ rfl (by omega)
theorem lp_X2_sum {r c : Int} {W B : Nat → Int} (hs : zRa sh R q) : ∀ (m s : Nat) (x : Int), s + m = 31 → zE X mX2_waysThrough 0 0 46 [zR q, zR b, zI r, zI c, zL x, zX, zI (s : Int)] [] sh I (zln L q W B) R (zEq [zL (rsm W m s x)] sh I (zln L q W B) R)
  | 0, s, x, h => by
    obtain ⟨s0, s1, s2, r0, r1⟩ := id hs
    refine z_iload6 48 dX2_waysThrough_46 rfl ?_
    refine z_aload0 49 dX2_waysThrough_48 rfl ?_
    refine z_getR 52 dX2_waysThrough_49 fl_RX2_9 (by assumption) (by assumption) rfl ?_
    refine z_alen 53 dX2_waysThrough_52 (by assumption) (by decide) rfl ?_
    refine z_icmp_ge 74 56 dX2_waysThrough_53 (by decide) rfl (by omega) (by omega) (fun h53 => ?_) (fun hz => absurd hz (by omega))
    refine z_lload4 76 dX2_waysThrough_74 rfl ?_
    exact z_lreturn dX2_waysThrough_76 rfl (⟨rfl, rfl, rfl, rfl, rfl⟩)
  | m + 1, s, x, h => by
    obtain ⟨s0, s1, s2, r0, r1⟩ := id hs
    refine z_iload6 48 dX2_waysThrough_46 rfl ?_
    refine z_aload0 49 dX2_waysThrough_48 rfl ?_
    refine z_getR 52 dX2_waysThrough_49 fl_RX2_9 (by assumption) (by assumption) rfl ?_
    refine z_alen 53 dX2_waysThrough_52 (by assumption) (by decide) rfl ?_
    refine z_icmp_ge 74 56 dX2_waysThrough_53 (by decide) rfl (by omega) (by omega) (fun hz => absurd hz (by omega)) (fun h53 => ?_)
    refine z_lload4 58 dX2_waysThrough_56 rfl ?_
    refine z_aload0 59 dX2_waysThrough_58 rfl ?_
    refine z_getR 62 dX2_waysThrough_59 fl_RX2_9 (by assumption) (by assumption) rfl ?_
    refine z_iload6 64 dX2_waysThrough_62 rfl ?_
    refine z_laldx 65 (s) dX2_waysThrough_64 (by assumption) (by omega) (by omega) (zln_W _ _ _ _ _) rfl ?_
    refine z_ladd 66 dX2_waysThrough_65 rfl ?_
    refine z_lstore4 68 dX2_waysThrough_66 (Nat.le_of_ble_eq_true rfl) rfl rfl ?_
    refine z_iinc6 71 dX2_waysThrough_68 (Nat.le_of_ble_eq_true rfl) rfl rfl ?_
    refine z_goto 46 dX2_waysThrough_71 (by decide) ?_
    exact lp_X2_sum hs m (s + 1) _ (by omega)
theorem lp_X2_waysThrough {r : Nat} {c : Int} {V : (Nat → Int) × (Nat → Int)} (hs : zRa sh R q) (hb : zSl sh R b) (hr : zSr S) (h5 : r < 5) (hc : 0 ≤ c ∧ c ≤ 10) (hW : ∀ t, t ≤ 10 → ∀ j, j < 31 → 0 ≤ (rit S r c V t).1 j ∧ (rit S r c V t).1 j ≤ 1000000000000000000) : ∀ (m t : Nat), t + m = 10 → zE X mX2_waysThrough 0 0 18 [zR q, zR b, zI (r : Int), zI c, zI (t : Int), zX, zX] [] sh (zsl I b S) (zln L q (rit S r c V t).1 (rit S r c V t).2) R (zEq [zL (rsm (rit S r c V 10).1 30 1 0)] sh (zsl I b S) (zln L q (rit S r c V 10).1 (rit S r c V 10).2) R)
  | 0, t, h => by
    have ht : t = 10 := by omega
    subst ht
    refine z_iload4 20 dX2_waysThrough_18 rfl ?_
    refine z_bipush 22 dX2_waysThrough_20 (by decide) rfl ?_
    refine z_icmp_ge 40 25 dX2_waysThrough_22 (by decide) rfl (by omega) (by omega) (fun h22 => ?_) (fun hz => absurd hz (by omega))
    refine z_lconst0 41 dX2_waysThrough_40 rfl ?_
    refine z_lstore4 43 dX2_waysThrough_41 (Nat.le_of_ble_eq_true rfl) rfl rfl ?_
    refine z_iconst 44 dX2_waysThrough_43 rfl ?_
    refine z_istore6 46 dX2_waysThrough_44 (Nat.le_of_ble_eq_true rfl) rfl rfl ?_
    exact lp_X2_sum hs 30 1 0 rfl
  | m + 1, t, h => by
    have t0 := hs.1
    refine z_iload4 20 dX2_waysThrough_18 rfl ?_
    refine z_bipush 22 dX2_waysThrough_20 (by decide) rfl ?_
    refine z_icmp_ge 40 25 dX2_waysThrough_22 (by decide) rfl (by omega) (by omega) (fun hz => absurd hz (by omega)) (fun h22 => ?_)
    refine z_aload0 26 dX2_waysThrough_25 rfl ?_
    refine z_aload1 27 dX2_waysThrough_26 rfl ?_
    refine z_iload2 28 dX2_waysThrough_27 rfl ?_
    refine z_iload3 29 dX2_waysThrough_28 rfl ?_
    refine z_iload4 31 dX2_waysThrough_29 rfl ?_
    refine z_xVv4 34 dX2_waysThrough_31 lk_X2_waysThrough_24 (ct_X2_passTurn hs hb hr h5 (by omega) hc (hW t (by omega))) rfl (Nat.le_of_ble_eq_true rfl) (Nat.le_of_ble_eq_true rfl) (by assumption) rfl rfl ?_
    refine z_iinc4 37 dX2_waysThrough_34 (Nat.le_of_ble_eq_true rfl) rfl rfl ?_
    refine z_goto 18 dX2_waysThrough_37 (by decide) ?_
    exact lp_X2_waysThrough hs hb hr h5 hc hW m (t + 1) (by omega)
theorem ct_X2_waysThrough {r : Nat} {c : Int} {W B : Nat → Int} (hs : zRa sh R q) (hb : zSl sh R b) (hr : zSr S) (h5 : r < 5) (hc : 0 ≤ c ∧ c ≤ 10) (hW : ∀ t, t ≤ 10 → ∀ j, j < 31 → 0 ≤ (rit S r c (rv0 W B) t).1 j ∧ (rit S r c (rv0 W B) t).1 j ≤ 1000000000000000000) : zE X mX2_waysThrough 0 0 0 [zR q, zR b, zI (r : Int), zI c, zX, zX, zX] [] sh (zsl I b S) (zln L q W B) R (zEq [zL (rsm (rit S r c (rv0 W B) 10).1 30 1 0)] sh (zsl I b S) (zln L q (rit S r c (rv0 W B) 10).1 (rit S r c (rv0 W B) 10).2) R) := by
  obtain ⟨s0, s1, s2, r0, r1⟩ := id hs
  have hf := ct_J7_fillL (X := X) (I := zsl I b S) (L := zln L q W B) (R := R) (v := 0) s1 (by omega)
  rw [zln_WR, zln_rowW] at hf
  refine z_aload0 1 dX2_waysThrough_0 rfl ?_
  refine z_getR 4 dX2_waysThrough_1 fl_RX2_9 (by assumption) (by assumption) rfl ?_
  refine z_lconst0 5 dX2_waysThrough_4 rfl ?_
  refine z_xSv2 8 dX2_waysThrough_5 lk_X2_waysThrough_18 (hf) rfl (Nat.le_of_ble_eq_true rfl) (Nat.le_of_ble_eq_true rfl) rfl ?_
  refine z_aload0 9 dX2_waysThrough_8 rfl ?_
  refine z_getR 12 dX2_waysThrough_9 fl_RX2_9 (by assumption) (by assumption) rfl ?_
  refine z_iconst 13 dX2_waysThrough_12 rfl ?_
  refine z_lconst1 14 dX2_waysThrough_13 rfl ?_
  refine z_lastx 15 (2) dX2_waysThrough_14 (by assumption) (by omega) (by omega) (zln_upW _ _ _ _ _ _) rfl ?_
  refine z_iconst 16 dX2_waysThrough_15 rfl ?_
  refine z_istore4 18 dX2_waysThrough_16 (Nat.le_of_ble_eq_true rfl) rfl rfl ?_
  exact lp_X2_waysThrough (V := rv0 W B) hs hb hr h5 hc hW 10 0 rfl
end RAIN
