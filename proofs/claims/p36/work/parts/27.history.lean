/-! ===== a History at place h: its object (0 pasts, 1 known), its row of 8 Slides behind it (at the places P 0 .. P 7) ===== -/
def zHi (sh : zH) (R : zR2) (h : Nat) (P : Nat → Nat) : Prop := (sh[h]? = some (0, 2) ∧ sh[h + 1]? = some (22, 8) ∧ R h 0 = some (h + 1)) ∧ (∀ j, j < 8 → R (h + 1) j = some (P j)) ∧ ∀ j, j < 8 → zSl sh R (P j)
def zrot (f : Nat → Option Nat) (i : Nat) : Nat → Option Nat := fun j => if j + 1 < i then f (j + 1) else f j
def zrotP (P : Nat → Nat) : Nat → Nat := fun j => if j < 7 then P (j + 1) else if j = 7 then P 0 else P j
def zrotR (f : Nat → Option Nat) : Nat → Option Nat := fun j => if j < 7 then f (j + 1) else if j = 7 then f 0 else f j
theorem zrowR_up (R : zR2) (a : Nat) (f : Nat → Option Nat) (j : Nat) (v : Option Nat) : zupR (zrowR R a f) a j v = zrowR R a (fun q => if q = j then v else f q) := by
  funext c q
  unfold zupR zrowR
  by_cases h : c = a
  · subst h
    by_cases h2 : q = j <;> simp [h2]
  · simp [h]
theorem zrowR_self (R : zR2) (a : Nat) : zrowR R a (R a) = R := by
  funext c q
  unfold zrowR
  by_cases h : c = a <;> simp [h]
theorem zrowR_at (R : zR2) (a : Nat) (f : Nat → Option Nat) (j : Nat) : zrowR R a f a j = f j := by simp [zrowR]
theorem zrowR_o (R : zR2) (a : Nat) (f : Nat → Option Nat) {c : Nat} (h : c ≠ a) (j : Nat) : zrowR R a f c j = R c j := by simp [zrowR, h]
theorem zSl_row {sh : zH} {R : zR2} {b a n : Nat} {f : Nat → Option Nat} (hs : zSl sh R b) (ha : sh[a]? = some (22, n)) : zSl sh (zrowR R a f) b := by
  have hne : b ≠ a := fun e => by have := hs.1.1; rw [e, ha] at this; simp at this
  refine ⟨hs.1, ?_⟩
  simp only [zrowR_o R a f hne]
  exact hs.2
theorem zHi_rot {sh : zH} {R : zR2} {h : Nat} {P : Nat → Nat} (hs : zHi sh R h P) : zHi sh (zrowR R (h + 1) (zrotR (R (h + 1)))) h (zrotP P) := by
  refine ⟨⟨hs.1.1, hs.1.2.1, by rw [zrowR_o _ _ _ (by omega)]; exact hs.1.2.2⟩, fun j hj => ?_, fun j hj => zSl_row ?_ hs.1.2.1⟩
  · rw [zrowR_at]
    unfold zrotR zrotP
    by_cases h7 : j < 7
    · rw [if_pos h7, if_pos h7]; exact hs.2.1 _ (by omega)
    · rw [if_neg h7, if_neg h7, if_pos (by omega), if_pos (by omega)]; exact hs.2.1 _ (by omega)
  · unfold zrotP
    by_cases h7 : j < 7
    · rw [if_pos h7]; exact hs.2.2 _ (by omega)
    · rw [if_neg h7, if_pos (by omega)]; exact hs.2.2 _ (by omega)
section HIST
variable {X : zXs} {sh : zH} {I L : zI2} {R : zR2} {h : Nat} {P : Nat → Nat}
theorem ct_X0_forgetAll (hs : zHi sh R h P) : zE X mX0_forgetAll 0 0 0 [zR h] [] sh I L R (zEq [] sh (zup I h 1 0) L R) := by
  obtain ⟨⟨s0, s1, r0⟩, hP, hS⟩ := id hs
  refine z_aload0 1 dX0_forgetAll_0 rfl ?_
  refine z_iconst 2 dX0_forgetAll_1 rfl ?_
  refine z_putI 5 dX0_forgetAll_2 fp_RX0_15 (by assumption) rfl ?_
  exact z_return dX0_forgetAll_5 rfl (⟨rfl, rfl, rfl, rfl, rfl⟩)
theorem lp_X0_forgetOldest {q : Nat} (hs : zHi sh R h P) (hq : R (h + 1) 0 = some q) : ∀ (m k : Nat), k + m = 7 → zE X mX0_forgetOldest 0 0 9 [zR h, zR q, zI ((k + 1 : Nat) : Int)] [] sh I L (zrowR R (h + 1) (zrot (R (h + 1)) (k + 1))) (zEq [] sh (zup I h 1 7) L (zrowR R (h + 1) (zrotR (R (h + 1)))))
  | 0, k, hk => by
    obtain ⟨⟨s0, s1, r0⟩, hP, hS⟩ := id hs
    have hv : sh[q]? = some (4, 9) := by have h1 := hP 0 (by omega); rw [hq] at h1; cases h1; exact (hS 0 (by omega)).1.1
    have r1 : ∀ g, zrowR R (h + 1) g h 0 = some (h + 1) := fun g => (zrowR_o _ _ _ (by omega) _).trans r0
    have e : (fun j => if j = 7 then some q else zrot (R (h + 1)) (k + 1) j) = zrotR (R (h + 1)) := by
      funext j
      unfold zrot zrotR
      by_cases h7 : j = 7
      · rw [if_pos h7, if_neg (by omega), if_pos h7, hq]
      · rw [if_neg h7]
        by_cases h8 : j < 7
        · rw [if_pos (by omega), if_pos h8]
        · rw [if_neg (by omega), if_neg h8, if_neg h7]
    refine z_iload2 10 dX0_forgetOldest_9 rfl ?_
    refine z_aload0 11 dX0_forgetOldest_10 rfl ?_
    refine z_getR 14 dX0_forgetOldest_11 fl_RX0_9 (by assumption) (r1 _) rfl ?_
    refine z_alen 15 dX0_forgetOldest_14 (by assumption) (by decide) rfl ?_
    refine z_icmp_ge 38 18 dX0_forgetOldest_15 (by decide) rfl (by omega) (by omega) (fun h15 => ?_) (fun hz => absurd hz (by omega))
    refine z_aload0 39 dX0_forgetOldest_38 rfl ?_
    refine z_getR 42 dX0_forgetOldest_39 fl_RX0_9 (by assumption) (r1 _) rfl ?_
    refine z_aload0 43 dX0_forgetOldest_42 rfl ?_
    refine z_getR 46 dX0_forgetOldest_43 fl_RX0_9 (by assumption) (r1 _) rfl ?_
    refine z_alen 47 dX0_forgetOldest_46 (by assumption) (by decide) rfl ?_
    refine z_iconst 48 dX0_forgetOldest_47 rfl ?_
    refine z_isub 49 dX0_forgetOldest_48 rfl ?_
    refine z_aload1 50 dX0_forgetOldest_49 rfl ?_
    refine z_aastN 51 (7) dX0_forgetOldest_50 (by assumption) (by assumption) (by omega) (by omega) rfl ?_
    rw [zrowR_up, e]
    refine z_aload0 52 dX0_forgetOldest_51 rfl ?_
    refine z_aload0 53 dX0_forgetOldest_52 rfl ?_
    refine z_getR 56 dX0_forgetOldest_53 fl_RX0_9 (by assumption) (r1 _) rfl ?_
    refine z_alen 57 dX0_forgetOldest_56 (by assumption) (by decide) rfl ?_
    refine z_iconst 58 dX0_forgetOldest_57 rfl ?_
    refine z_isub 59 dX0_forgetOldest_58 rfl ?_
    refine z_putI 62 dX0_forgetOldest_59 fp_RX0_15 (by assumption) rfl ?_
    exact z_return dX0_forgetOldest_62 rfl (⟨rfl, rfl, rfl, rfl, rfl⟩)
  | m + 1, k, hk => by
    obtain ⟨⟨s0, s1, r0⟩, hP, hS⟩ := id hs
    have hv := (hS (k + 1) (by omega)).1.1
    have r1 : ∀ g, zrowR R (h + 1) g h 0 = some (h + 1) := fun g => (zrowR_o _ _ _ (by omega) _).trans r0
    have e : (fun j => if j = k then some (P (k + 1)) else zrot (R (h + 1)) (k + 1) j) = zrot (R (h + 1)) (k + 1 + 1) := by
      funext j
      unfold zrot
      by_cases h7 : j = k
      · rw [if_pos h7, if_pos (by omega), h7, hP (k + 1) (by omega)]
      · rw [if_neg h7]
        by_cases h8 : j < k
        · rw [if_pos (by omega), if_pos (by omega)]
        · rw [if_neg (by omega), if_neg (by omega)]
    refine z_iload2 10 dX0_forgetOldest_9 rfl ?_
    refine z_aload0 11 dX0_forgetOldest_10 rfl ?_
    refine z_getR 14 dX0_forgetOldest_11 fl_RX0_9 (by assumption) (r1 _) rfl ?_
    refine z_alen 15 dX0_forgetOldest_14 (by assumption) (by decide) rfl ?_
    refine z_icmp_ge 38 18 dX0_forgetOldest_15 (by decide) rfl (by omega) (by omega) (fun hz => absurd hz (by omega)) (fun h15 => ?_)
    refine z_aload0 19 dX0_forgetOldest_18 rfl ?_
    refine z_getR 22 dX0_forgetOldest_19 fl_RX0_9 (by assumption) (r1 _) rfl ?_
    refine z_iload2 23 dX0_forgetOldest_22 rfl ?_
    refine z_iconst 24 dX0_forgetOldest_23 rfl ?_
    refine z_isub 25 dX0_forgetOldest_24 rfl ?_
    refine z_aload0 26 dX0_forgetOldest_25 rfl ?_
    refine z_getR 29 dX0_forgetOldest_26 fl_RX0_9 (by assumption) (r1 _) rfl ?_
    refine z_iload2 30 dX0_forgetOldest_29 rfl ?_
    refine z_aaldN 31 (k + 1) dX0_forgetOldest_30 (by assumption) (by omega) (by omega) (((zrowR_at _ _ _ _).trans (by unfold zrot; rw [if_neg (by omega)]; exact hP (k + 1) (by omega)))) rfl ?_
    refine z_aastN 32 (k) dX0_forgetOldest_31 (by assumption) (by assumption) (by omega) (by omega) rfl ?_
    rw [zrowR_up, e]
    refine z_iinc2 35 dX0_forgetOldest_32 (Nat.le_of_ble_eq_true rfl) rfl rfl ?_
    refine z_goto 9 dX0_forgetOldest_35 (by decide) ?_
    exact lp_X0_forgetOldest hs hq m (k + 1) (by omega)
theorem ct_X0_forgetOldest (hs : zHi sh R h P) : zE X mX0_forgetOldest 0 0 0 [zR h, zX, zX] [] sh I L R (zEq [] sh (zup I h 1 7) L (zrowR R (h + 1) (zrotR (R (h + 1))))) := by
  obtain ⟨⟨s0, s1, r0⟩, hP, hS⟩ := id hs
  have hq := hP 0 (by omega)
  have e : zrowR R (h + 1) (zrot (R (h + 1)) (0 + 1)) = R := by
    rw [show zrot (R (h + 1)) (0 + 1) = R (h + 1) from funext fun j => by unfold zrot; rw [if_neg (by omega)], zrowR_self]
  have hl := lp_X0_forgetOldest (X := X) (I := I) (L := L) hs hq 7 0 rfl
  rw [e] at hl
  refine z_aload0 1 dX0_forgetOldest_0 rfl ?_
  refine z_getR 4 dX0_forgetOldest_1 fl_RX0_9 (by assumption) (by assumption) rfl ?_
  refine z_iconst 5 dX0_forgetOldest_4 rfl ?_
  refine z_aaldN 6 (0) dX0_forgetOldest_5 (by assumption) (by omega) (by omega) (by assumption) rfl ?_
  refine z_astore1 7 dX0_forgetOldest_6 (Nat.le_of_ble_eq_true rfl) rfl rfl ?_
  refine z_iconst 8 dX0_forgetOldest_7 rfl ?_
  refine z_istore2 9 dX0_forgetOldest_8 (Nat.le_of_ble_eq_true rfl) rfl rfl ?_
  exact hl
theorem tl_X0_remember {b p n : Nat} (hs : zHi sh R h P) (hb : zSl sh R b) (hn : n < 8) (hI : I h 1 = (n : Int)) (hp : P n = p) (hpb : p + 7 ≤ b ∨ b + 7 ≤ p) (hph : h < p ∨ p + 7 ≤ h) : zE X mX0_remember 0 0 16 [zR h, zR b] [] sh I L R (zEq [] sh (zup (zsl I p (sbc (zvw I b) (zvw I p))) h 1 ((n : Int) + 1)) L R) := by
  subst hp
  obtain ⟨⟨s0, s1, r0⟩, hP, hS⟩ := id hs
  have hS2 := hS n hn
  have hc := ct_X4_become (X := X) (I := I) (S := zvw I (P n)) (L := L) hS2 hb (by omega)
  rw [zsl_self] at hc
  refine z_aload0 17 dX0_remember_16 rfl ?_
  refine z_getR 20 dX0_remember_17 fl_RX0_9 (by assumption) (by assumption) rfl ?_
  refine z_aload0 21 dX0_remember_20 rfl ?_
  refine z_getIx 24 dX0_remember_21 fl_RX0_15 (by assumption) (hI) rfl ?_
  refine z_aaldN 25 (n) dX0_remember_24 (by assumption) (by omega) (by omega) (hP n hn) rfl ?_
  refine z_aload1 26 dX0_remember_25 rfl ?_
  refine z_xVv1 29 dX0_remember_26 lk_X0_remember_23 (hc) rfl (Nat.le_of_ble_eq_true rfl) (Nat.le_of_ble_eq_true rfl) (hS2.1.1) rfl rfl ?_
  refine z_aload0 30 dX0_remember_29 rfl ?_
  refine z_dup 31 dX0_remember_30 rfl rfl ?_
  refine z_getIx 34 dX0_remember_31 fl_RX0_15 (by assumption) ((zsl_o _ _ _ hph _).trans hI) rfl ?_
  refine z_iconst 35 dX0_remember_34 rfl ?_
  refine z_iadd 36 dX0_remember_35 rfl ?_
  refine z_putI 39 dX0_remember_36 fp_RX0_15 (by assumption) rfl ?_
  exact z_return dX0_remember_39 rfl (⟨rfl, rfl, rfl, rfl, rfl⟩)
theorem ct_X0_remember {b p n : Nat} (hs : zHi sh R h P) (hb : zSl sh R b) (hn : n < 8) (hI : I h 1 = (n : Int)) (hp : P n = p) (hpb : p + 7 ≤ b ∨ b + 7 ≤ p) (hph : h < p ∨ p + 7 ≤ h) : zE X mX0_remember 0 0 0 [zR h, zR b] [] sh I L R (zEq [] sh (zup (zsl I p (sbc (zvw I b) (zvw I p))) h 1 ((n : Int) + 1)) L R) := by
  obtain ⟨⟨s0, s1, r0⟩, hP, hS⟩ := id hs
  refine z_aload0 1 dX0_remember_0 rfl ?_
  refine z_getIx 4 dX0_remember_1 fl_RX0_15 (by assumption) (hI) rfl ?_
  refine z_aload0 5 dX0_remember_4 rfl ?_
  refine z_getR 8 dX0_remember_5 fl_RX0_9 (by assumption) (by assumption) rfl ?_
  refine z_alen 9 dX0_remember_8 (by assumption) (by decide) rfl ?_
  refine z_icmp_lt 16 12 dX0_remember_9 (by decide) rfl (by omega) (by omega) (fun h9 => ?_) (fun hz => absurd hz (by omega))
  exact tl_X0_remember hs hb hn hI hp hpb hph
theorem ct_X0_remember_full {b p : Nat} (hs : zHi sh R h P) (hb : zSl sh R b) (hI : I h 1 = 8) (hp : P 0 = p) (hpb : p + 7 ≤ b ∨ b + 7 ≤ p) (hph : h < p ∨ p + 7 ≤ h) (hbh : h < b ∨ b + 7 ≤ h) : zE X mX0_remember 0 0 0 [zR h, zR b] [] sh I L R (zEq [] sh (zup (zsl (zup I h 1 7) p (sbc (zvw I b) (zvw I p))) h 1 8) L (zrowR R (h + 1) (zrotR (R (h + 1))))) := by
  obtain ⟨⟨s0, s1, r0⟩, hP, hS⟩ := id hs
  have ht := tl_X0_remember (X := X) (I := zup I h 1 7) (L := L) (n := 7) (zHi_rot hs) (zSl_row hb s1) (by decide) (zup_at _ _ _ _) (show zrotP P 7 = p by unfold zrotP; rw [if_neg (by decide), if_pos rfl]; exact hp) hpb hph
  rw [zvw_up _ hbh, zvw_up _ hph] at ht
  refine z_aload0 1 dX0_remember_0 rfl ?_
  refine z_getIx 4 dX0_remember_1 fl_RX0_15 (by assumption) (hI) rfl ?_
  refine z_aload0 5 dX0_remember_4 rfl ?_
  refine z_getR 8 dX0_remember_5 fl_RX0_9 (by assumption) (by assumption) rfl ?_
  refine z_alen 9 dX0_remember_8 (by assumption) (by decide) rfl ?_
  refine z_icmp_lt 16 12 dX0_remember_9 (by decide) rfl (by omega) (by omega) (fun hz => absurd hz (by omega)) (fun h9 => ?_)
  refine z_aload0 13 dX0_remember_12 rfl ?_
  refine z_xVv0 16 dX0_remember_13 lk_X0_remember_20 (ct_X0_forgetOldest hs) rfl (Nat.le_of_ble_eq_true rfl) (Nat.le_of_ble_eq_true rfl) (by assumption) rfl rfl ?_
  exact ht
theorem ct_X0_takeBack_none {b : Nat} (hs : zHi sh R h P) (hI : I h 1 = 0) : zE X mX0_takeBack 0 0 0 [zR h, zR b] [] sh I L R (zEq [zI 0] sh I L R) := by
  obtain ⟨⟨s0, s1, r0⟩, hP, hS⟩ := id hs
  refine z_aload0 1 dX0_takeBack_0 rfl ?_
  refine z_getIx 4 dX0_takeBack_1 fl_RX0_15 (by assumption) (hI) rfl ?_
  refine z_if_gt 9 7 dX0_takeBack_4 (by decide) rfl (by omega) (fun hz => absurd hz (by omega)) (fun h4 => ?_)
  refine z_iconst 8 dX0_takeBack_7 rfl ?_
  exact z_zreturn dX0_takeBack_8 rfl (by omega) (⟨rfl, rfl, rfl, rfl, rfl⟩)
theorem ct_X0_takeBack {b n p : Nat} (hs : zHi sh R h P) (hb : zSl sh R b) (hn : n < 8) (hI : I h 1 = (n : Int) + 1) (hp : P n = p) (hpb : p + 7 ≤ b ∨ b + 7 ≤ p) (hph : h < p ∨ p + 7 ≤ h) (hbh : h < b ∨ b + 7 ≤ h) : zE X mX0_takeBack 0 0 0 [zR h, zR b] [] sh I L R (zEq [zI 1] sh (zsl (zup I h 1 n) b (sgb (zvw I p) (zvw I b))) L R) := by
  subst hp
  obtain ⟨⟨s0, s1, r0⟩, hP, hS⟩ := id hs
  have hb0 := hb.1.1
  have hc := ct_X4_goBackTo (X := X) (I := zup I h 1 n) (S := zvw (zup I h 1 n) b) (L := L) hb (hS n hn) (by omega)
  rw [zsl_self, zvw_up _ hbh, zvw_up _ hph] at hc
  refine z_aload0 1 dX0_takeBack_0 rfl ?_
  refine z_getIx 4 dX0_takeBack_1 fl_RX0_15 (by assumption) (hI) rfl ?_
  refine z_if_gt 9 7 dX0_takeBack_4 (by decide) rfl (by omega) (fun h4 => ?_) (fun hz => absurd hz (by omega))
  refine z_aload0 10 dX0_takeBack_9 rfl ?_
  refine z_dup 11 dX0_takeBack_10 rfl rfl ?_
  refine z_getIx 14 dX0_takeBack_11 fl_RX0_15 (by assumption) (hI) rfl ?_
  refine z_iconst 15 dX0_takeBack_14 rfl ?_
  refine z_isub 16 dX0_takeBack_15 rfl ?_
  refine z_putIx 19 dX0_takeBack_16 fp_RX0_15 (by assumption) ((by rw [show (n : Int) + 1 - 1 = (n : Int) by omega])) rfl ?_
  refine z_aload1 20 dX0_takeBack_19 rfl ?_
  refine z_aload0 21 dX0_takeBack_20 rfl ?_
  refine z_getR 24 dX0_takeBack_21 fl_RX0_9 (by assumption) (by assumption) rfl ?_
  refine z_aload0 25 dX0_takeBack_24 rfl ?_
  refine z_getIx 28 dX0_takeBack_25 fl_RX0_15 (by assumption) (zup_at _ _ _ _) rfl ?_
  refine z_aaldN 29 (n) dX0_takeBack_28 (by assumption) (by omega) (by omega) (hP n hn) rfl ?_
  refine z_xVv1 32 dX0_takeBack_29 lk_X0_takeBack_27 (hc) rfl (Nat.le_of_ble_eq_true rfl) (Nat.le_of_ble_eq_true rfl) (by assumption) rfl rfl ?_
  refine z_iconst 33 dX0_takeBack_32 rfl ?_
  exact z_zreturn dX0_takeBack_33 rfl (by omega) (⟨rfl, rfl, rfl, rfl, rfl⟩)
/-- a History's Slides laid over another's, the first n of them -/
def hbc (P P2 : Nat → Nat) : Nat → Nat → zI2 → zI2
  | 0, _, I => I
  | m + 1, i, I => hbc P P2 m (i + 1) (zsl I (P i) (sbc (zvw I (P2 i)) (zvw I (P i))))
theorem lp_X0_become {h2 n : Nat} {P2 : Nat → Nat} (hs : zHi sh R h P) (hs2 : zHi sh R h2 P2) (hn : n ≤ 8) (hd : ∀ i, i < 8 → (P i + 7 ≤ P2 i ∨ P2 i + 7 ≤ P i) ∧ (h < P i ∨ P i + 7 ≤ h)) : ∀ (m i : Nat) (I : zI2), i + m = n → I h 1 = (n : Int) → zE X mX0_become 0 0 10 [zR h, zR h2, zI (i : Int)] [] sh I L R (zEq [] sh (hbc P P2 m i I) L R)
  | 0, i, I, hi, hI => by
    obtain ⟨⟨s0, s1, r0⟩, hP, hS⟩ := id hs
    refine z_iload2 11 dX0_become_10 rfl ?_
    refine z_aload0 12 dX0_become_11 rfl ?_
    refine z_getIx 15 dX0_become_12 fl_RX0_15 (by assumption) (hI) rfl ?_
    refine z_icmp_ge 39 18 dX0_become_15 (by decide) rfl (by omega) (by omega) (fun h15 => ?_) (fun hz => absurd hz (by omega))
    exact z_return dX0_become_39 rfl (⟨rfl, rfl, rfl, rfl, rfl⟩)
  | m + 1, i, I, hi, hI => by
    obtain ⟨⟨s0, s1, r0⟩, hP, hS⟩ := id hs
    obtain ⟨⟨t0, t1, q0⟩, hP2, hS2⟩ := id hs2
    have hd2 := hd i (by omega)
    have hc := ct_X4_become (X := X) (I := I) (S := zvw I (P i)) (L := L) (hS i (by omega)) (hS2 i (by omega)) (by omega)
    rw [zsl_self] at hc
    refine z_iload2 11 dX0_become_10 rfl ?_
    refine z_aload0 12 dX0_become_11 rfl ?_
    refine z_getIx 15 dX0_become_12 fl_RX0_15 (by assumption) (hI) rfl ?_
    refine z_icmp_ge 39 18 dX0_become_15 (by decide) rfl (by omega) (by omega) (fun hz => absurd hz (by omega)) (fun h15 => ?_)
    refine z_aload0 19 dX0_become_18 rfl ?_
    refine z_getR 22 dX0_become_19 fl_RX0_9 (by assumption) (by assumption) rfl ?_
    refine z_iload2 23 dX0_become_22 rfl ?_
    refine z_aaldN 24 (i) dX0_become_23 (by assumption) (by omega) (by omega) (hP i (by omega)) rfl ?_
    refine z_aload1 25 dX0_become_24 rfl ?_
    refine z_getR 28 dX0_become_25 fl_RX0_9 (by assumption) (by assumption) rfl ?_
    refine z_iload2 29 dX0_become_28 rfl ?_
    refine z_aaldN 30 (i) dX0_become_29 (by assumption) (by omega) (by omega) (hP2 i (by omega)) rfl ?_
    refine z_xVv1 33 dX0_become_30 lk_X0_become_23 (hc) rfl (Nat.le_of_ble_eq_true rfl) (Nat.le_of_ble_eq_true rfl) ((hS i (by omega)).1.1) rfl rfl ?_
    refine z_iinc2 36 dX0_become_33 (Nat.le_of_ble_eq_true rfl) rfl rfl ?_
    refine z_goto 10 dX0_become_36 (by decide) ?_
    exact lp_X0_become hs hs2 hn hd m (i + 1) _ (by omega) ((zsl_o _ _ _ hd2.2 _).trans hI)
theorem ct_X0_become {h2 n : Nat} {P2 : Nat → Nat} (hs : zHi sh R h P) (hs2 : zHi sh R h2 P2) (hn : n ≤ 8) (hI : I h2 1 = (n : Int)) (hd : ∀ i, i < 8 → (P i + 7 ≤ P2 i ∨ P2 i + 7 ≤ P i) ∧ (h < P i ∨ P i + 7 ≤ h)) : zE X mX0_become 0 0 0 [zR h, zR h2, zX] [] sh I L R (zEq [] sh (hbc P P2 n 0 (zup I h 1 n)) L R) := by
  obtain ⟨⟨s0, s1, r0⟩, hP, hS⟩ := id hs
  obtain ⟨⟨t0, t1, q0⟩, hP2, hS2⟩ := id hs2
  refine z_aload0 1 dX0_become_0 rfl ?_
  refine z_aload1 2 dX0_become_1 rfl ?_
  refine z_getIx 5 dX0_become_2 fl_RX0_15 (by assumption) (hI) rfl ?_
  refine z_putI 8 dX0_become_5 fp_RX0_15 (by assumption) rfl ?_
  refine z_iconst 9 dX0_become_8 rfl ?_
  refine z_istore2 10 dX0_become_9 (Nat.le_of_ble_eq_true rfl) rfl rfl ?_
  exact lp_X0_become hs hs2 hn hd n 0 _ (by omega) (zup_at _ _ _ _)
end HIST
