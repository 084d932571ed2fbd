/-! ===== what holds of a slide of the law's; its hash; how it stands ===== -/
theorem zor_0 {x : Int} (h : -2147483648 ≤ x ∧ x ≤ 2147483647) : zor x 0 = x := by
  unfold zor
  rw [show Int32.ofInt 0 = 0 from rfl, Int32.or_zero, zn_T h]
theorem zor_r (x y : Int) : -2147483648 ≤ zor x y ∧ zor x y ≤ 2147483647 := z32_r _
def gd (S : zT) : Prop := zSg S ∧ 1 ≤ S 0 6 ∧ zuq S ∧ ∀ r : Nat, (r : Int) < S 0 6 → 1 ≤ S 4 r ∧ (S 6 r = 30 ∨ S 6 r < 8 ∨ (10 ≤ S 6 r ∧ S 6 r < 20))
theorem gd.sr {S : zT} (h : gd S) : zSr S := h.1.1
theorem gd.n5 {S : zT} (h : gd S) : 1 ≤ S 0 6 ∧ S 0 6 ≤ 5 := ⟨h.2.1, h.1.1.1.2⟩
theorem zst_r {P : Nat → Prop} [DecidablePred P] : ∀ (m r : Nat) (x : Int), (-2147483648 ≤ x ∧ x ≤ 2147483647) → -2147483648 ≤ zst P m r x ∧ zst P m r x ≤ 2147483647
  | 0, r, x, h => h
  | m + 1, r, x, h => by
    unfold zst
    refine zst_r m (r + 1) _ ?_
    split
    · exact zor_r _ _
    · exact h
theorem rsm_r {W : Nat → Int} : ∀ (m s : Nat) (x : Int), (∀ j, s ≤ j → j < s + m → 0 ≤ W j ∧ W j ≤ 9) → x ≤ rsm W m s x ∧ rsm W m s x ≤ x + 9 * m
  | 0, s, x, _ => by unfold rsm; omega
  | m + 1, s, x, h => by
    have h0 := h s (by omega) (by omega)
    have h1 := rsm_r m (s + 1) (x + W s) (fun j a b => h j (by omega) (by omega))
    unfold rsm
    omega
theorem oCount_r {A : zA} (h : gd A.1) (k : Int) (hk : 0 ≤ k ∧ k < 7) : -2147483648 ≤ oCount A k ∧ oCount A k ≤ 2147483647 := by
  have h1 := rsm_r (W := A.1 1) 10 0 0 (fun j _ hj => h.sr.2.1 j (by omega))
  have h2 := rsm_r (W := A.1 2) 10 0 0 (fun j _ hj => h.sr.2.2.1 j (by omega))
  have h3 := h.n5
  have h4 := h.1.2.1
  have h5 : -2147483648 ≤ stop_ A.1 ∧ stop_ A.1 ≤ 2147483647 := zst_r _ _ _ (by omega)
  have h6 : -2147483648 ≤ sthr A.1 ∧ sthr A.1 ≤ 2147483647 := zst_r _ _ _ (by omega)
  have h7 : -2147483648 ≤ stak A.1 ∧ stak A.1 ≤ 2147483647 := zst_r _ _ _ (by omega)
  unfold oCount
  repeat' split
  all_goals omega
def ph1 (A : zA) : Nat → Nat → Int → Int
  | 0, _, h => h
  | m + 1, k, h => ph1 A m (k + 1) (31 * h + oCount A (k : Int))
def ph2 (S : zT) : Nat → Nat → Int → Int
  | 0, _, h => h
  | m + 1, t, h => ph2 S m (t + 1) (31 * (31 * h + S 1 t) + S 2 t)
def ph3 (S : zT) : Nat → Nat → Int → Int
  | 0, _, h => h
  | m + 1, r, h => ph3 S m (r + 1) (31 * (31 * h + S 5 r) + S 6 r)
def phash (A : zA) : Int := ph3 A.1 (A.1 0 6).toNat 0 (ph2 A.1 10 0 (ph1 A 7 0 3))
section STANDS
variable {X : zXs} {sh : zH} {J0 K0 : zI2} {Z0 : zR2} {A : zA}
theorem lp_L_hash81 (hs : sh[157]? = some (20, 43)) (hw : J0 157 0 = A.1 0 6) (hg : gd A.1) : ∀ (m r : Nat) (x : Int) (I L : zI2) (R : zR2), r + m = (A.1 0 6).toNat → pH sh J0 K0 Z0 I L R A → zE X mL_hash 0 0 81 [zR 0, zR 157, zL x, zX, zI (r : Int)] [] sh I L R (zOp sh J0 K0 Z0 (zL (ph3 A.1 m r x)) A)
  | 0, r, x, I, L, R, hm, h => by
    have n5 := hg.n5
    refine z_iload4 83 dL_hash_81 rfl ?_
    refine z_aload1 84 dL_hash_83 rfl ?_
    refine z_iconst 85 dL_hash_84 rfl ?_
    refine z_ialdx 86 (0) dL_hash_85 (by assumption) (by omega) (by omega) ((congrFun (h.2 157 (by decide)).1 0).trans hw) rfl ?_
    refine z_icmp_ge 123 89 dL_hash_86 (by decide) rfl (by omega) (by omega) (fun h86 => ?_) (fun hz => absurd hz (by omega))
    refine z_lload2 124 dL_hash_123 rfl ?_
    exact z_lreturn dL_hash_124 rfl (zOp_h h)
  | m + 1, r, x, I, L, R, hm, h => by
    have n5 := hg.n5
    have s0 := h.sh0
    have g5 := hg.sr.2.2.2.2.2.1 r (by omega)
    have g6 := hg.sr.2.2.2.2.2.2 r (by omega)
    refine z_iload4 83 dL_hash_81 rfl ?_
    refine z_aload1 84 dL_hash_83 rfl ?_
    refine z_iconst 85 dL_hash_84 rfl ?_
    refine z_ialdx 86 (0) dL_hash_85 (by assumption) (by omega) (by omega) ((congrFun (h.2 157 (by decide)).1 0).trans hw) rfl ?_
    refine z_icmp_ge 123 89 dL_hash_86 (by decide) rfl (by omega) (by omega) (fun hz => absurd hz (by omega)) (fun h86 => ?_)
    refine z_ldc2 92 dL_hash_89 kl_RL_125 rfl ?_
    refine z_ldc2 95 dL_hash_92 kl_RL_125 rfl ?_
    refine z_lload2 96 dL_hash_95 rfl ?_
    refine z_lmul 97 dL_hash_96 rfl ?_
    refine z_aload0 98 dL_hash_97 rfl ?_
    refine z_iload4 100 dL_hash_98 rfl ?_
    refine z_iconst 101 dL_hash_100 rfl ?_
    refine z_pV2 104 dL_hash_101 lk_L_hash_69 (pc_of2 h (by omega) (by omega)) rfl (Nat.le_of_ble_eq_true rfl) (Nat.le_of_ble_eq_true rfl) (by assumption) rfl rfl (fun r0 sh0 I0 L0 R0 hpq => ?_)
    obtain ⟨rfl, rfl, h⟩ := pO hpq
    refine z_i2l 105 dL_hash_104 (by omega) rfl ?_
    refine z_ladd 106 dL_hash_105 rfl ?_
    refine z_lmul 107 dL_hash_106 rfl ?_
    refine z_aload0 108 dL_hash_107 rfl ?_
    refine z_iload4 110 dL_hash_108 rfl ?_
    refine z_iconst 111 dL_hash_110 rfl ?_
    refine z_pV2 114 dL_hash_111 lk_L_hash_69 (pc_of3 h (by omega) (by omega)) rfl (Nat.le_of_ble_eq_true rfl) (Nat.le_of_ble_eq_true rfl) (by assumption) rfl rfl (fun r0 sh0 I0 L0 R0 hpq => ?_)
    obtain ⟨rfl, rfl, h⟩ := pO hpq
    refine z_i2l 115 dL_hash_114 (by omega) rfl ?_
    refine z_ladd 116 dL_hash_115 rfl ?_
    refine z_lstore2 117 dL_hash_116 (Nat.le_of_ble_eq_true rfl) rfl rfl ?_
    refine z_iinc4 120 dL_hash_117 (Nat.le_of_ble_eq_true rfl) rfl rfl ?_
    refine z_goto 81 dL_hash_120 (by decide) ?_
    exact lp_L_hash81 hs hw hg m (r + 1) _ _ _ _ (by omega) h
theorem lp_L_hash37 (hs : sh[157]? = some (20, 43)) (hw : J0 157 0 = A.1 0 6) (hg : gd A.1) : ∀ (m t : Nat) (x : Int) (I L : zI2) (R : zR2), t + m = 10 → pH sh J0 K0 Z0 I L R A → zE X mL_hash 0 0 37 [zR 0, zR 157, zL x, zX, zI (t : Int)] [] sh I L R (zOp sh J0 K0 Z0 (zL (ph3 A.1 (A.1 0 6).toNat 0 (ph2 A.1 m t x))) A)
  | 0, t, x, I, L, R, hm, h => by
    refine z_iload4 39 dL_hash_37 rfl ?_
    refine z_bipush 41 dL_hash_39 (by decide) rfl ?_
    refine z_icmp_ge 78 44 dL_hash_41 (by decide) rfl (by omega) (by omega) (fun h41 => ?_) (fun hz => absurd hz (by omega))
    refine z_iconst 79 dL_hash_78 rfl ?_
    refine z_istore4 81 dL_hash_79 (Nat.le_of_ble_eq_true rfl) rfl rfl ?_
    exact lp_L_hash81 hs hw hg _ 0 _ _ _ _ (by omega) h
  | m + 1, t, x, I, L, R, hm, h => by
    have s0 := h.sh0
    have g1 := hg.sr.2.1 t (by omega)
    have g2 := hg.sr.2.2.1 t (by omega)
    refine z_iload4 39 dL_hash_37 rfl ?_
    refine z_bipush 41 dL_hash_39 (by decide) rfl ?_
    refine z_icmp_ge 78 44 dL_hash_41 (by decide) rfl (by omega) (by omega) (fun hz => absurd hz (by omega)) (fun h41 => ?_)
    refine z_ldc2 47 dL_hash_44 kl_RL_125 rfl ?_
    refine z_ldc2 50 dL_hash_47 kl_RL_125 rfl ?_
    refine z_lload2 51 dL_hash_50 rfl ?_
    refine z_lmul 52 dL_hash_51 rfl ?_
    refine z_aload0 53 dL_hash_52 rfl ?_
    refine z_iload4 55 dL_hash_53 rfl ?_
    refine z_iconst 56 dL_hash_55 rfl ?_
    refine z_pV2 59 dL_hash_56 lk_L_hash_66 (pc_at0 h (by omega)) rfl (Nat.le_of_ble_eq_true rfl) (Nat.le_of_ble_eq_true rfl) (by assumption) rfl rfl (fun r0 sh0 I0 L0 R0 hpq => ?_)
    obtain ⟨rfl, rfl, h⟩ := pO hpq
    refine z_i2l 60 dL_hash_59 (by omega) rfl ?_
    refine z_ladd 61 dL_hash_60 rfl ?_
    refine z_lmul 62 dL_hash_61 rfl ?_
    refine z_aload0 63 dL_hash_62 rfl ?_
    refine z_iload4 65 dL_hash_63 rfl ?_
    refine z_iconst 66 dL_hash_65 rfl ?_
    refine z_pV2 69 dL_hash_66 lk_L_hash_66 (pc_at1 h (by omega)) rfl (Nat.le_of_ble_eq_true rfl) (Nat.le_of_ble_eq_true rfl) (by assumption) rfl rfl (fun r0 sh0 I0 L0 R0 hpq => ?_)
    obtain ⟨rfl, rfl, h⟩ := pO hpq
    refine z_i2l 70 dL_hash_69 (by omega) rfl ?_
    refine z_ladd 71 dL_hash_70 rfl ?_
    refine z_lstore2 72 dL_hash_71 (Nat.le_of_ble_eq_true rfl) rfl rfl ?_
    refine z_iinc4 75 dL_hash_72 (Nat.le_of_ble_eq_true rfl) rfl rfl ?_
    refine z_goto 37 dL_hash_75 (by decide) ?_
    exact lp_L_hash37 hs hw hg m (t + 1) _ _ _ _ (by omega) h
theorem lp_L_hash7 (hs : sh[157]? = some (20, 43)) (hw : J0 157 0 = A.1 0 6) (hg : gd A.1) : ∀ (m k : Nat) (x : Int) (I L : zI2) (R : zR2), k + m = 7 → pH sh J0 K0 Z0 I L R A → zE X mL_hash 0 0 7 [zR 0, zR 157, zL x, zX, zI (k : Int)] [] sh I L R (zOp sh J0 K0 Z0 (zL (ph3 A.1 (A.1 0 6).toNat 0 (ph2 A.1 10 0 (ph1 A m k x)))) A)
  | 0, k, x, I, L, R, hm, h => by
    refine z_iload4 9 dL_hash_7 rfl ?_
    refine z_bipush 11 dL_hash_9 (by decide) rfl ?_
    refine z_icmp_ge 34 14 dL_hash_11 (by decide) rfl (by omega) (by omega) (fun h11 => ?_) (fun hz => absurd hz (by omega))
    refine z_iconst 35 dL_hash_34 rfl ?_
    refine z_istore4 37 dL_hash_35 (Nat.le_of_ble_eq_true rfl) rfl rfl ?_
    exact lp_L_hash37 hs hw hg 10 0 _ _ _ _ rfl h
  | m + 1, k, x, I, L, R, hm, h => by
    have s0 := h.sh0
    have g := oCount_r hg (k : Int) (by omega)
    refine z_iload4 9 dL_hash_7 rfl ?_
    refine z_bipush 11 dL_hash_9 (by decide) rfl ?_
    refine z_icmp_ge 34 14 dL_hash_11 (by decide) rfl (by omega) (by omega) (fun hz => absurd hz (by omega)) (fun h11 => ?_)
    refine z_ldc2 17 dL_hash_14 kl_RL_125 rfl ?_
    refine z_lload2 18 dL_hash_17 rfl ?_
    refine z_lmul 19 dL_hash_18 rfl ?_
    refine z_aload0 20 dL_hash_19 rfl ?_
    refine z_iload4 22 dL_hash_20 rfl ?_
    refine z_pV1 25 dL_hash_22 lk_L_hash_59 (pc_count h (by omega) rfl) rfl (Nat.le_of_ble_eq_true rfl) (Nat.le_of_ble_eq_true rfl) (by assumption) rfl rfl (fun r0 sh0 I0 L0 R0 hpq => ?_)
    obtain ⟨rfl, rfl, h⟩ := pO hpq
    refine z_i2l 26 dL_hash_25 (by omega) rfl ?_
    refine z_ladd 27 dL_hash_26 rfl ?_
    refine z_lstore2 28 dL_hash_27 (Nat.le_of_ble_eq_true rfl) rfl rfl ?_
    refine z_iinc4 31 dL_hash_28 (Nat.le_of_ble_eq_true rfl) rfl rfl ?_
    refine z_goto 7 dL_hash_31 (by decide) ?_
    exact lp_L_hash7 hs hw hg m (k + 1) _ _ _ _ (by omega) h
theorem ct_L_hash {I L : zI2} {R : zR2} (hs : sh[157]? = some (20, 43)) (hw : J0 157 0 = A.1 0 6) (hg : gd A.1) (h : pH sh J0 K0 Z0 I L R A) : zE X mL_hash 0 0 0 [zR 0, zR 157, zX, zX, zX] [] sh I L R (zOp sh J0 K0 Z0 (zL (phash A)) A) := by
  refine z_ldc2 3 dL_hash_0 kl_RL_123 rfl ?_
  refine z_lstore2 4 dL_hash_3 (Nat.le_of_ble_eq_true rfl) rfl rfl ?_
  refine z_iconst 5 dL_hash_4 rfl ?_
  refine z_istore4 7 dL_hash_5 (Nat.le_of_ble_eq_true rfl) rfl rfl ?_
  exact lp_L_hash7 hs hw hg 7 0 3 _ _ _ rfl h
/-- who is stuck where, told by riders and by turns -/
theorem stk_bit {S : zT} (hg : gd S) {t : Nat} (ht : t < 10) : (¬ sst S t = -4) ↔ ∃ q : Nat, (q : Int) < S 0 6 ∧ S 6 q = 10 + (t : Int) := by
  have n5 := hg.n5
  constructor
  · intro h
    rcases sst_r S t n5.2 with h1 | ⟨h1, h2, h3, h4⟩
    · exact absurd h1 h
    · exact ⟨(sst S t).toNat, by omega, h4⟩
  · rintro ⟨q, h1, h2⟩
    exact zfs_ex h2 _ _ (by omega) (by omega)
theorem sst_of {S : zT} (hg : gd S) {t q : Nat} (ht : t < 10) (h1 : (q : Int) < S 0 6) (h2 : S 6 q = 10 + (t : Int)) : sst S t = (q : Int) := by
  have n5 := hg.n5
  have h := (stk_bit hg ht).mpr ⟨q, h1, h2⟩
  rcases sst_r S t n5.2 with h3 | ⟨h3, h4, h5, h6⟩
  · exact absurd h3 h
  · have := hg.2.2.1 (sst S t).toNat q (by omega) h1 (by omega) (by omega) (by rw [h6, h2])
    omega
theorem stak_c2 {S : zT} (hg : gd S) {c : Nat} (hc : ∀ j, (c.testBit j = true ↔ (j < 10 ∧ ∃ q : Nat, (q : Int) < S 0 6 ∧ S 6 q = 10 + (j : Int)))) : stak S = (c : Int) := by
  obtain ⟨d, h1, h2, h3⟩ := zst_0 (P := fun t => ¬ sst S t = -4) (n := 10) (by omega) (m := 10) (by omega)
  have e : d = c := zb_ext fun j => by
    rw [h3 j, hc j]
    constructor
    · rintro ⟨a, b⟩
      exact ⟨a, (stk_bit hg a).mp b⟩
    · rintro ⟨a, b⟩
      exact ⟨a, (stk_bit hg a).mpr b⟩
  rw [← e]
  exact h1
theorem tl_L_stands317 {x y : Int} {c : Nat} {u v z8 : Int} {z9 : zV} {I L : zI2} {R : zR2} (hg : gd A.1) (h : pH sh J0 K0 Z0 I L R A) (hx : x = stop_ A.1) (hy : y = sthr A.1) (hc : stak A.1 = (c : Int)) (hu : u = rsm (A.1 1) 10 0 0) (hv : v = rsm (A.1 2) 10 0 0) : zE X mL_stands 0 0 317 [zR 0, zR 157, zI x, zI y, zI (c : Int), zI u, zI v, zI 1, zI z8, z9] [] sh I L R (zOp sh J0 K0 Z0 (zI 1) A) := by
  have s0 := h.sh0
  have c2 := oCount_r hg 2 (by omega)
  have c3 := oCount_r hg 3 (by omega)
  have c4 := oCount_r hg 4 (by omega)
  have c5 := oCount_r hg 5 (by omega)
  have c6 := oCount_r hg 6 (by omega)
  have e2 : oCount A 2 = x := hx.symm
  have e3 : oCount A 3 = y := hy.symm
  have e4 : oCount A 4 = (c : Int) := hc
  have e5 : oCount A 5 = u := hu.symm
  have e6 : oCount A 6 = v := hv.symm
  rw [e2] at c2
  rw [e3] at c3
  rw [e4] at c4
  rw [e5] at c5
  rw [e6] at c6
  refine z_iload7 319 dL_stands_317 rfl ?_
  refine z_if_eq 375 322 dL_stands_319 (by decide) rfl (by omega) (fun hz => absurd hz ((by omega))) (fun h319 => ?_)
  refine z_iload2 323 dL_stands_322 rfl ?_
  refine z_aload0 324 dL_stands_323 rfl ?_
  refine z_iconst 325 dL_stands_324 rfl ?_
  refine z_pV1 328 dL_stands_325 lk_L_stands_59 (pc_count h (by omega) e2) rfl (Nat.le_of_ble_eq_true rfl) (Nat.le_of_ble_eq_true rfl) (by assumption) rfl rfl (fun r0 sh0 I0 L0 R0 hpq => ?_)
  obtain ⟨rfl, rfl, h⟩ := pO hpq
  refine z_icmp_ne 375 331 dL_stands_328 (by decide) rfl (by omega) (by omega) (fun hz => absurd hz ((by omega))) (fun h328 => ?_)
  refine z_iload3 332 dL_stands_331 rfl ?_
  refine z_aload0 333 dL_stands_332 rfl ?_
  refine z_iconst 334 dL_stands_333 rfl ?_
  refine z_pV1 337 dL_stands_334 lk_L_stands_59 (pc_count h (by omega) e3) rfl (Nat.le_of_ble_eq_true rfl) (Nat.le_of_ble_eq_true rfl) (by assumption) rfl rfl (fun r0 sh0 I0 L0 R0 hpq => ?_)
  obtain ⟨rfl, rfl, h⟩ := pO hpq
  refine z_icmp_ne 375 340 dL_stands_337 (by decide) rfl (by omega) (by omega) (fun hz => absurd hz ((by omega))) (fun h337 => ?_)
  refine z_iload4 342 dL_stands_340 rfl ?_
  refine z_aload0 343 dL_stands_342 rfl ?_
  refine z_iconst 344 dL_stands_343 rfl ?_
  refine z_pV1 347 dL_stands_344 lk_L_stands_59 (pc_count h (by omega) e4) rfl (Nat.le_of_ble_eq_true rfl) (Nat.le_of_ble_eq_true rfl) (by assumption) rfl rfl (fun r0 sh0 I0 L0 R0 hpq => ?_)
  obtain ⟨rfl, rfl, h⟩ := pO hpq
  refine z_icmp_ne 375 350 dL_stands_347 (by decide) rfl (by omega) (by omega) (fun hz => absurd hz ((by omega))) (fun h347 => ?_)
  refine z_iload5 352 dL_stands_350 rfl ?_
  refine z_aload0 353 dL_stands_352 rfl ?_
  refine z_iconst 354 dL_stands_353 rfl ?_
  refine z_pV1 357 dL_stands_354 lk_L_stands_59 (pc_count h (by omega) e5) rfl (Nat.le_of_ble_eq_true rfl) (Nat.le_of_ble_eq_true rfl) (by assumption) rfl rfl (fun r0 sh0 I0 L0 R0 hpq => ?_)
  obtain ⟨rfl, rfl, h⟩ := pO hpq
  refine z_icmp_ne 375 360 dL_stands_357 (by decide) rfl (by omega) (by omega) (fun hz => absurd hz ((by omega))) (fun h357 => ?_)
  refine z_iload6 362 dL_stands_360 rfl ?_
  refine z_aload0 363 dL_stands_362 rfl ?_
  refine z_bipush 365 dL_stands_363 (by decide) rfl ?_
  refine z_pV1 368 dL_stands_365 lk_L_stands_59 (pc_count h (by omega) e6) rfl (Nat.le_of_ble_eq_true rfl) (Nat.le_of_ble_eq_true rfl) (by assumption) rfl rfl (fun r0 sh0 I0 L0 R0 hpq => ?_)
  obtain ⟨rfl, rfl, h⟩ := pO hpq
  refine z_icmp_ne 375 371 dL_stands_368 (by decide) rfl (by omega) (by omega) (fun hz => absurd hz ((by omega))) (fun h368 => ?_)
  refine z_iconst 372 dL_stands_371 rfl ?_
  refine z_goto 376 dL_stands_372 (by decide) ?_
  exact z_zreturn dL_stands_376 rfl (by omega) (zOp_h h)
theorem lp_L_stands189 {x y : Int} {c : Nat} (hg : gd A.1) (hx : x = stop_ A.1) (hy : y = sthr A.1) (hc2 : c < 2 ^ 10) (hc : ∀ j, (c.testBit j = true ↔ (j < 10 ∧ ∃ q : Nat, (q : Int) < A.1 0 6 ∧ A.1 6 q = 10 + (j : Int)))) : ∀ (m t : Nat) (u v : Int) (z9 : zV) (I L : zI2) (R : zR2), t + m = 10 → (0 ≤ u ∧ u ≤ 9 * t) → (0 ≤ v ∧ v ≤ 9 * t) → rsm (A.1 1) m t u = rsm (A.1 1) 10 0 0 → rsm (A.1 2) m t v = rsm (A.1 2) 10 0 0 → pH sh J0 K0 Z0 I L R A → zE X mL_stands 0 0 189 [zR 0, zR 157, zI x, zI y, zI (c : Int), zI u, zI v, zI 1, zI (t : Int), z9] [] sh I L R (zOp sh J0 K0 Z0 (zI 1) A)
  | 0, t, u, v, z9, I, L, R, hm, hu, hv, eu, ev, h => by
    refine z_iload8 191 dL_stands_189 rfl ?_
    refine z_bipush 193 dL_stands_191 (by decide) rfl ?_
    refine z_icmp_ge 317 196 dL_stands_193 (by decide) rfl (by omega) (by omega) (fun h193 => ?_) (fun hz => absurd hz (by omega))
    exact tl_L_stands317 hg h hx hy (stak_c2 hg hc) eu ev
  | m + 1, t, u, v, z9, I, L, R, hm, hu, hv, eu, ev, h => by
    have s0 := h.sh0
    have n5 := hg.n5
    have g1 := hg.sr.2.1 t (by omega)
    have g2 := hg.sr.2.2.1 t (by omega)
    have gs := sst_r A.1 t n5.2
    have eb : zand (zshr (c : Int) (t : Int)) 1 = bti c t := zb_bit (by omega) (by omega)
    have hk := hc t
    have hb := stk_bit hg (t := t) (by omega)
    have br := bti_r c t
    have kk := fun z9 I L R => lp_L_stands189 hg hx hy hc2 hc m (t + 1) (u + A.1 1 t) (v + A.1 2 t) z9 I L R (by omega) (by omega) (by omega) eu ev
    by_cases hst : sst A.1 t = -4
    · have b0 : bti c t = 0 := bti_0.mpr (by
        rw [Bool.eq_false_iff]
        intro z
        exact hb.mpr (hk.mp z).2 hst)
      clear hk hb
      refine z_iload8 191 dL_stands_189 rfl ?_
      refine z_bipush 193 dL_stands_191 (by decide) rfl ?_
      refine z_icmp_ge 317 196 dL_stands_193 (by decide) rfl (by omega) (by omega) (fun hz => absurd hz (by omega)) (fun h193 => ?_)
      refine z_iload7 198 dL_stands_196 rfl ?_
      refine z_if_eq 317 201 dL_stands_198 (by decide) rfl (by omega) (fun hz => absurd hz ((by omega))) (fun h198 => ?_)
      refine z_iload5 203 dL_stands_201 rfl ?_
      refine z_aload0 204 dL_stands_203 rfl ?_
      refine z_iload8 206 dL_stands_204 rfl ?_
      refine z_iconst 207 dL_stands_206 rfl ?_
      refine z_pV2 210 dL_stands_207 lk_L_stands_66 (pc_at0 h (by omega)) rfl (Nat.le_of_ble_eq_true rfl) (Nat.le_of_ble_eq_true rfl) (by assumption) rfl rfl (fun r0 sh0 I0 L0 R0 hpq => ?_)
      obtain ⟨rfl, rfl, h⟩ := pO hpq
      refine z_iadd 211 dL_stands_210 rfl ?_
      refine z_istore5 213 dL_stands_211 (Nat.le_of_ble_eq_true rfl) rfl rfl ?_
      refine z_iload6 215 dL_stands_213 rfl ?_
      refine z_aload0 216 dL_stands_215 rfl ?_
      refine z_iload8 218 dL_stands_216 rfl ?_
      refine z_iconst 219 dL_stands_218 rfl ?_
      refine z_pV2 222 dL_stands_219 lk_L_stands_66 (pc_at1 h (by omega)) rfl (Nat.le_of_ble_eq_true rfl) (Nat.le_of_ble_eq_true rfl) (by assumption) rfl rfl (fun r0 sh0 I0 L0 R0 hpq => ?_)
      obtain ⟨rfl, rfl, h⟩ := pO hpq
      refine z_iadd 223 dL_stands_222 rfl ?_
      refine z_istore6 225 dL_stands_223 (Nat.le_of_ble_eq_true rfl) rfl rfl ?_
      refine z_aload0 226 dL_stands_225 rfl ?_
      refine z_iload8 228 dL_stands_226 rfl ?_
      refine z_iconst 229 dL_stands_228 rfl ?_
      refine z_pV2 232 dL_stands_229 lk_L_stands_66 (pc_at0 h (by omega)) rfl (Nat.le_of_ble_eq_true rfl) (Nat.le_of_ble_eq_true rfl) (by assumption) rfl rfl (fun r0 sh0 I0 L0 R0 hpq => ?_)
      obtain ⟨rfl, rfl, h⟩ := pO hpq
      refine z_if_lt 308 235 dL_stands_232 (by decide) rfl (by omega) (fun hz => absurd hz (by omega)) (fun h232 => ?_)
      refine z_aload0 236 dL_stands_235 rfl ?_
      refine z_iload8 238 dL_stands_236 rfl ?_
      refine z_iconst 239 dL_stands_238 rfl ?_
      refine z_pV2 242 dL_stands_239 lk_L_stands_66 (pc_at0 h (by omega)) rfl (Nat.le_of_ble_eq_true rfl) (Nat.le_of_ble_eq_true rfl) (by assumption) rfl rfl (fun r0 sh0 I0 L0 R0 hpq => ?_)
      obtain ⟨rfl, rfl, h⟩ := pO hpq
      refine z_bipush 244 dL_stands_242 (by decide) rfl ?_
      refine z_icmp_ge 308 247 dL_stands_244 (by decide) rfl (by omega) (by omega) (fun hz => absurd hz (by omega)) (fun h244 => ?_)
      refine z_aload0 248 dL_stands_247 rfl ?_
      refine z_iload8 250 dL_stands_248 rfl ?_
      refine z_iconst 251 dL_stands_250 rfl ?_
      refine z_pV2 254 dL_stands_251 lk_L_stands_66 (pc_at1 h (by omega)) rfl (Nat.le_of_ble_eq_true rfl) (Nat.le_of_ble_eq_true rfl) (by assumption) rfl rfl (fun r0 sh0 I0 L0 R0 hpq => ?_)
      obtain ⟨rfl, rfl, h⟩ := pO hpq
      refine z_if_lt 308 257 dL_stands_254 (by decide) rfl (by omega) (fun hz => absurd hz (by omega)) (fun h254 => ?_)
      refine z_aload0 258 dL_stands_257 rfl ?_
      refine z_iload8 260 dL_stands_258 rfl ?_
      refine z_iconst 261 dL_stands_260 rfl ?_
      refine z_pV2 264 dL_stands_261 lk_L_stands_66 (pc_at1 h (by omega)) rfl (Nat.le_of_ble_eq_true rfl) (Nat.le_of_ble_eq_true rfl) (by assumption) rfl rfl (fun r0 sh0 I0 L0 R0 hpq => ?_)
      obtain ⟨rfl, rfl, h⟩ := pO hpq
      refine z_bipush 266 dL_stands_264 (by decide) rfl ?_
      refine z_icmp_ge 308 269 dL_stands_266 (by decide) rfl (by omega) (by omega) (fun hz => absurd hz (by omega)) (fun h266 => ?_)
      refine z_aload0 270 dL_stands_269 rfl ?_
      refine z_iload8 272 dL_stands_270 rfl ?_
      refine z_iconst 273 dL_stands_272 rfl ?_
      refine z_pV2 276 dL_stands_273 lk_L_stands_66 (pc_at2 h (by omega)) rfl (Nat.le_of_ble_eq_true rfl) (Nat.le_of_ble_eq_true rfl) (by assumption) rfl rfl (fun r0 sh0 I0 L0 R0 hpq => ?_)
      obtain ⟨rfl, rfl, h⟩ := pO hpq
      refine z_bipush 278 dL_stands_276 (by decide) rfl ?_
      refine z_icmp_ne 285 281 dL_stands_278 (by decide) rfl (by omega) (by omega) (fun hz => absurd hz ((not_not_intro hst))) (fun h278 => ?_)
      refine z_iconst 282 dL_stands_281 rfl ?_
      refine z_goto 286 dL_stands_282 (by decide) ?_
      refine z_iload4 288 dL_stands_286 rfl ?_
      refine z_iload8 290 dL_stands_288 rfl ?_
      refine z_ishr 291 dL_stands_290 rfl ?_
      refine z_iconst 292 dL_stands_291 rfl ?_
      refine z_iand 293 dL_stands_292 rfl ?_
      rw [eb]
      refine z_if_ne 300 296 dL_stands_293 (by decide) rfl (by omega) (fun hz => absurd hz (by omega)) (fun h293 => ?_)
      refine z_iconst 297 dL_stands_296 rfl ?_
      refine z_goto 301 dL_stands_297 (by decide) ?_
      refine z_icmp_ne 308 304 dL_stands_301 (by decide) rfl (by omega) (by omega) (fun hz => absurd hz ((by omega))) (fun h301 => ?_)
      refine z_iconst 305 dL_stands_304 rfl ?_
      refine z_goto 309 dL_stands_305 (by decide) ?_
      refine z_istore7 311 dL_stands_309 (Nat.le_of_ble_eq_true rfl) rfl rfl ?_
      refine z_iinc8 314 dL_stands_311 (Nat.le_of_ble_eq_true rfl) rfl rfl ?_
      refine z_goto 189 dL_stands_314 (by decide) ?_
      exact kk _ _ _ _ h
    · have b0 : bti c t = 1 := bti_1.mpr (hk.mpr ⟨by omega, hb.mp hst⟩)
      clear hk hb
      refine z_iload8 191 dL_stands_189 rfl ?_
      refine z_bipush 193 dL_stands_191 (by decide) rfl ?_
      refine z_icmp_ge 317 196 dL_stands_193 (by decide) rfl (by omega) (by omega) (fun hz => absurd hz (by omega)) (fun h193 => ?_)
      refine z_iload7 198 dL_stands_196 rfl ?_
      refine z_if_eq 317 201 dL_stands_198 (by decide) rfl (by omega) (fun hz => absurd hz ((by omega))) (fun h198 => ?_)
      refine z_iload5 203 dL_stands_201 rfl ?_
      refine z_aload0 204 dL_stands_203 rfl ?_
      refine z_iload8 206 dL_stands_204 rfl ?_
      refine z_iconst 207 dL_stands_206 rfl ?_
      refine z_pV2 210 dL_stands_207 lk_L_stands_66 (pc_at0 h (by omega)) rfl (Nat.le_of_ble_eq_true rfl) (Nat.le_of_ble_eq_true rfl) (by assumption) rfl rfl (fun r0 sh0 I0 L0 R0 hpq => ?_)
      obtain ⟨rfl, rfl, h⟩ := pO hpq
      refine z_iadd 211 dL_stands_210 rfl ?_
      refine z_istore5 213 dL_stands_211 (Nat.le_of_ble_eq_true rfl) rfl rfl ?_
      refine z_iload6 215 dL_stands_213 rfl ?_
      refine z_aload0 216 dL_stands_215 rfl ?_
      refine z_iload8 218 dL_stands_216 rfl ?_
      refine z_iconst 219 dL_stands_218 rfl ?_
      refine z_pV2 222 dL_stands_219 lk_L_stands_66 (pc_at1 h (by omega)) rfl (Nat.le_of_ble_eq_true rfl) (Nat.le_of_ble_eq_true rfl) (by assumption) rfl rfl (fun r0 sh0 I0 L0 R0 hpq => ?_)
      obtain ⟨rfl, rfl, h⟩ := pO hpq
      refine z_iadd 223 dL_stands_222 rfl ?_
      refine z_istore6 225 dL_stands_223 (Nat.le_of_ble_eq_true rfl) rfl rfl ?_
      refine z_aload0 226 dL_stands_225 rfl ?_
      refine z_iload8 228 dL_stands_226 rfl ?_
      refine z_iconst 229 dL_stands_228 rfl ?_
      refine z_pV2 232 dL_stands_229 lk_L_stands_66 (pc_at0 h (by omega)) rfl (Nat.le_of_ble_eq_true rfl) (Nat.le_of_ble_eq_true rfl) (by assumption) rfl rfl (fun r0 sh0 I0 L0 R0 hpq => ?_)
      obtain ⟨rfl, rfl, h⟩ := pO hpq
      refine z_if_lt 308 235 dL_stands_232 (by decide) rfl (by omega) (fun hz => absurd hz (by omega)) (fun h232 => ?_)
      refine z_aload0 236 dL_stands_235 rfl ?_
      refine z_iload8 238 dL_stands_236 rfl ?_
      refine z_iconst 239 dL_stands_238 rfl ?_
      refine z_pV2 242 dL_stands_239 lk_L_stands_66 (pc_at0 h (by omega)) rfl (Nat.le_of_ble_eq_true rfl) (Nat.le_of_ble_eq_true rfl) (by assumption) rfl rfl (fun r0 sh0 I0 L0 R0 hpq => ?_)
      obtain ⟨rfl, rfl, h⟩ := pO hpq
      refine z_bipush 244 dL_stands_242 (by decide) rfl ?_
      refine z_icmp_ge 308 247 dL_stands_244 (by decide) rfl (by omega) (by omega) (fun hz => absurd hz (by omega)) (fun h244 => ?_)
      refine z_aload0 248 dL_stands_247 rfl ?_
      refine z_iload8 250 dL_stands_248 rfl ?_
      refine z_iconst 251 dL_stands_250 rfl ?_
      refine z_pV2 254 dL_stands_251 lk_L_stands_66 (pc_at1 h (by omega)) rfl (Nat.le_of_ble_eq_true rfl) (Nat.le_of_ble_eq_true rfl) (by assumption) rfl rfl (fun r0 sh0 I0 L0 R0 hpq => ?_)
      obtain ⟨rfl, rfl, h⟩ := pO hpq
      refine z_if_lt 308 257 dL_stands_254 (by decide) rfl (by omega) (fun hz => absurd hz (by omega)) (fun h254 => ?_)
      refine z_aload0 258 dL_stands_257 rfl ?_
      refine z_iload8 260 dL_stands_258 rfl ?_
      refine z_iconst 261 dL_stands_260 rfl ?_
      refine z_pV2 264 dL_stands_261 lk_L_stands_66 (pc_at1 h (by omega)) rfl (Nat.le_of_ble_eq_true rfl) (Nat.le_of_ble_eq_true rfl) (by assumption) rfl rfl (fun r0 sh0 I0 L0 R0 hpq => ?_)
      obtain ⟨rfl, rfl, h⟩ := pO hpq
      refine z_bipush 266 dL_stands_264 (by decide) rfl ?_
      refine z_icmp_ge 308 269 dL_stands_266 (by decide) rfl (by omega) (by omega) (fun hz => absurd hz (by omega)) (fun h266 => ?_)
      refine z_aload0 270 dL_stands_269 rfl ?_
      refine z_iload8 272 dL_stands_270 rfl ?_
      refine z_iconst 273 dL_stands_272 rfl ?_
      refine z_pV2 276 dL_stands_273 lk_L_stands_66 (pc_at2 h (by omega)) rfl (Nat.le_of_ble_eq_true rfl) (Nat.le_of_ble_eq_true rfl) (by assumption) rfl rfl (fun r0 sh0 I0 L0 R0 hpq => ?_)
      obtain ⟨rfl, rfl, h⟩ := pO hpq
      refine z_bipush 278 dL_stands_276 (by decide) rfl ?_
      refine z_icmp_ne 285 281 dL_stands_278 (by decide) rfl (by omega) (by omega) (fun h278 => ?_) (fun hz => absurd hz (hst))
      refine z_iconst 286 dL_stands_285 rfl ?_
      refine z_iload4 288 dL_stands_286 rfl ?_
      refine z_iload8 290 dL_stands_288 rfl ?_
      refine z_ishr 291 dL_stands_290 rfl ?_
      refine z_iconst 292 dL_stands_291 rfl ?_
      refine z_iand 293 dL_stands_292 rfl ?_
      rw [eb]
      refine z_if_ne 300 296 dL_stands_293 (by decide) rfl (by omega) (fun h293 => ?_) (fun hz => absurd hz (by omega))
      refine z_iconst 301 dL_stands_300 rfl ?_
      refine z_icmp_ne 308 304 dL_stands_301 (by decide) rfl (by omega) (by omega) (fun hz => absurd hz ((by omega))) (fun h301 => ?_)
      refine z_iconst 305 dL_stands_304 rfl ?_
      refine z_goto 309 dL_stands_305 (by decide) ?_
      refine z_istore7 311 dL_stands_309 (Nat.le_of_ble_eq_true rfl) rfl rfl ?_
      refine z_iinc8 314 dL_stands_311 (Nat.le_of_ble_eq_true rfl) rfl rfl ?_
      refine z_goto 189 dL_stands_314 (by decide) ?_
      exact kk _ _ _ _ h
theorem lp_L_stands19 (hs : sh[157]? = some (20, 43)) (hw : J0 157 0 = A.1 0 6) (hg : gd A.1) : ∀ (m r : Nat) (x y : Int) (c : Nat) (z9 : zV) (I L : zI2) (R : zR2), r + m = (A.1 0 6).toNat → (-2147483648 ≤ x ∧ x ≤ 2147483647) → (-2147483648 ≤ y ∧ y ≤ 2147483647) → zst (fun r => A.1 6 r = 30) m r x = stop_ A.1 → zst (fun r => 0 ≤ A.1 6 r ∧ A.1 6 r ≤ 7) m r y = sthr A.1 → c < 2 ^ 10 → (∀ j, (c.testBit j = true ↔ (j < 10 ∧ ∃ q : Nat, q < r ∧ A.1 6 q = 10 + (j : Int)))) → pH sh J0 K0 Z0 I L R A → zE X mL_stands 0 0 19 [zR 0, zR 157, zI x, zI y, zI (c : Int), zI 0, zI 0, zI 1, zI (r : Int), z9] [] sh I L R (zOp sh J0 K0 Z0 (zI 1) A)
  | 0, r, x, y, c, z9, I, L, R, hm, hx, hy, ex, ey, hc2, hc, h => by
    have n5 := hg.n5
    refine z_iload8 21 dL_stands_19 rfl ?_
    refine z_aload1 22 dL_stands_21 rfl ?_
    refine z_iconst 23 dL_stands_22 rfl ?_
    refine z_ialdx 24 (0) dL_stands_23 (by assumption) (by omega) (by omega) ((congrFun (h.2 157 (by decide)).1 0).trans hw) rfl ?_
    refine z_icmp_ge 186 27 dL_stands_24 (by decide) rfl (by omega) (by omega) (fun h24 => ?_) (fun hz => absurd hz (by omega))
    refine z_iconst 187 dL_stands_186 rfl ?_
    refine z_istore8 189 dL_stands_187 (Nat.le_of_ble_eq_true rfl) rfl rfl ?_
    exact lp_L_stands189 hg ex ey hc2 (fun j => by rw [hc j]; constructor <;> (rintro ⟨a, q, b, d⟩; exact ⟨a, q, by omega, d⟩)) 10 0 0 0 _ _ _ _ rfl (by omega) (by omega) rfl rfl h
  | m + 1, r, x, y, c, z9, I, L, R, hm, hx, hy, ex, ey, hc2, hc, h => by
    have s0 := h.sh0
    have n5 := hg.n5
    have g6 := hg.sr.2.2.2.2.2.2 r (by omega)
    have hr : (r : Int) < A.1 0 6 := by omega
    have h10 : (2 : Nat) ^ 10 = 1024 := by decide
    rcases (hg.2.2.2 r hr).2 with hp | hp | hp
    · have ex' : zst (fun r => A.1 6 r = 30) m (r + 1) (zor x (zshl 1 (r : Int))) = stop_ A.1 := by rw [zst, if_pos hp] at ex; exact ex
      have ey' : zst (fun r => 0 ≤ A.1 6 r ∧ A.1 6 r ≤ 7) m (r + 1) y = sthr A.1 := by rw [zst, if_neg (by omega)] at ey; exact ey
      have kk := fun z9 I L R => lp_L_stands19 hs hw hg m (r + 1) (zor x (zshl 1 (r : Int))) y c z9 I L R (by omega) (zor_r _ _) hy ex' ey' hc2 (fun j => by
        rw [hc j]
        constructor
        · rintro ⟨a, q, b, d⟩
          exact ⟨a, q, by omega, d⟩
        · rintro ⟨a, q, b, d⟩
          by_cases e : q = r
          · subst e; omega
          · exact ⟨a, q, by omega, d⟩)
      refine z_iload8 21 dL_stands_19 rfl ?_
      refine z_aload1 22 dL_stands_21 rfl ?_
      refine z_iconst 23 dL_stands_22 rfl ?_
      refine z_ialdx 24 (0) dL_stands_23 (by assumption) (by omega) (by omega) ((congrFun (h.2 157 (by decide)).1 0).trans hw) rfl ?_
      refine z_icmp_ge 186 27 dL_stands_24 (by decide) rfl (by omega) (by omega) (fun hz => absurd hz (by omega)) (fun h24 => ?_)
      refine z_iload7 29 dL_stands_27 rfl ?_
      refine z_if_eq 186 32 dL_stands_29 (by decide) rfl (by omega) (fun hz => absurd hz ((by omega))) (fun h29 => ?_)
      refine z_aload0 33 dL_stands_32 rfl ?_
      refine z_iload8 35 dL_stands_33 rfl ?_
      refine z_iconst 36 dL_stands_35 rfl ?_
      refine z_pV2 39 dL_stands_36 lk_L_stands_69 (pc_of3 h (by omega) (by omega)) rfl (Nat.le_of_ble_eq_true rfl) (Nat.le_of_ble_eq_true rfl) (by assumption) rfl rfl (fun r0 sh0 I0 L0 R0 hpq => ?_)
      obtain ⟨rfl, rfl, h⟩ := pO hpq
      refine z_istore9 41 dL_stands_39 (Nat.le_of_ble_eq_true rfl) rfl rfl ?_
      refine z_iload9 43 dL_stands_41 rfl ?_
      refine z_bipush 45 dL_stands_43 (by decide) rfl ?_
      refine z_icmp_eq 102 48 dL_stands_45 (by decide) rfl (by omega) (by omega) (fun h45 => ?_) (fun hz => absurd hz (by omega))
      refine z_iconst 103 dL_stands_102 rfl ?_
      refine z_goto 107 dL_stands_103 (by decide) ?_
      refine z_istore7 109 dL_stands_107 (Nat.le_of_ble_eq_true rfl) rfl rfl ?_
      refine z_iload2 110 dL_stands_109 rfl ?_
      refine z_iload9 112 dL_stands_110 rfl ?_
      refine z_bipush 114 dL_stands_112 (by decide) rfl ?_
      refine z_icmp_ne 124 117 dL_stands_114 (by decide) rfl (by omega) (by omega) (fun hz => absurd hz (by omega)) (fun h114 => ?_)
      refine z_iconst 118 dL_stands_117 rfl ?_
      refine z_iload8 120 dL_stands_118 rfl ?_
      refine z_ishl 121 dL_stands_120 rfl ?_
      refine z_goto 125 dL_stands_121 (by decide) ?_
      refine z_ior 126 dL_stands_125 rfl ?_
      refine z_istore2 127 dL_stands_126 (Nat.le_of_ble_eq_true rfl) rfl rfl ?_
      refine z_iload3 128 dL_stands_127 rfl ?_
      refine z_iload9 130 dL_stands_128 rfl ?_
      refine z_bipush 132 dL_stands_130 (by decide) rfl ?_
      refine z_icmp_ge 142 135 dL_stands_132 (by decide) rfl (by omega) (by omega) (fun h132 => ?_) (fun hz => absurd hz (by omega))
      refine z_iconst 143 dL_stands_142 rfl ?_
      refine z_ior 144 dL_stands_143 rfl ?_
      rw [zor_0 hy]
      refine z_istore3 145 dL_stands_144 (Nat.le_of_ble_eq_true rfl) rfl rfl ?_
      refine z_iload4 147 dL_stands_145 rfl ?_
      refine z_iload7 149 dL_stands_147 rfl ?_
      refine z_if_eq 176 152 dL_stands_149 (by decide) rfl (by omega) (fun hz => absurd hz ((by omega))) (fun h149 => ?_)
      refine z_iload9 154 dL_stands_152 rfl ?_
      refine z_bipush 156 dL_stands_154 (by decide) rfl ?_
      refine z_icmp_le 176 159 dL_stands_156 (by decide) rfl (by omega) (by omega) (fun hz => absurd hz (by omega)) (fun h156 => ?_)
      refine z_iload9 161 dL_stands_159 rfl ?_
      refine z_bipush 163 dL_stands_161 (by decide) rfl ?_
      refine z_icmp_ge 176 166 dL_stands_163 (by decide) rfl (by omega) (by omega) (fun h163 => ?_) (fun hz => absurd hz (by omega))
      refine z_iconst 177 dL_stands_176 rfl ?_
      refine z_ior 178 dL_stands_177 rfl ?_
      rw [zor_0 (by omega)]
      refine z_istore4 180 dL_stands_178 (Nat.le_of_ble_eq_true rfl) rfl rfl ?_
      refine z_iinc8 183 dL_stands_180 (Nat.le_of_ble_eq_true rfl) rfl rfl ?_
      refine z_goto 19 dL_stands_183 (by decide) ?_
      exact kk _ _ _ _ h
    · have ex' : zst (fun r => A.1 6 r = 30) m (r + 1) x = stop_ A.1 := by rw [zst, if_neg (by omega)] at ex; exact ex
      have ey' : zst (fun r => 0 ≤ A.1 6 r ∧ A.1 6 r ≤ 7) m (r + 1) (zor y (zshl 1 (r : Int))) = sthr A.1 := by rw [zst, if_pos (by omega)] at ey; exact ey
      have kk := fun z9 I L R => lp_L_stands19 hs hw hg m (r + 1) x (zor y (zshl 1 (r : Int))) c z9 I L R (by omega) hx (zor_r _ _) ex' ey' hc2 (fun j => by
        rw [hc j]
        constructor
        · rintro ⟨a, q, b, d⟩
          exact ⟨a, q, by omega, d⟩
        · rintro ⟨a, q, b, d⟩
          by_cases e : q = r
          · subst e; omega
          · exact ⟨a, q, by omega, d⟩)
      refine z_iload8 21 dL_stands_19 rfl ?_
      refine z_aload1 22 dL_stands_21 rfl ?_
      refine z_iconst 23 dL_stands_22 rfl ?_
      refine z_ialdx 24 (0) dL_stands_23 (by assumption) (by omega) (by omega) ((congrFun (h.2 157 (by decide)).1 0).trans hw) rfl ?_
      refine z_icmp_ge 186 27 dL_stands_24 (by decide) rfl (by omega) (by omega) (fun hz => absurd hz (by omega)) (fun h24 => ?_)
      refine z_iload7 29 dL_stands_27 rfl ?_
      refine z_if_eq 186 32 dL_stands_29 (by decide) rfl (by omega) (fun hz => absurd hz ((by omega))) (fun h29 => ?_)
      refine z_aload0 33 dL_stands_32 rfl ?_
      refine z_iload8 35 dL_stands_33 rfl ?_
      refine z_iconst 36 dL_stands_35 rfl ?_
      refine z_pV2 39 dL_stands_36 lk_L_stands_69 (pc_of3 h (by omega) (by omega)) rfl (Nat.le_of_ble_eq_true rfl) (Nat.le_of_ble_eq_true rfl) (by assumption) rfl rfl (fun r0 sh0 I0 L0 R0 hpq => ?_)
      obtain ⟨rfl, rfl, h⟩ := pO hpq
      refine z_istore9 41 dL_stands_39 (Nat.le_of_ble_eq_true rfl) rfl rfl ?_
      refine z_iload9 43 dL_stands_41 rfl ?_
      refine z_bipush 45 dL_stands_43 (by decide) rfl ?_
      refine z_icmp_eq 102 48 dL_stands_45 (by decide) rfl (by omega) (by omega) (fun hz => absurd hz (by omega)) (fun h45 => ?_)
      refine z_iload9 50 dL_stands_48 rfl ?_
      refine z_if_lt 60 53 dL_stands_50 (by decide) rfl (by omega) (fun hz => absurd hz (by omega)) (fun h50 => ?_)
      refine z_iload9 55 dL_stands_53 rfl ?_
      refine z_bipush 57 dL_stands_55 (by decide) rfl ?_
      refine z_icmp_lt 102 60 dL_stands_57 (by decide) rfl (by omega) (by omega) (fun h57 => ?_) (fun hz => absurd hz (by omega))
      refine z_iconst 103 dL_stands_102 rfl ?_
      refine z_goto 107 dL_stands_103 (by decide) ?_
      refine z_istore7 109 dL_stands_107 (Nat.le_of_ble_eq_true rfl) rfl rfl ?_
      refine z_iload2 110 dL_stands_109 rfl ?_
      refine z_iload9 112 dL_stands_110 rfl ?_
      refine z_bipush 114 dL_stands_112 (by decide) rfl ?_
      refine z_icmp_ne 124 117 dL_stands_114 (by decide) rfl (by omega) (by omega) (fun h114 => ?_) (fun hz => absurd hz (by omega))
      refine z_iconst 125 dL_stands_124 rfl ?_
      refine z_ior 126 dL_stands_125 rfl ?_
      rw [zor_0 hx]
      refine z_istore2 127 dL_stands_126 (Nat.le_of_ble_eq_true rfl) rfl rfl ?_
      refine z_iload3 128 dL_stands_127 rfl ?_
      refine z_iload9 130 dL_stands_128 rfl ?_
      refine z_bipush 132 dL_stands_130 (by decide) rfl ?_
      refine z_icmp_ge 142 135 dL_stands_132 (by decide) rfl (by omega) (by omega) (fun hz => absurd hz (by omega)) (fun h132 => ?_)
      refine z_iconst 136 dL_stands_135 rfl ?_
      refine z_iload8 138 dL_stands_136 rfl ?_
      refine z_ishl 139 dL_stands_138 rfl ?_
      refine z_goto 143 dL_stands_139 (by decide) ?_
      refine z_ior 144 dL_stands_143 rfl ?_
      refine z_istore3 145 dL_stands_144 (Nat.le_of_ble_eq_true rfl) rfl rfl ?_
      refine z_iload4 147 dL_stands_145 rfl ?_
      refine z_iload7 149 dL_stands_147 rfl ?_
      refine z_if_eq 176 152 dL_stands_149 (by decide) rfl (by omega) (fun hz => absurd hz ((by omega))) (fun h149 => ?_)
      refine z_iload9 154 dL_stands_152 rfl ?_
      refine z_bipush 156 dL_stands_154 (by decide) rfl ?_
      refine z_icmp_le 176 159 dL_stands_156 (by decide) rfl (by omega) (by omega) (fun h156 => ?_) (fun hz => absurd hz (by omega))
      refine z_iconst 177 dL_stands_176 rfl ?_
      refine z_ior 178 dL_stands_177 rfl ?_
      rw [zor_0 (by omega)]
      refine z_istore4 180 dL_stands_178 (Nat.le_of_ble_eq_true rfl) rfl rfl ?_
      refine z_iinc8 183 dL_stands_180 (Nat.le_of_ble_eq_true rfl) rfl rfl ?_
      refine z_goto 19 dL_stands_183 (by decide) ?_
      exact kk _ _ _ _ h
    · obtain ⟨p, ep⟩ : ∃ p : Nat, A.1 6 r = 10 + (p : Int) := ⟨(A.1 6 r - 10).toNat, by omega⟩
      have e10 : 10 + (p : Int) - 10 = (p : Int) := by omega
      have p10 : p < 10 := by omega
      have hst := sst_of hg p10 hr ep
      have eb : zand (zshr (c : Int) (p : Int)) 1 = bti c p := zb_bit (by omega) (by omega)
      have b0 : bti c p = 0 := bti_0.mpr (by
        rw [Bool.eq_false_iff]
        intro z
        obtain ⟨_, q, q1, q2⟩ := (hc p).mp z
        have := hg.2.2.1 q r (by omega) hr (by omega) (by omega) (by omega)
        omega)
      have hor : zor (c : Int) (zshl 1 (p : Int)) = ((c ||| 2 ^ p : Nat) : Int) := by
        have : (2 : Nat) ^ p < 2 ^ 10 := Nat.pow_lt_pow_right (by omega) p10
        rw [zb_shl (by omega), zb_or (by omega) (by omega)]
      have hp2 : (2 : Nat) ^ p < 2 ^ 10 := Nat.pow_lt_pow_right (by omega) p10
      have ex' : zst (fun r => A.1 6 r = 30) m (r + 1) x = stop_ A.1 := by rw [zst, if_neg (by omega)] at ex; exact ex
      have ey' : zst (fun r => 0 ≤ A.1 6 r ∧ A.1 6 r ≤ 7) m (r + 1) y = sthr A.1 := by rw [zst, if_neg (by omega)] at ey; exact ey
      have kk := fun z9 I L R => lp_L_stands19 hs hw hg m (r + 1) x y (c ||| 2 ^ p) z9 I L R (by omega) hx hy ex' ey' (Nat.or_lt_two_pow hc2 hp2) (fun j => by
        rw [zb_tor, Bool.or_eq_true, decide_eq_true_eq, hc j]
        constructor
        · rintro (⟨a, q, b, d⟩ | a)
          · exact ⟨a, q, by omega, d⟩
          · subst a; exact ⟨p10, r, by omega, ep⟩
        · rintro ⟨a, q, b, d⟩
          by_cases e : q = r
          · subst e; exact Or.inr (by omega)
          · exact Or.inl ⟨a, q, by omega, d⟩)
      refine z_iload8 21 dL_stands_19 rfl ?_
      refine z_aload1 22 dL_stands_21 rfl ?_
      refine z_iconst 23 dL_stands_22 rfl ?_
      refine z_ialdx 24 (0) dL_stands_23 (by assumption) (by omega) (by omega) ((congrFun (h.2 157 (by decide)).1 0).trans hw) rfl ?_
      refine z_icmp_ge 186 27 dL_stands_24 (by decide) rfl (by omega) (by omega) (fun hz => absurd hz (by omega)) (fun h24 => ?_)
      refine z_iload7 29 dL_stands_27 rfl ?_
      refine z_if_eq 186 32 dL_stands_29 (by decide) rfl (by omega) (fun hz => absurd hz ((by omega))) (fun h29 => ?_)
      refine z_aload0 33 dL_stands_32 rfl ?_
      refine z_iload8 35 dL_stands_33 rfl ?_
      refine z_iconst 36 dL_stands_35 rfl ?_
      refine z_pV2 39 dL_stands_36 lk_L_stands_69 (pc_of3 h (by omega) (by omega)) rfl (Nat.le_of_ble_eq_true rfl) (Nat.le_of_ble_eq_true rfl) (by assumption) rfl rfl (fun r0 sh0 I0 L0 R0 hpq => ?_)
      obtain ⟨rfl, rfl, h⟩ := pO hpq
      rw [ep]
      refine z_istore9 41 dL_stands_39 (Nat.le_of_ble_eq_true rfl) rfl rfl ?_
      refine z_iload9 43 dL_stands_41 rfl ?_
      refine z_bipush 45 dL_stands_43 (by decide) rfl ?_
      refine z_icmp_eq 102 48 dL_stands_45 (by decide) rfl (by omega) (by omega) (fun hz => absurd hz (by omega)) (fun h45 => ?_)
      refine z_iload9 50 dL_stands_48 rfl ?_
      refine z_if_lt 60 53 dL_stands_50 (by decide) rfl (by omega) (fun hz => absurd hz (by omega)) (fun h50 => ?_)
      refine z_iload9 55 dL_stands_53 rfl ?_
      refine z_bipush 57 dL_stands_55 (by decide) rfl ?_
      refine z_icmp_lt 102 60 dL_stands_57 (by decide) rfl (by omega) (by omega) (fun hz => absurd hz (by omega)) (fun h57 => ?_)
      refine z_iload9 62 dL_stands_60 rfl ?_
      refine z_bipush 64 dL_stands_62 (by decide) rfl ?_
      refine z_icmp_le 106 67 dL_stands_64 (by decide) rfl (by omega) (by omega) (fun hz => absurd hz (by omega)) (fun h64 => ?_)
      refine z_iload9 69 dL_stands_67 rfl ?_
      refine z_bipush 71 dL_stands_69 (by decide) rfl ?_
      refine z_icmp_ge 106 74 dL_stands_71 (by decide) rfl (by omega) (by omega) (fun hz => absurd hz (by omega)) (fun h71 => ?_)
      refine z_iload4 76 dL_stands_74 rfl ?_
      refine z_iload9 78 dL_stands_76 rfl ?_
      refine z_bipush 80 dL_stands_78 (by decide) rfl ?_
      refine z_isub 81 dL_stands_80 rfl ?_
      rw [e10]
      refine z_ishr 82 dL_stands_81 rfl ?_
      refine z_iconst 83 dL_stands_82 rfl ?_
      refine z_iand 84 dL_stands_83 rfl ?_
      rw [eb]
      refine z_if_ne 106 87 dL_stands_84 (by decide) rfl (by omega) (fun hz => absurd hz (by omega)) (fun h84 => ?_)
      refine z_aload0 88 dL_stands_87 rfl ?_
      refine z_iload9 90 dL_stands_88 rfl ?_
      refine z_bipush 92 dL_stands_90 (by decide) rfl ?_
      refine z_isub 93 dL_stands_92 rfl ?_
      refine z_iconst 94 dL_stands_93 rfl ?_
      rw [e10]
      refine z_pV2 97 dL_stands_94 lk_L_stands_66 (pc_at2 h p10) rfl (Nat.le_of_ble_eq_true rfl) (Nat.le_of_ble_eq_true rfl) (by assumption) rfl rfl (fun r0 sh0 I0 L0 R0 hpq => ?_)
      obtain ⟨rfl, rfl, h⟩ := pO hpq
      rw [hst]
      refine z_iload8 99 dL_stands_97 rfl ?_
      refine z_icmp_ne 106 102 dL_stands_99 (by decide) rfl (by omega) (by omega) (fun hz => absurd hz (by omega)) (fun h99 => ?_)
      refine z_iconst 103 dL_stands_102 rfl ?_
      refine z_goto 107 dL_stands_103 (by decide) ?_
      refine z_istore7 109 dL_stands_107 (Nat.le_of_ble_eq_true rfl) rfl rfl ?_
      refine z_iload2 110 dL_stands_109 rfl ?_
      refine z_iload9 112 dL_stands_110 rfl ?_
      refine z_bipush 114 dL_stands_112 (by decide) rfl ?_
      refine z_icmp_ne 124 117 dL_stands_114 (by decide) rfl (by omega) (by omega) (fun h114 => ?_) (fun hz => absurd hz (by omega))
      refine z_iconst 125 dL_stands_124 rfl ?_
      refine z_ior 126 dL_stands_125 rfl ?_
      rw [zor_0 hx]
      refine z_istore2 127 dL_stands_126 (Nat.le_of_ble_eq_true rfl) rfl rfl ?_
      refine z_iload3 128 dL_stands_127 rfl ?_
      refine z_iload9 130 dL_stands_128 rfl ?_
      refine z_bipush 132 dL_stands_130 (by decide) rfl ?_
      refine z_icmp_ge 142 135 dL_stands_132 (by decide) rfl (by omega) (by omega) (fun h132 => ?_) (fun hz => absurd hz (by omega))
      refine z_iconst 143 dL_stands_142 rfl ?_
      refine z_ior 144 dL_stands_143 rfl ?_
      rw [zor_0 hy]
      refine z_istore3 145 dL_stands_144 (Nat.le_of_ble_eq_true rfl) rfl rfl ?_
      refine z_iload4 147 dL_stands_145 rfl ?_
      refine z_iload7 149 dL_stands_147 rfl ?_
      refine z_if_eq 176 152 dL_stands_149 (by decide) rfl (by omega) (fun hz => absurd hz ((by omega))) (fun h149 => ?_)
      refine z_iload9 154 dL_stands_152 rfl ?_
      refine z_bipush 156 dL_stands_154 (by decide) rfl ?_
      refine z_icmp_le 176 159 dL_stands_156 (by decide) rfl (by omega) (by omega) (fun hz => absurd hz (by omega)) (fun h156 => ?_)
      refine z_iload9 161 dL_stands_159 rfl ?_
      refine z_bipush 163 dL_stands_161 (by decide) rfl ?_
      refine z_icmp_ge 176 166 dL_stands_163 (by decide) rfl (by omega) (by omega) (fun hz => absurd hz (by omega)) (fun h163 => ?_)
      refine z_iconst 167 dL_stands_166 rfl ?_
      refine z_iload9 169 dL_stands_167 rfl ?_
      refine z_bipush 171 dL_stands_169 (by decide) rfl ?_
      refine z_isub 172 dL_stands_171 rfl ?_
      rw [e10]
      refine z_ishl 173 dL_stands_172 rfl ?_
      refine z_goto 177 dL_stands_173 (by decide) ?_
      refine z_ior 178 dL_stands_177 rfl ?_
      rw [hor]
      refine z_istore4 180 dL_stands_178 (Nat.le_of_ble_eq_true rfl) rfl rfl ?_
      refine z_iinc8 183 dL_stands_180 (Nat.le_of_ble_eq_true rfl) rfl rfl ?_
      refine z_goto 19 dL_stands_183 (by decide) ?_
      exact kk _ _ _ _ h
theorem ct_L_stands {I L : zI2} {R : zR2} (hs : sh[157]? = some (20, 43)) (hw : J0 157 0 = A.1 0 6) (hg : gd A.1) (h : pH sh J0 K0 Z0 I L R A) : zE X mL_stands 0 0 0 [zR 0, zR 157, zX, zX, zX, zX, zX, zX, zX, zX] [] sh I L R (zOp sh J0 K0 Z0 (zI 1) A) := by
  have n5 := hg.n5
  refine z_iconst 1 dL_stands_0 rfl ?_
  refine z_istore2 2 dL_stands_1 (Nat.le_of_ble_eq_true rfl) rfl rfl ?_
  refine z_iconst 3 dL_stands_2 rfl ?_
  refine z_istore3 4 dL_stands_3 (Nat.le_of_ble_eq_true rfl) rfl rfl ?_
  refine z_iconst 5 dL_stands_4 rfl ?_
  refine z_istore4 7 dL_stands_5 (Nat.le_of_ble_eq_true rfl) rfl rfl ?_
  refine z_iconst 8 dL_stands_7 rfl ?_
  refine z_istore5 10 dL_stands_8 (Nat.le_of_ble_eq_true rfl) rfl rfl ?_
  refine z_iconst 11 dL_stands_10 rfl ?_
  refine z_istore6 13 dL_stands_11 (Nat.le_of_ble_eq_true rfl) rfl rfl ?_
  refine z_iconst 14 dL_stands_13 rfl ?_
  refine z_istore7 16 dL_stands_14 (Nat.le_of_ble_eq_true rfl) rfl rfl ?_
  refine z_iconst 17 dL_stands_16 rfl ?_
  refine z_istore8 19 dL_stands_17 (Nat.le_of_ble_eq_true rfl) rfl rfl ?_
  exact lp_L_stands19 hs hw hg (A.1 0 6).toNat 0 0 0 0 _ _ _ _ (by omega) (by omega) (by omega) rfl rfl (by decide) (fun j => by rw [Nat.zero_testBit]; constructor; (intro z; cases z); (rintro ⟨_, q, b, _⟩; omega)) h
end STANDS
