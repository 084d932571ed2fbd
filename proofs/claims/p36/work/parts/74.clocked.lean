/-! ===== the law's clocked ===== -/
theorem skc_z (f : Nat) (T : zT) (r t n i : Nat) (it : Nat → Int) : ∀ (m k : Nat) (x : Int), skc f T r t n i it m k x = zst (fun k => stell it (sfw (zup T f r (k : Int)) r) n i t = 1) m k x
  | 0, _, _ => rfl
  | m + 1, k, x => by
    unfold skc zst
    exact skc_z f T r t n i it m (k + 1) _
theorem stell_1 {it sp : Nat → Int} : ∀ (n i t : Nat), stell it sp n i t = 1 ↔ ∀ j, j < n → it (i + j) = sp (t + j)
  | 0, i, t => ⟨fun _ j hj => by omega, fun _ => rfl⟩
  | n + 1, i, t => by
    unfold stell
    by_cases h : it i = sp t
    · rw [if_pos h, stell_1 n (i + 1) (t + 1)]
      constructor
      · intro q j hj
        cases j with
        | zero => exact h
        | succ j =>
          have := q j (by omega)
          rw [show i + 1 + j = i + (j + 1) by omega, show t + 1 + j = t + (j + 1) by omega] at this
          exact this
      · intro q j hj
        have := q (j + 1) (by omega)
        rw [show i + 1 + j = i + (j + 1) by omega, show t + 1 + j = t + (j + 1) by omega]
        exact this
    · rw [if_neg h]
      constructor
      · intro z; omega
      · intro q; exact absurd (q 0 (by omega)) h
/-- the kinds, the heavies that are as fast there, as bits -/
def clp (f : Nat) (S : zT) (r t n i : Nat) (W : Nat → Int) (k : Nat) : Prop := ∀ j, j < n → W (i + j) = sfw (zup S f r (k : Int)) r (t + j)
theorem skc_3 (S : zT) (r t n i : Nat) (W : Nat → Int) : ∃ c : Nat, skc 3 S r t n i W 5 0 0 = (c : Int) ∧ c < 2 ^ 5 ∧ ∀ j, (c.testBit j = true ↔ (j < 5 ∧ clp 3 S r t n i W j)) := by
  obtain ⟨c, c1, c2, c3⟩ := zst_0 (P := fun k => stell W (sfw (zup S 3 r (k : Int)) r) n i t = 1) (n := 5) (by omega) (m := 5) (by omega)
  refine ⟨c, (skc_z _ _ _ _ _ _ _ _ _ _).trans c1, c2, fun j => ?_⟩
  rw [c3 j, stell_1]
  exact Iff.rfl
theorem skc_4 (S : zT) (r t n i : Nat) (W : Nat → Int) : ∃ c : Nat, skc 4 S r t n i W 20 1 0 = (c : Int) ∧ c < 2 ^ 21 ∧ ∀ j, (c.testBit j = true ↔ ((1 ≤ j ∧ j < 21) ∧ clp 4 S r t n i W j)) := by
  obtain ⟨c, c1, c2, c3⟩ := zst_b (P := fun k => stell W (sfw (zup S 4 r (k : Int)) r) n i t = 1) (n := 21) (by omega) 20 1 0 (by omega) (by decide)
  refine ⟨c, (skc_z _ _ _ _ _ _ _ _ _ _).trans c1, c2, fun j => ?_⟩
  rw [c3 j, stell_1, Nat.zero_testBit]
  constructor
  · rintro (h | ⟨a, b, d⟩)
    · cases h
    · exact ⟨⟨a, b⟩, d⟩
  · rintro ⟨⟨a, b⟩, d⟩
    exact Or.inr ⟨a, b, d⟩
theorem and_sub {a c : Nat} (h : ∀ j, c.testBit j = true → a.testBit j = true) : a &&& c = c := by
  apply Nat.eq_of_testBit_eq
  intro j
  rw [Nat.testBit_and]
  cases hj : c.testBit j with
  | false => exact Bool.and_false _
  | true => rw [h j hj]; rfl
theorem sref_ok {i n : Int} (h : 0 ≤ i ∧ 0 ≤ n ∧ i + n ≤ 10) : sref 0 10 0 i n = 0 := by
  unfold sref
  rw [if_neg (by decide), if_pos rfl, if_pos (by omega)]
section CLOCKED
variable {X : zXs} {sh : zH} {J0 K0 : zI2} {Z0 : zR2} {S : zT} {hh : List zT} {I L : zI2} {R : zR2} {A : zA}
theorem pc_sheet {s l n : Int} (h : pH sh J0 K0 Z0 I L R A) (hs : -2147483648 ≤ s ∧ s ≤ 2147483647) (hl : -2147483648 ≤ l ∧ l ≤ 2147483647) (hn : -2147483648 ≤ n ∧ n ≤ 2147483647) {v : Int} {B : zA} (e : oSheet A s l n = (v, B)) : zE X mX6_sheet 0 0 0 [zR 0, zI s, zI l, zI n] [] sh I L R (zOp sh J0 K0 Z0 (zI v) B) := pcX h (fun P hc => by have := op_X6_sheet (X := X) hc hs hl hn; rw [e] at this; exact this)
theorem pc_film {r n s l i : Int} (h : pH sh J0 K0 Z0 I L R A) (hr : -2147483648 ≤ r ∧ r ≤ 2147483647) (hn : -2147483648 ≤ n ∧ n ≤ 2147483647) (hs : -2147483648 ≤ s ∧ s ≤ 2147483647) (hl : -2147483648 ≤ l ∧ l ≤ 2147483647) (hi : -2147483648 ≤ i ∧ i ≤ 2147483647) {v : Int} {B : zA} (e : oFilm A r n s l i = (v, B)) : zE X mX6_film 0 0 0 [zR 0, zI r, zI n, zI s, zI l, zI i, zX, zX, zX] [] sh I L R (zOp sh J0 K0 Z0 (zI v) B) := pcX h (fun P hc => by have := op_X6_film (X := X) hc hr hn hs hl hi; rw [e] at this; exact this)
theorem pc_clocked {r t s l i n w : Int} (h : pH sh J0 K0 Z0 I L R A) (hr : -2147483648 ≤ r ∧ r ≤ 2147483647) (ht : -2147483648 ≤ t ∧ t ≤ 2147483647) (hs : -2147483648 ≤ s ∧ s ≤ 2147483647) (hl : -2147483648 ≤ l ∧ l ≤ 2147483647) (hi : -2147483648 ≤ i ∧ i ≤ 2147483647) (hn : -2147483648 ≤ n ∧ n ≤ 2147483647) (hw : -2147483648 ≤ w ∧ w ≤ 2147483647) {v : Int} (e : oClocked A r t s l i n w = v) : zE X mX6_clocked 0 0 0 [zR 0, zI r, zI t, zI s, zI l, zI i, zI n, zI w, zX, zX] [] sh I L R (zOp sh J0 K0 Z0 (zI v) A) := by
  subst e
  exact pcX h (fun P hc => op_X6_clocked hc hr ht hs hl hi hn hw)
theorem pc_drop {s : Int} (h : pH sh J0 K0 Z0 I L R A) (hs : -2147483648 ≤ s ∧ s ≤ 2147483647) {v : Int} {B : zA} (e : oDrop A s = (v, B)) : zE X mX6_drop 0 0 0 [zR 0, zI s, zX, zX] [] sh I L R (zOp sh J0 K0 Z0 (zI v) B) := pcX h (fun P hc => by have := op_X6_drop (X := X) hc hs; rw [e] at this; exact this)
def cQ (sh : zH) (J0 K0 : zI2) (Z0 : zR2) (S : zT) (hh : List zT) : zQ := fun r' sh' I' L' R' => r' = [zI 1] ∧ sh' = sh ∧ ∃ TS, pH sh J0 K0 Z0 I' L' R' (pA S hh TS)
theorem ct_L_clocked {TS : List Int × (Nat → Int × (Int × (Nat → Int)))} (hX : X.1 ≤ 260) (hj : ∀ j, -2147483648 ≤ X.2 j ∧ X.2 j ≤ 2147483647) (hs : sh[157]? = some (20, 43)) (hw : J0 157 0 = S 0 6) (hg : gd S) (h : pH sh J0 K0 Z0 I L R (pA S hh TS)) : zE X mL_clocked 0 0 0 [zR 0, zS, zR 157, zL (phash (pA S hh TS)), zX, zX, zX, zX, zX, zX] [] sh I L R (cQ sh J0 K0 Z0 S hh) := by
  have s0 := h.sh0
  have n5 := hg.n5
  have hc := pcl_r X 15
  have hm0 := Int.emod_nonneg (pcl X 15) (show S 0 6 ≠ 0 by omega)
  have hm1 := Int.emod_lt_of_pos (pcl X 15) (show 0 < S 0 6 by omega)
  obtain ⟨r, hrn⟩ : ∃ r : Nat, pcl X 15 % S 0 6 = (r : Int) := ⟨(pcl X 15 % S 0 6).toNat, by omega⟩
  have hr : (r : Int) < S 0 6 := by omega
  obtain ⟨pn, hpn⟩ : ∃ pn : Nat, pcl X 15 = (pn : Int) := ⟨(pcl X 15).toNat, by omega⟩
  have e3 : zshr (pcl X 15) 3 = ((pn / 8 : Nat) : Int) := by
    rw [hpn, show (3 : Int) = ((3 : Nat) : Int) from rfl, zb_shr (by omega) (by omega)]
  obtain ⟨n, hn⟩ : ∃ n : Nat, 1 + ((pn / 8 : Nat) : Int) % 10 = (n : Int) := ⟨1 + (pn / 8) % 10, by omega⟩
  have n10 : 1 ≤ n ∧ n ≤ 10 := by omega
  obtain ⟨kd, hkd⟩ : ∃ kd : Nat, S 3 r = (kd : Int) := ⟨(S 3 r).toNat, by have := hg.sr.2.2.2.1 r (by omega); omega⟩
  obtain ⟨hv, hhv⟩ : ∃ hv : Nat, S 4 r = (hv : Int) := ⟨(S 4 r).toNat, by have := hg.sr.2.2.2.2.1 r (by omega); omega⟩
  have hk5 := hg.sr.2.2.2.1 r (by omega)
  have hv20 := hg.sr.2.2.2.2.1 r (by omega)
  have hv1 := (hg.2.2.2 r hr).1
  have o1 : oSheet (pA S hh TS) 2 0 10 = (10, pA S hh (TS.1, ssh TS.2 2 (0, 10, fun _ => 0))) := rfl
  have es1 : (ssh TS.2 2 (0, 10, fun _ => 0)) 2 = (0, 10, fun _ => 0) := if_pos rfl
  obtain ⟨W, hW⟩ : ∃ W : Nat → Int, W = fln (fun _ => 0) (sfw S r) 0 n := ⟨_, rfl⟩
  have hWj : ∀ j, j < n → W j = sfw S r j := fun j hj => by
    rw [hW]
    unfold fln
    rw [if_pos (by omega)]
    rfl
  have o2 : oFilm (pA S hh (TS.1, ssh TS.2 2 (0, 10, fun _ => 0))) (r : Int) (n : Int) 2 0 0 = ((n : Int), pA S hh (TS.1, ssh (ssh TS.2 2 (0, 10, fun _ => 0)) 2 (0, 10, W))) := by
    unfold oFilm
    rw [if_pos (show (0 ≤ (r : Int) ∧ (r : Int) ≤ S 0 6 - 1) ∧ (1 ≤ (n : Int) ∧ (n : Int) ≤ 10) ∧ (0 ≤ (2 : Int) ∧ (2 : Int) ≤ 3) ∧ (0 ≤ (0 : Int) ∧ (0 : Int) ≤ 3) by omega)]
    show (if sref ((ssh TS.2 2 (0, 10, fun _ => 0)) 2).1 ((ssh TS.2 2 (0, 10, fun _ => 0)) 2).2.1 0 0 (n : Int) = 0 then _ else _) = _
    rw [es1]
    show (if sref 0 10 0 0 (n : Int) = 0 then _ else _) = _
    rw [if_pos (sref_ok (by omega))]
    show ((n : Int), sset (pA S hh (TS.1, ssh TS.2 2 (0, 10, fun _ => 0))) 2 (((ssh TS.2 2 (0, 10, fun _ => 0)) 2).1, ((ssh TS.2 2 (0, 10, fun _ => 0)) 2).2.1, fln ((ssh TS.2 2 (0, 10, fun _ => 0)) 2).2.2 (sfw S (r : Int).toNat) (0 : Int).toNat (n : Int).toNat)) = _
    rw [es1, Int.toNat_natCast, Int.toNat_natCast, hW]
    rfl
  obtain ⟨T2, hT2⟩ : ∃ T2 : List Int × (Nat → Int × (Int × (Nat → Int))), T2 = (TS.1, ssh (ssh TS.2 2 (0, 10, fun _ => 0)) 2 (0, 10, W)) := ⟨_, rfl⟩
  have et2 : T2.2 2 = (0, 10, W) := by
    rw [hT2]
    show ssh (ssh TS.2 2 (0, 10, fun _ => 0)) 2 (0, 10, W) 2 = (0, 10, W)
    exact if_pos rfl
  rw [← hT2] at o2
  have o3 : ∀ (t i m : Nat) (w : Int), (w = 0 ∨ w = 1) → 1 ≤ m → t + m ≤ 10 → i + m ≤ 10 → t ≤ 9 → oClocked (pA S hh T2) (r : Int) (t : Int) 2 0 (i : Int) (m : Int) w = if w = 0 then skc 3 S r t m i W 5 0 0 else skc 4 S r t m i W 20 1 0 := by
    intro t i m w h1 h2 h3 h4 h5
    unfold oClocked
    rw [if_pos (show ((0 ≤ (r : Int) ∧ (r : Int) ≤ S 0 6 - 1) ∧ (0 ≤ (t : Int) ∧ (t : Int) ≤ 9) ∧ (1 ≤ (m : Int) ∧ (m : Int) ≤ 10 - (t : Int))) ∧ (0 ≤ (2 : Int) ∧ (2 : Int) ≤ 3) ∧ (0 ≤ (0 : Int) ∧ (0 : Int) ≤ 3) ∧ (0 ≤ w ∧ w ≤ 1) by omega)]
    show (if sref (T2.2 2).1 (T2.2 2).2.1 0 (i : Int) (m : Int) = 0 then (if w = 0 then skc 3 S (r : Int).toNat (t : Int).toNat (m : Int).toNat (i : Int).toNat (T2.2 2).2.2 5 0 0 else skc 4 S (r : Int).toNat (t : Int).toNat (m : Int).toNat (i : Int).toNat (T2.2 2).2.2 20 1 0) else _) = _
    rw [et2]
    show (if sref 0 10 0 (i : Int) (m : Int) = 0 then _ else _) = _
    rw [if_pos (sref_ok (by omega)), Int.toNat_natCast, Int.toNat_natCast, Int.toNat_natCast, Int.toNat_natCast]
  obtain ⟨c, c1, c2, c3⟩ := skc_3 S r 0 n 0 W
  obtain ⟨d, d1, d2, d3⟩ := skc_4 S r 0 n 0 W
  have oc : oClocked (pA S hh T2) (r : Int) 0 2 0 0 (n : Int) 0 = (c : Int) := (o3 0 0 n 0 (Or.inl rfl) n10.1 (by omega) (by omega) (by omega)).trans ((if_pos rfl).trans c1)
  have od : oClocked (pA S hh T2) (r : Int) 0 2 0 0 (n : Int) 1 = (d : Int) := (o3 0 0 n 1 (Or.inr rfl) n10.1 (by omega) (by omega) (by omega)).trans ((if_neg (by decide)).trans d1)
  have hown : ∀ f, zup S f r (S f r) = S := fun f => zup_self S f r
  have bk : zand (zshr (c : Int) (S 3 r)) 1 = 1 := by
    rw [hkd, zb_bit (by omega) (by omega)]
    refine bti_1.mpr ((c3 kd).mpr ⟨by omega, fun j hj => ?_⟩)
    rw [← hkd, hown, Nat.zero_add, hWj j hj]
  have bh : zand (zshr (d : Int) (S 4 r)) 1 = 1 := by
    rw [hhv, zb_bit (by omega) (by omega)]
    refine bti_1.mpr ((d3 hv).mpr ⟨by omega, fun j hj => ?_⟩)
    rw [← hhv, hown, Nat.zero_add, hWj j hj]
  have b0 : zand (d : Int) 1 = 0 := by
    rw [show (1 : Int) = ((1 : Nat) : Int) from rfl, zb_and (by omega), Nat.and_one_is_mod]
    have : d.testBit 0 = false := by
      rw [Bool.eq_false_iff]
      intro z
      have := ((d3 0).mp z).1
      omega
    rw [Nat.testBit_zero, decide_eq_false_iff_not] at this
    omega
  have o4 : oDrop (pA S hh T2) 2 = (10, pA S hh (T2.1, ssh T2.2 2 (-1, 0, W))) := by
    unfold oDrop
    rw [if_pos (show 0 ≤ (2 : Int) ∧ (2 : Int) ≤ 3 by omega)]
    show (if (T2.2 2).1 = -1 then _ else ((T2.2 2).2.1, sset (pA S hh T2) 2 (-1, 0, (T2.2 2).2.2))) = _
    rw [et2]
    show (if (0 : Int) = -1 then _ else _) = _
    rw [if_neg (by decide)]
    rfl
  have hph : phash (pA S hh (T2.1, ssh T2.2 2 (-1, 0, W))) = phash (pA S hh TS) := rfl
  have hd21 : (d : Int) < 2097152 := by
    have : (2 : Nat) ^ 21 = 2097152 := by decide
    omega
  by_cases h1 : n = 1
  · subst h1
    clear c3 d3 o3
    refine z_aloadS1 1 dL_clocked_0 rfl ?_
    refine z_bipush 3 dL_clocked_1 (by decide) rfl ?_
    refine z_xS2 6 dL_clocked_3 lk_L_clocked_15 (ct_L_cell (i := 15) hX hj (by omega)) rfl (Nat.le_of_ble_eq_true rfl) (Nat.le_of_ble_eq_true rfl) rfl ?_
    refine z_aload2 7 dL_clocked_6 rfl ?_
    refine z_iconst 8 dL_clocked_7 rfl ?_
    refine z_ialdx 9 (0) dL_clocked_8 (by assumption) (by omega) (by omega) ((congrFun (h.2 157 (by decide)).1 0).trans hw) rfl ?_
    refine z_irem 10 dL_clocked_9 (by omega) (by omega) rfl ?_
    rw [hrn]
    refine z_istore5 12 dL_clocked_10 (Nat.le_of_ble_eq_true rfl) rfl rfl ?_
    refine z_iconst 13 dL_clocked_12 rfl ?_
    refine z_aloadS1 14 dL_clocked_13 rfl ?_
    refine z_bipush 16 dL_clocked_14 (by decide) rfl ?_
    refine z_xS2 19 dL_clocked_16 lk_L_clocked_15 (ct_L_cell (i := 15) hX hj (by omega)) rfl (Nat.le_of_ble_eq_true rfl) (Nat.le_of_ble_eq_true rfl) rfl ?_
    refine z_iconst 20 dL_clocked_19 rfl ?_
    refine z_ishr 21 dL_clocked_20 rfl ?_
    rw [e3]
    refine z_bipush 23 dL_clocked_21 (by decide) rfl ?_
    refine z_irem 24 dL_clocked_23 (by omega) (by omega) rfl ?_
    refine z_iadd 25 dL_clocked_24 rfl ?_
    rw [hn]
    refine z_istore6 27 dL_clocked_25 (Nat.le_of_ble_eq_true rfl) rfl rfl ?_
    refine z_aload0 28 dL_clocked_27 rfl ?_
    refine z_iconst 29 dL_clocked_28 rfl ?_
    refine z_iconst 30 dL_clocked_29 rfl ?_
    refine z_bipush 32 dL_clocked_30 (by decide) rfl ?_
    refine z_pV3 35 dL_clocked_32 lk_L_clocked_169 (pc_sheet h (by omega) (by omega) (by omega) o1) rfl (Nat.le_of_ble_eq_true rfl) (Nat.le_of_ble_eq_true rfl) (by assumption) rfl rfl (fun r0 sh0 I0 L0 R0 hpq => ?_)
    obtain ⟨rfl, rfl, h⟩ := pO hpq
    refine z_bipush 37 dL_clocked_35 (by decide) rfl ?_
    refine z_icmp_ne 60 40 dL_clocked_37 (by decide) rfl (by omega) (by omega) (fun hz => absurd hz ((by omega))) (fun h37 => ?_)
    refine z_aload0 41 dL_clocked_40 rfl ?_
    refine z_iload5 43 dL_clocked_41 rfl ?_
    refine z_iload6 45 dL_clocked_43 rfl ?_
    refine z_iconst 46 dL_clocked_45 rfl ?_
    refine z_iconst 47 dL_clocked_46 rfl ?_
    refine z_iconst 48 dL_clocked_47 rfl ?_
    refine z_pV5 51 dL_clocked_48 lk_L_clocked_172 (pc_film h (by omega) (by omega) (by omega) (by omega) (by omega) o2) rfl (Nat.le_of_ble_eq_true rfl) (Nat.le_of_ble_eq_true rfl) (by assumption) rfl rfl (fun r0 sh0 I0 L0 R0 hpq => ?_)
    obtain ⟨rfl, rfl, h⟩ := pO hpq
    refine z_iload6 53 dL_clocked_51 rfl ?_
    refine z_icmp_ne 60 56 dL_clocked_53 (by decide) rfl (by omega) (by omega) (fun hz => absurd hz ((by omega))) (fun h53 => ?_)
    refine z_iconst 57 dL_clocked_56 rfl ?_
    refine z_goto 61 dL_clocked_57 (by decide) ?_
    refine z_istore7 63 dL_clocked_61 (Nat.le_of_ble_eq_true rfl) rfl rfl ?_
    refine z_iload7 65 dL_clocked_63 rfl ?_
    refine z_if_eq 84 68 dL_clocked_65 (by decide) rfl (by omega) (fun hz => absurd hz ((by omega))) (fun h65 => ?_)
    refine z_aload0 69 dL_clocked_68 rfl ?_
    refine z_iload5 71 dL_clocked_69 rfl ?_
    refine z_iconst 72 dL_clocked_71 rfl ?_
    refine z_iconst 73 dL_clocked_72 rfl ?_
    refine z_iconst 74 dL_clocked_73 rfl ?_
    refine z_iconst 75 dL_clocked_74 rfl ?_
    refine z_iload6 77 dL_clocked_75 rfl ?_
    refine z_iconst 78 dL_clocked_77 rfl ?_
    refine z_pV7 81 dL_clocked_78 lk_L_clocked_176 (pc_clocked h (by omega) (by omega) (by omega) (by omega) (by omega) (by omega) (by omega) oc) rfl (Nat.le_of_ble_eq_true rfl) (Nat.le_of_ble_eq_true rfl) (by assumption) rfl rfl (fun r0 sh0 I0 L0 R0 hpq => ?_)
    obtain ⟨rfl, rfl, h⟩ := pO hpq
    refine z_goto 85 dL_clocked_81 (by decide) ?_
    refine z_istore8 87 dL_clocked_85 (Nat.le_of_ble_eq_true rfl) rfl rfl ?_
    refine z_iload7 89 dL_clocked_87 rfl ?_
    refine z_if_eq 108 92 dL_clocked_89 (by decide) rfl (by omega) (fun hz => absurd hz ((by omega))) (fun h89 => ?_)
    refine z_aload0 93 dL_clocked_92 rfl ?_
    refine z_iload5 95 dL_clocked_93 rfl ?_
    refine z_iconst 96 dL_clocked_95 rfl ?_
    refine z_iconst 97 dL_clocked_96 rfl ?_
    refine z_iconst 98 dL_clocked_97 rfl ?_
    refine z_iconst 99 dL_clocked_98 rfl ?_
    refine z_iload6 101 dL_clocked_99 rfl ?_
    refine z_iconst 102 dL_clocked_101 rfl ?_
    refine z_pV7 105 dL_clocked_102 lk_L_clocked_176 (pc_clocked h (by omega) (by omega) (by omega) (by omega) (by omega) (by omega) (by omega) od) rfl (Nat.le_of_ble_eq_true rfl) (Nat.le_of_ble_eq_true rfl) (by assumption) rfl rfl (fun r0 sh0 I0 L0 R0 hpq => ?_)
    obtain ⟨rfl, rfl, h⟩ := pO hpq
    refine z_goto 109 dL_clocked_105 (by decide) ?_
    refine z_istore9 111 dL_clocked_109 (Nat.le_of_ble_eq_true rfl) rfl rfl ?_
    refine z_iload7 113 dL_clocked_111 rfl ?_
    refine z_if_eq 245 116 dL_clocked_113 (by decide) rfl (by omega) (fun hz => absurd hz ((by omega))) (fun h113 => ?_)
    refine z_iload8 118 dL_clocked_116 rfl ?_
    refine z_aload0 119 dL_clocked_118 rfl ?_
    refine z_iload5 121 dL_clocked_119 rfl ?_
    refine z_iconst 122 dL_clocked_121 rfl ?_
    refine z_pV2 125 dL_clocked_122 lk_L_clocked_69 (pc_of0 h n5.2 hr) rfl (Nat.le_of_ble_eq_true rfl) (Nat.le_of_ble_eq_true rfl) (by assumption) rfl rfl (fun r0 sh0 I0 L0 R0 hpq => ?_)
    obtain ⟨rfl, rfl, h⟩ := pO hpq
    show zE X mL_clocked 0 0 125 _ [zI (S 3 r), zI (c : Int)] sh _ _ _ _
    refine z_ishr 126 dL_clocked_125 rfl ?_
    refine z_iconst 127 dL_clocked_126 rfl ?_
    refine z_iand 128 dL_clocked_127 rfl ?_
    rw [bk]
    refine z_iconst 129 dL_clocked_128 rfl ?_
    refine z_icmp_ne 245 132 dL_clocked_129 (by decide) rfl (by omega) (by omega) (fun hz => absurd hz ((by omega))) (fun h129 => ?_)
    refine z_iload8 134 dL_clocked_132 rfl ?_
    refine z_bipush 136 dL_clocked_134 (by decide) rfl ?_
    refine z_icmp_ge 245 139 dL_clocked_136 (by decide) rfl (by omega) (by omega) (fun hz => absurd hz (by omega)) (fun h136 => ?_)
    refine z_iload9 141 dL_clocked_139 rfl ?_
    refine z_aload0 142 dL_clocked_141 rfl ?_
    refine z_iload5 144 dL_clocked_142 rfl ?_
    refine z_iconst 145 dL_clocked_144 rfl ?_
    refine z_pV2 148 dL_clocked_145 lk_L_clocked_69 (pc_of1 h n5.2 hr) rfl (Nat.le_of_ble_eq_true rfl) (Nat.le_of_ble_eq_true rfl) (by assumption) rfl rfl (fun r0 sh0 I0 L0 R0 hpq => ?_)
    obtain ⟨rfl, rfl, h⟩ := pO hpq
    show zE X mL_clocked 0 0 148 _ [zI (S 4 r), zI (d : Int)] sh _ _ _ _
    refine z_ishr 149 dL_clocked_148 rfl ?_
    refine z_iconst 150 dL_clocked_149 rfl ?_
    refine z_iand 151 dL_clocked_150 rfl ?_
    rw [bh]
    refine z_iconst 152 dL_clocked_151 rfl ?_
    refine z_icmp_ne 245 155 dL_clocked_152 (by decide) rfl (by omega) (by omega) (fun hz => absurd hz ((by omega))) (fun h152 => ?_)
    refine z_iload9 157 dL_clocked_155 rfl ?_
    refine z_iconst 158 dL_clocked_157 rfl ?_
    refine z_iand 159 dL_clocked_158 rfl ?_
    rw [b0]
    refine z_if_ne 245 162 dL_clocked_159 (by decide) rfl (by omega) (fun hz => absurd hz ((by omega))) (fun h159 => ?_)
    refine z_iload9 164 dL_clocked_162 rfl ?_
    refine z_ldc 166 dL_clocked_164 kc_RL_179 rfl ?_
    refine z_icmp_ge 245 169 dL_clocked_166 (by decide) rfl (by omega) (by omega) (fun hz => absurd hz (by omega)) (fun h166 => ?_)
    refine z_iload6 171 dL_clocked_169 rfl ?_
    refine z_iconst 172 dL_clocked_171 rfl ?_
    refine z_icmp_eq 221 175 dL_clocked_172 (by decide) rfl (by omega) (by omega) (fun h172 => ?_) (fun hz => absurd hz ((by omega)))
    refine z_aload0 222 dL_clocked_221 rfl ?_
    refine z_iconst 223 dL_clocked_222 rfl ?_
    refine z_pV1 226 dL_clocked_223 lk_L_clocked_180 (pc_drop h (by omega) o4) rfl (Nat.le_of_ble_eq_true rfl) (Nat.le_of_ble_eq_true rfl) (by assumption) rfl rfl (fun r0 sh0 I0 L0 R0 hpq => ?_)
    obtain ⟨rfl, rfl, h⟩ := pO hpq
    refine z_bipush 228 dL_clocked_226 (by decide) rfl ?_
    refine z_icmp_ne 245 231 dL_clocked_228 (by decide) rfl (by omega) (by omega) (fun hz => absurd hz ((by omega))) (fun h228 => ?_)
    refine z_aload0 232 dL_clocked_231 rfl ?_
    refine z_aload2 233 dL_clocked_232 rfl ?_
    refine z_pS2 236 dL_clocked_233 lk_L_clocked_87 (ct_L_hash hs hw hg h) rfl (Nat.le_of_ble_eq_true rfl) (Nat.le_of_ble_eq_true rfl) rfl (fun r0 sh0 I0 L0 R0 hpq => ?_)
    obtain ⟨rfl, rfl, h⟩ := pO hpq
    refine z_lload3 237 dL_clocked_236 rfl ?_
    rw [hph]
    refine z_lcmpS 238 dL_clocked_237 rfl ?_
    refine z_if_ne 245 241 dL_clocked_238 (by decide) rfl (by omega) (fun hz => absurd hz (by omega)) (fun h238 => ?_)
    refine z_iconst 242 dL_clocked_241 rfl ?_
    refine z_goto 246 dL_clocked_242 (by decide) ?_
    exact z_zreturn dL_clocked_246 rfl (by omega) (⟨rfl, rfl, _, h⟩)
  · obtain ⟨a, a1, a2, a3⟩ := skc_3 S r 0 (n - 1) 0 W
    obtain ⟨b, b1, b2, b3⟩ := skc_4 S r 1 (n - 1) 1 W
    have en : (n : Int) - 1 = ((n - 1 : Nat) : Int) := by omega
    have oa : oClocked (pA S hh T2) (r : Int) 0 2 0 0 ((n - 1 : Nat) : Int) 0 = (a : Int) := (o3 0 0 (n - 1) 0 (Or.inl rfl) (by omega) (by omega) (by omega) (by omega)).trans ((if_pos rfl).trans a1)
    have obb : oClocked (pA S hh T2) (r : Int) 1 2 0 1 ((n - 1 : Nat) : Int) 1 = (b : Int) := (o3 1 1 (n - 1) 1 (Or.inr rfl) (by omega) (by omega) (by omega) (by omega)).trans ((if_neg (by decide)).trans b1)
    have ea : zand (a : Int) (c : Int) = (c : Int) := by
      rw [zb_and (by omega), and_sub (fun j hj => ?_)]
      obtain ⟨q1, q2⟩ := (c3 j).mp hj
      exact (a3 j).mpr ⟨q1, fun i hi => q2 i (by omega)⟩
    have eb : zand (b : Int) (d : Int) = (d : Int) := by
      rw [zb_and (by omega), and_sub (fun j hj => ?_)]
      obtain ⟨q1, q2⟩ := (d3 j).mp hj
      refine (b3 j).mpr ⟨q1, fun i hi => ?_⟩
      have := q2 (i + 1) (by omega)
      rw [Nat.zero_add] at this
      rw [show 1 + i = i + 1 by omega]
      exact this
    clear c3 d3 o3 a3 b3
    refine z_aloadS1 1 dL_clocked_0 rfl ?_
    refine z_bipush 3 dL_clocked_1 (by decide) rfl ?_
    refine z_xS2 6 dL_clocked_3 lk_L_clocked_15 (ct_L_cell (i := 15) hX hj (by omega)) rfl (Nat.le_of_ble_eq_true rfl) (Nat.le_of_ble_eq_true rfl) rfl ?_
    refine z_aload2 7 dL_clocked_6 rfl ?_
    refine z_iconst 8 dL_clocked_7 rfl ?_
    refine z_ialdx 9 (0) dL_clocked_8 (by assumption) (by omega) (by omega) ((congrFun (h.2 157 (by decide)).1 0).trans hw) rfl ?_
    refine z_irem 10 dL_clocked_9 (by omega) (by omega) rfl ?_
    rw [hrn]
    refine z_istore5 12 dL_clocked_10 (Nat.le_of_ble_eq_true rfl) rfl rfl ?_
    refine z_iconst 13 dL_clocked_12 rfl ?_
    refine z_aloadS1 14 dL_clocked_13 rfl ?_
    refine z_bipush 16 dL_clocked_14 (by decide) rfl ?_
    refine z_xS2 19 dL_clocked_16 lk_L_clocked_15 (ct_L_cell (i := 15) hX hj (by omega)) rfl (Nat.le_of_ble_eq_true rfl) (Nat.le_of_ble_eq_true rfl) rfl ?_
    refine z_iconst 20 dL_clocked_19 rfl ?_
    refine z_ishr 21 dL_clocked_20 rfl ?_
    rw [e3]
    refine z_bipush 23 dL_clocked_21 (by decide) rfl ?_
    refine z_irem 24 dL_clocked_23 (by omega) (by omega) rfl ?_
    refine z_iadd 25 dL_clocked_24 rfl ?_
    rw [hn]
    refine z_istore6 27 dL_clocked_25 (Nat.le_of_ble_eq_true rfl) rfl rfl ?_
    refine z_aload0 28 dL_clocked_27 rfl ?_
    refine z_iconst 29 dL_clocked_28 rfl ?_
    refine z_iconst 30 dL_clocked_29 rfl ?_
    refine z_bipush 32 dL_clocked_30 (by decide) rfl ?_
    refine z_pV3 35 dL_clocked_32 lk_L_clocked_169 (pc_sheet h (by omega) (by omega) (by omega) o1) rfl (Nat.le_of_ble_eq_true rfl) (Nat.le_of_ble_eq_true rfl) (by assumption) rfl rfl (fun r0 sh0 I0 L0 R0 hpq => ?_)
    obtain ⟨rfl, rfl, h⟩ := pO hpq
    refine z_bipush 37 dL_clocked_35 (by decide) rfl ?_
    refine z_icmp_ne 60 40 dL_clocked_37 (by decide) rfl (by omega) (by omega) (fun hz => absurd hz ((by omega))) (fun h37 => ?_)
    refine z_aload0 41 dL_clocked_40 rfl ?_
    refine z_iload5 43 dL_clocked_41 rfl ?_
    refine z_iload6 45 dL_clocked_43 rfl ?_
    refine z_iconst 46 dL_clocked_45 rfl ?_
    refine z_iconst 47 dL_clocked_46 rfl ?_
    refine z_iconst 48 dL_clocked_47 rfl ?_
    refine z_pV5 51 dL_clocked_48 lk_L_clocked_172 (pc_film h (by omega) (by omega) (by omega) (by omega) (by omega) o2) rfl (Nat.le_of_ble_eq_true rfl) (Nat.le_of_ble_eq_true rfl) (by assumption) rfl rfl (fun r0 sh0 I0 L0 R0 hpq => ?_)
    obtain ⟨rfl, rfl, h⟩ := pO hpq
    refine z_iload6 53 dL_clocked_51 rfl ?_
    refine z_icmp_ne 60 56 dL_clocked_53 (by decide) rfl (by omega) (by omega) (fun hz => absurd hz ((by omega))) (fun h53 => ?_)
    refine z_iconst 57 dL_clocked_56 rfl ?_
    refine z_goto 61 dL_clocked_57 (by decide) ?_
    refine z_istore7 63 dL_clocked_61 (Nat.le_of_ble_eq_true rfl) rfl rfl ?_
    refine z_iload7 65 dL_clocked_63 rfl ?_
    refine z_if_eq 84 68 dL_clocked_65 (by decide) rfl (by omega) (fun hz => absurd hz ((by omega))) (fun h65 => ?_)
    refine z_aload0 69 dL_clocked_68 rfl ?_
    refine z_iload5 71 dL_clocked_69 rfl ?_
    refine z_iconst 72 dL_clocked_71 rfl ?_
    refine z_iconst 73 dL_clocked_72 rfl ?_
    refine z_iconst 74 dL_clocked_73 rfl ?_
    refine z_iconst 75 dL_clocked_74 rfl ?_
    refine z_iload6 77 dL_clocked_75 rfl ?_
    refine z_iconst 78 dL_clocked_77 rfl ?_
    refine z_pV7 81 dL_clocked_78 lk_L_clocked_176 (pc_clocked h (by omega) (by omega) (by omega) (by omega) (by omega) (by omega) (by omega) oc) rfl (Nat.le_of_ble_eq_true rfl) (Nat.le_of_ble_eq_true rfl) (by assumption) rfl rfl (fun r0 sh0 I0 L0 R0 hpq => ?_)
    obtain ⟨rfl, rfl, h⟩ := pO hpq
    refine z_goto 85 dL_clocked_81 (by decide) ?_
    refine z_istore8 87 dL_clocked_85 (Nat.le_of_ble_eq_true rfl) rfl rfl ?_
    refine z_iload7 89 dL_clocked_87 rfl ?_
    refine z_if_eq 108 92 dL_clocked_89 (by decide) rfl (by omega) (fun hz => absurd hz ((by omega))) (fun h89 => ?_)
    refine z_aload0 93 dL_clocked_92 rfl ?_
    refine z_iload5 95 dL_clocked_93 rfl ?_
    refine z_iconst 96 dL_clocked_95 rfl ?_
    refine z_iconst 97 dL_clocked_96 rfl ?_
    refine z_iconst 98 dL_clocked_97 rfl ?_
    refine z_iconst 99 dL_clocked_98 rfl ?_
    refine z_iload6 101 dL_clocked_99 rfl ?_
    refine z_iconst 102 dL_clocked_101 rfl ?_
    refine z_pV7 105 dL_clocked_102 lk_L_clocked_176 (pc_clocked h (by omega) (by omega) (by omega) (by omega) (by omega) (by omega) (by omega) od) rfl (Nat.le_of_ble_eq_true rfl) (Nat.le_of_ble_eq_true rfl) (by assumption) rfl rfl (fun r0 sh0 I0 L0 R0 hpq => ?_)
    obtain ⟨rfl, rfl, h⟩ := pO hpq
    refine z_goto 109 dL_clocked_105 (by decide) ?_
    refine z_istore9 111 dL_clocked_109 (Nat.le_of_ble_eq_true rfl) rfl rfl ?_
    refine z_iload7 113 dL_clocked_111 rfl ?_
    refine z_if_eq 245 116 dL_clocked_113 (by decide) rfl (by omega) (fun hz => absurd hz ((by omega))) (fun h113 => ?_)
    refine z_iload8 118 dL_clocked_116 rfl ?_
    refine z_aload0 119 dL_clocked_118 rfl ?_
    refine z_iload5 121 dL_clocked_119 rfl ?_
    refine z_iconst 122 dL_clocked_121 rfl ?_
    refine z_pV2 125 dL_clocked_122 lk_L_clocked_69 (pc_of0 h n5.2 hr) rfl (Nat.le_of_ble_eq_true rfl) (Nat.le_of_ble_eq_true rfl) (by assumption) rfl rfl (fun r0 sh0 I0 L0 R0 hpq => ?_)
    obtain ⟨rfl, rfl, h⟩ := pO hpq
    show zE X mL_clocked 0 0 125 _ [zI (S 3 r), zI (c : Int)] sh _ _ _ _
    refine z_ishr 126 dL_clocked_125 rfl ?_
    refine z_iconst 127 dL_clocked_126 rfl ?_
    refine z_iand 128 dL_clocked_127 rfl ?_
    rw [bk]
    refine z_iconst 129 dL_clocked_128 rfl ?_
    refine z_icmp_ne 245 132 dL_clocked_129 (by decide) rfl (by omega) (by omega) (fun hz => absurd hz ((by omega))) (fun h129 => ?_)
    refine z_iload8 134 dL_clocked_132 rfl ?_
    refine z_bipush 136 dL_clocked_134 (by decide) rfl ?_
    refine z_icmp_ge 245 139 dL_clocked_136 (by decide) rfl (by omega) (by omega) (fun hz => absurd hz (by omega)) (fun h136 => ?_)
    refine z_iload9 141 dL_clocked_139 rfl ?_
    refine z_aload0 142 dL_clocked_141 rfl ?_
    refine z_iload5 144 dL_clocked_142 rfl ?_
    refine z_iconst 145 dL_clocked_144 rfl ?_
    refine z_pV2 148 dL_clocked_145 lk_L_clocked_69 (pc_of1 h n5.2 hr) rfl (Nat.le_of_ble_eq_true rfl) (Nat.le_of_ble_eq_true rfl) (by assumption) rfl rfl (fun r0 sh0 I0 L0 R0 hpq => ?_)
    obtain ⟨rfl, rfl, h⟩ := pO hpq
    show zE X mL_clocked 0 0 148 _ [zI (S 4 r), zI (d : Int)] sh _ _ _ _
    refine z_ishr 149 dL_clocked_148 rfl ?_
    refine z_iconst 150 dL_clocked_149 rfl ?_
    refine z_iand 151 dL_clocked_150 rfl ?_
    rw [bh]
    refine z_iconst 152 dL_clocked_151 rfl ?_
    refine z_icmp_ne 245 155 dL_clocked_152 (by decide) rfl (by omega) (by omega) (fun hz => absurd hz ((by omega))) (fun h152 => ?_)
    refine z_iload9 157 dL_clocked_155 rfl ?_
    refine z_iconst 158 dL_clocked_157 rfl ?_
    refine z_iand 159 dL_clocked_158 rfl ?_
    rw [b0]
    refine z_if_ne 245 162 dL_clocked_159 (by decide) rfl (by omega) (fun hz => absurd hz ((by omega))) (fun h159 => ?_)
    refine z_iload9 164 dL_clocked_162 rfl ?_
    refine z_ldc 166 dL_clocked_164 kc_RL_179 rfl ?_
    refine z_icmp_ge 245 169 dL_clocked_166 (by decide) rfl (by omega) (by omega) (fun hz => absurd hz (by omega)) (fun h166 => ?_)
    refine z_iload6 171 dL_clocked_169 rfl ?_
    refine z_iconst 172 dL_clocked_171 rfl ?_
    refine z_icmp_eq 221 175 dL_clocked_172 (by decide) rfl (by omega) (by omega) (fun hz => absurd hz ((by omega))) (fun h172 => ?_)
    refine z_aload0 176 dL_clocked_175 rfl ?_
    refine z_iload5 178 dL_clocked_176 rfl ?_
    refine z_iconst 179 dL_clocked_178 rfl ?_
    refine z_iconst 180 dL_clocked_179 rfl ?_
    refine z_iconst 181 dL_clocked_180 rfl ?_
    refine z_iconst 182 dL_clocked_181 rfl ?_
    refine z_iload6 184 dL_clocked_182 rfl ?_
    refine z_iconst 185 dL_clocked_184 rfl ?_
    refine z_isub 186 dL_clocked_185 rfl ?_
    rw [en]
    refine z_iconst 187 dL_clocked_186 rfl ?_
    refine z_pV7 190 dL_clocked_187 lk_L_clocked_176 (pc_clocked h (by omega) (by omega) (by omega) (by omega) (by omega) (by omega) (by omega) oa) rfl (Nat.le_of_ble_eq_true rfl) (Nat.le_of_ble_eq_true rfl) (by assumption) rfl rfl (fun r0 sh0 I0 L0 R0 hpq => ?_)
    obtain ⟨rfl, rfl, h⟩ := pO hpq
    refine z_iload8 192 dL_clocked_190 rfl ?_
    refine z_iand 193 dL_clocked_192 rfl ?_
    rw [ea]
    refine z_iload8 195 dL_clocked_193 rfl ?_
    refine z_icmp_ne 245 198 dL_clocked_195 (by decide) rfl (by omega) (by omega) (fun hz => absurd hz ((by omega))) (fun h195 => ?_)
    refine z_aload0 199 dL_clocked_198 rfl ?_
    refine z_iload5 201 dL_clocked_199 rfl ?_
    refine z_iconst 202 dL_clocked_201 rfl ?_
    refine z_iconst 203 dL_clocked_202 rfl ?_
    refine z_iconst 204 dL_clocked_203 rfl ?_
    refine z_iconst 205 dL_clocked_204 rfl ?_
    refine z_iload6 207 dL_clocked_205 rfl ?_
    refine z_iconst 208 dL_clocked_207 rfl ?_
    refine z_isub 209 dL_clocked_208 rfl ?_
    rw [en]
    refine z_iconst 210 dL_clocked_209 rfl ?_
    refine z_pV7 213 dL_clocked_210 lk_L_clocked_176 (pc_clocked h (by omega) (by omega) (by omega) (by omega) (by omega) (by omega) (by omega) obb) rfl (Nat.le_of_ble_eq_true rfl) (Nat.le_of_ble_eq_true rfl) (by assumption) rfl rfl (fun r0 sh0 I0 L0 R0 hpq => ?_)
    obtain ⟨rfl, rfl, h⟩ := pO hpq
    refine z_iload9 215 dL_clocked_213 rfl ?_
    refine z_iand 216 dL_clocked_215 rfl ?_
    rw [eb]
    refine z_iload9 218 dL_clocked_216 rfl ?_
    refine z_icmp_ne 245 221 dL_clocked_218 (by decide) rfl (by omega) (by omega) (fun hz => absurd hz ((by omega))) (fun h218 => ?_)
    refine z_aload0 222 dL_clocked_221 rfl ?_
    refine z_iconst 223 dL_clocked_222 rfl ?_
    refine z_pV1 226 dL_clocked_223 lk_L_clocked_180 (pc_drop h (by omega) o4) rfl (Nat.le_of_ble_eq_true rfl) (Nat.le_of_ble_eq_true rfl) (by assumption) rfl rfl (fun r0 sh0 I0 L0 R0 hpq => ?_)
    obtain ⟨rfl, rfl, h⟩ := pO hpq
    refine z_bipush 228 dL_clocked_226 (by decide) rfl ?_
    refine z_icmp_ne 245 231 dL_clocked_228 (by decide) rfl (by omega) (by omega) (fun hz => absurd hz ((by omega))) (fun h228 => ?_)
    refine z_aload0 232 dL_clocked_231 rfl ?_
    refine z_aload2 233 dL_clocked_232 rfl ?_
    refine z_pS2 236 dL_clocked_233 lk_L_clocked_87 (ct_L_hash hs hw hg h) rfl (Nat.le_of_ble_eq_true rfl) (Nat.le_of_ble_eq_true rfl) rfl (fun r0 sh0 I0 L0 R0 hpq => ?_)
    obtain ⟨rfl, rfl, h⟩ := pO hpq
    refine z_lload3 237 dL_clocked_236 rfl ?_
    rw [hph]
    refine z_lcmpS 238 dL_clocked_237 rfl ?_
    refine z_if_ne 245 241 dL_clocked_238 (by decide) rfl (by omega) (fun hz => absurd hz (by omega)) (fun h238 => ?_)
    refine z_iconst 242 dL_clocked_241 rfl ?_
    refine z_goto 246 dL_clocked_242 (by decide) ?_
    exact z_zreturn dL_clocked_246 rfl (by omega) (⟨rfl, rfl, _, h⟩)
end CLOCKED
