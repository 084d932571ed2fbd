/-! ===== the constructors of Order, Rain, Sheet, Tape, History ===== -/
section CONS
theorem x4_l {sh : zH} {a : Nat} {v : Nat × Nat} (h : sh[a]? = some v) : (x4s sh)[a]? = some v := zg_l (zg_l (zg_l (zg_l (zg_l (zg_l h)))))
theorem x4s_len (sh : zH) : (x4s sh).length = sh.length + 6 := by
  simp only [x4s, List.length_append, List.length_cons, List.length_nil]
variable {X : zXs} {sh : zH} {I L : zI2} {R : zR2}
theorem ct_X1_init {o : Nat} (ho : sh[o]? = some (1, 2)) (hl : sh.length = o + 1) : zE X mX1_init 1 5 0 [zR o] [] sh I L R (zEq [] (sh ++ [(20, 5)]) (zup (zrow I (o + 1) fun _ => 0) o 1 0) (zrow L (o + 1) fun _ => 0) (zupR R o 0 (some (o + 1)))) := by
  refine z_aload0 1 dX1_init_0 rfl ?_
  refine z_objInit 4 dX1_init_1 ml_RX1_3 in_objectInit co_objectInit (by decide) (Nat.le_of_ble_eq_true rfl) rfl ?_
  refine z_aload0 5 dX1_init_4 rfl ?_
  refine z_iconst 6 dX1_init_5 rfl ?_
  refine z_newaX 8 (o + 1) 5 dX1_init_6 (Or.inl ⟨rfl, rfl⟩) ac_int rfl (by decide) (by first | omega | (simp only [x4s_len, List.length_append, List.length_cons, List.length_nil]; omega)) rfl rfl rfl ?_
  refine z_putR 11 dX1_init_8 fp_RX1_9 rfl (by repeat first | assumption | refine x4_l ?_ | exact zg_r (by first | omega | (simp only [x4s_len, List.length_append, List.length_cons, List.length_nil]; omega)) | refine zg_l ?_) rfl ?_
  refine z_aload0 12 dX1_init_11 rfl ?_
  refine z_iconst 13 dX1_init_12 rfl ?_
  refine z_putI 16 dX1_init_13 fp_RX1_15 (by repeat first | assumption | refine x4_l ?_ | exact zg_r (by first | omega | (simp only [x4s_len, List.length_append, List.length_cons, List.length_nil]; omega)) | refine zg_l ?_) rfl ?_
  exact z_return dX1_init_16 rfl (⟨rfl, rfl, rfl, rfl, rfl⟩)
theorem ct_X2_init {o : Nat} (ho : sh[o]? = some (2, 2)) (hl : sh.length = o + 1) : zE X mX2_init 2 62 0 [zR o] [] sh I L R (zEq [] (sh ++ [(21, 31)] ++ [(21, 31)]) (zrow (zrow I (o + 1) fun _ => 0) (o + 2) fun _ => 0) (zrow (zrow L (o + 1) fun _ => 0) (o + 2) fun _ => 0) (zupR (zupR R o 0 (some (o + 1))) o 1 (some (o + 2)))) := by
  refine z_aload0 1 dX2_init_0 rfl ?_
  refine z_objInit 4 dX2_init_1 ml_RX2_3 in_objectInit co_objectInit (by decide) (Nat.le_of_ble_eq_true rfl) rfl ?_
  refine z_aload0 5 dX2_init_4 rfl ?_
  refine z_bipush 7 dX2_init_5 (by decide) rfl ?_
  refine z_newaX 9 (o + 1) 31 dX2_init_7 (Or.inr ⟨rfl, rfl⟩) ac_long rfl (by decide) (by first | omega | (simp only [x4s_len, List.length_append, List.length_cons, List.length_nil]; omega)) rfl rfl rfl ?_
  refine z_putR 12 dX2_init_9 fp_RX2_9 rfl (by repeat first | assumption | refine x4_l ?_ | exact zg_r (by first | omega | (simp only [x4s_len, List.length_append, List.length_cons, List.length_nil]; omega)) | refine zg_l ?_) rfl ?_
  refine z_aload0 13 dX2_init_12 rfl ?_
  refine z_bipush 15 dX2_init_13 (by decide) rfl ?_
  refine z_newaX 17 (o + 2) 31 dX2_init_15 (Or.inr ⟨rfl, rfl⟩) ac_long rfl (by decide) (by first | omega | (simp only [x4s_len, List.length_append, List.length_cons, List.length_nil]; omega)) rfl rfl rfl ?_
  refine z_putR 20 dX2_init_17 fp_RX2_15 rfl (by repeat first | assumption | refine x4_l ?_ | exact zg_r (by first | omega | (simp only [x4s_len, List.length_append, List.length_cons, List.length_nil]; omega)) | refine zg_l ?_) rfl ?_
  exact z_return dX2_init_20 rfl (⟨rfl, rfl, rfl, rfl, rfl⟩)
theorem ct_X3_init {o : Nat} (ho : sh[o]? = some (3, 3)) (hl : sh.length = o + 1) : zE X mX3_init 1 24 0 [zR o] [] sh I L R (zEq [] (sh ++ [(21, 24)]) (zup (zup (zrow I (o + 1) fun _ => 0) o 1 (-1)) o 2 0) (zrow L (o + 1) fun _ => 0) (zupR R o 0 (some (o + 1)))) := by
  refine z_aload0 1 dX3_init_0 rfl ?_
  refine z_objInit 4 dX3_init_1 ml_RX3_3 in_objectInit co_objectInit (by decide) (Nat.le_of_ble_eq_true rfl) rfl ?_
  refine z_aload0 5 dX3_init_4 rfl ?_
  refine z_bipush 7 dX3_init_5 (by decide) rfl ?_
  refine z_newaX 9 (o + 1) 24 dX3_init_7 (Or.inr ⟨rfl, rfl⟩) ac_long rfl (by decide) (by first | omega | (simp only [x4s_len, List.length_append, List.length_cons, List.length_nil]; omega)) rfl rfl rfl ?_
  refine z_putR 12 dX3_init_9 fp_RX3_11 rfl (by repeat first | assumption | refine x4_l ?_ | exact zg_r (by first | omega | (simp only [x4s_len, List.length_append, List.length_cons, List.length_nil]; omega)) | refine zg_l ?_) rfl ?_
  refine z_aload0 13 dX3_init_12 rfl ?_
  refine z_iconst 14 dX3_init_13 rfl ?_
  refine z_putI 17 dX3_init_14 fp_RX3_15 (by repeat first | assumption | refine x4_l ?_ | exact zg_r (by first | omega | (simp only [x4s_len, List.length_append, List.length_cons, List.length_nil]; omega)) | refine zg_l ?_) rfl ?_
  refine z_aload0 18 dX3_init_17 rfl ?_
  refine z_iconst 19 dX3_init_18 rfl ?_
  refine z_putI 22 dX3_init_19 fp_RX3_19 (by repeat first | assumption | refine x4_l ?_ | exact zg_r (by first | omega | (simp only [x4s_len, List.length_append, List.length_cons, List.length_nil]; omega)) | refine zg_l ?_) rfl ?_
  exact z_return dX3_init_22 rfl (⟨rfl, rfl, rfl, rfl, rfl⟩)
theorem ct_X5_init {o : Nat} (ho : sh[o]? = some (5, 3)) (hl : sh.length = o + 1) : zE X mX5_init 1 70 0 [zR o] [] sh I L R (zEq [] (sh ++ [(20, 70)]) (zup (zup (zrow I (o + 1) fun _ => 0) o 1 0) o 2 0) (zrow L (o + 1) fun _ => 0) (zupR R o 0 (some (o + 1)))) := by
  refine z_aload0 1 dX5_init_0 rfl ?_
  refine z_objInit 4 dX5_init_1 ml_RX5_3 in_objectInit co_objectInit (by decide) (Nat.le_of_ble_eq_true rfl) rfl ?_
  refine z_aload0 5 dX5_init_4 rfl ?_
  refine z_bipush 7 dX5_init_5 (by decide) rfl ?_
  refine z_newaX 9 (o + 1) 70 dX5_init_7 (Or.inl ⟨rfl, rfl⟩) ac_int rfl (by decide) (by first | omega | (simp only [x4s_len, List.length_append, List.length_cons, List.length_nil]; omega)) rfl rfl rfl ?_
  refine z_putR 12 dX5_init_9 fp_RX5_9 rfl (by repeat first | assumption | refine x4_l ?_ | exact zg_r (by first | omega | (simp only [x4s_len, List.length_append, List.length_cons, List.length_nil]; omega)) | refine zg_l ?_) rfl ?_
  refine z_aload0 13 dX5_init_12 rfl ?_
  refine z_iconst 14 dX5_init_13 rfl ?_
  refine z_putI 17 dX5_init_14 fp_RX5_15 (by repeat first | assumption | refine x4_l ?_ | exact zg_r (by first | omega | (simp only [x4s_len, List.length_append, List.length_cons, List.length_nil]; omega)) | refine zg_l ?_) rfl ?_
  refine z_aload0 18 dX5_init_17 rfl ?_
  refine z_iconst 19 dX5_init_18 rfl ?_
  refine z_putI 22 dX5_init_19 fp_RX5_19 (by repeat first | assumption | refine x4_l ?_ | exact zg_r (by first | omega | (simp only [x4s_len, List.length_append, List.length_cons, List.length_nil]; omega)) | refine zg_l ?_) rfl ?_
  exact z_return dX5_init_22 rfl (⟨rfl, rfl, rfl, rfl, rfl⟩)
def x0i (I : zI2) (b : Nat) : zI2 := x4I (zrow I b fun _ => 0) b
def x0r (R : zR2) (o b j : Nat) : zR2 := zupR (x4R (zrowR R b fun _ => none) b) (o + 1) j (some b)
def x0sN : Nat → zH → zH
  | 0, sh => sh
  | m + 1, sh => x0sN m (x4s (sh ++ [(4, 9)]))
def x0IN : Nat → Nat → zI2 → zI2
  | 0, _, I => I
  | m + 1, b, I => x0IN m (b + 7) (x0i I b)
def x0LN : Nat → Nat → zI2 → zI2
  | 0, _, L => L
  | m + 1, b, L => x0LN m (b + 7) (x4z L b)
def x0RN : Nat → Nat → Nat → Nat → zR2 → zR2
  | 0, _, _, _, R => R
  | m + 1, o, b, i, R => x0RN m o (b + 7) (i + 1) (x0r R o b i)
theorem x4R_lo (R : zR2) {o a : Nat} (j : Nat) (h : a ≠ o) : x4R R o a j = R a j := by
  unfold x4R zupR
  simp only [h, false_and, if_false]
theorem x0r_at (R : zR2) {o b j : Nat} (h : o ≠ b) : x0r R o b j o 0 = R o 0 := by
  unfold x0r
  show (if o = o + 1 ∧ 0 = j then some b else x4R (zrowR R b fun _ => none) b o 0) = R o 0
  rw [if_neg (fun q => by omega), x4R_lo _ _ h]
  show (if o = b then none else R o 0) = R o 0
  rw [if_neg h]
theorem x0_step {o b i k w : Nat} {Q : zQ} (hi : i < 8) (ho : sh[o]? = some (0, 2)) (ha : sh[o + 1]? = some (22, 8)) (hR : R o 0 = some (o + 1)) (hl : sh.length = b) (hb : o ≠ b) (kk : zE X mX0_init k w 20 [zR o, zI ((i : Int) + 1)] [] (x4s (sh ++ [(4, 9)])) (x0i I b) (x4z L b) (x0r R o b i) Q) : zE X mX0_init (k + 7) (w + 49) 20 [zR o, zI (i : Int)] [] sh I L R Q := by
  have ho1 : (sh ++ [(4, 9)])[o]? = some (0, 2) := zg_l ho
  have hb1 : (sh ++ [(4, 9)])[b]? = some (4, 9) := zg_r hl
  have hl1 : (sh ++ [(4, 9)]).length = b + 1 := by rw [List.length_append, hl]; rfl
  have ha2 : (x4s (sh ++ [(4, 9)]))[o + 1]? = some (22, 8) := x4_l (zg_l ha)
  have hb2 : (x4s (sh ++ [(4, 9)]))[b]? = some (4, 9) := x4_l hb1
  refine z_iload1 21 dX0_init_20 rfl ?_
  refine z_aload0 22 dX0_init_21 rfl ?_
  refine z_getR 25 dX0_init_22 fl_RX0_9 (by assumption) (by exact hR) rfl ?_
  refine z_alen 26 dX0_init_25 (by assumption) (by decide) rfl ?_
  refine z_icmp_ge 48 29 dX0_init_26 (by decide) rfl (by omega) (by omega) (fun hz => absurd hz ((by omega))) (fun h26 => ?_)
  refine z_aload0 30 dX0_init_29 rfl ?_
  refine z_getR 33 dX0_init_30 fl_RX0_9 (by assumption) (by exact hR) rfl ?_
  refine z_iload1 34 dX0_init_33 rfl ?_
  refine z_newX 37 (b) (T := TX4) (ci := 4) dX0_init_34 rfl cl_RX0_7 ib_RX4 it_RX4 (by decide) (by exact hl) rfl rfl rfl ?_
  refine z_dup 38 dX0_init_37 rfl rfl ?_
  refine z_xI0 41 6 40 dX0_init_38 lk_X0_init_19 rfl rfl (ct_X4_init hb1 hl1) rfl (Nat.le_of_ble_eq_true rfl) (Nat.le_of_ble_eq_true rfl) rfl ?_
  refine z_aastN 42 (i) dX0_init_41 (by assumption) hb2 (by omega) (by omega) rfl ?_
  refine z_iinc1 45 dX0_init_42 (Nat.le_of_ble_eq_true rfl) rfl rfl ?_
  refine z_goto 20 dX0_init_45 (by decide) ?_
  exact kk
theorem lp_X0_init {o : Nat} : ∀ (m i b : Nat) {sh : zH} {I L : zI2} {R : zR2}, i + m = 8 → sh[o]? = some (0, 2) → sh[o + 1]? = some (22, 8) → R o 0 = some (o + 1) → sh.length = b → o ≠ b → zE X mX0_init (7 * m) (49 * m) 20 [zR o, zI (i : Int)] [] sh I L R (zEq [] (x0sN m sh) (x0IN m b I) (x0LN m b L) (x0RN m o b i R)) := by
  intro m
  induction m with
  | zero =>
    intro i b sh I L R hi ho ha hR hl hb
    refine z_iload1 21 dX0_init_20 rfl ?_
    refine z_aload0 22 dX0_init_21 rfl ?_
    refine z_getR 25 dX0_init_22 fl_RX0_9 (by assumption) (by exact hR) rfl ?_
    refine z_alen 26 dX0_init_25 (by assumption) (by decide) rfl ?_
    refine z_icmp_ge 48 29 dX0_init_26 (by decide) rfl (by omega) (by omega) (fun h26 => ?_) (fun hz => absurd hz ((by omega)))
    exact z_return dX0_init_48 rfl (⟨rfl, rfl, rfl, rfl, rfl⟩)
  | succ m ih =>
    intro i b sh I L R hi ho ha hR hl hb
    refine x0_step (k := 7 * m) (w := 49 * m) (by omega) ho ha hR hl hb ?_
    have hl2 : (x4s (sh ++ [(4, 9)])).length = b + 7 := by rw [x4s_len, List.length_append, hl]; rfl
    exact ih (i + 1) (b + 7) (by omega) (x4_l (zg_l ho)) (x4_l (zg_l ha)) (by rw [x0r_at _ hb]; exact hR) hl2 (by have := (List.getElem?_eq_some_iff.mp ho).1; omega)
theorem ct_X0_init {o : Nat} (ho : sh[o]? = some (0, 2)) (hl : sh.length = o + 1) : zE X mX0_init 57 400 0 [zR o, zX] [] sh I L R (zEq [] (x0sN 8 (sh ++ [(22, 8)])) (x0IN 8 (o + 2) (zup (zrow I (o + 1) fun _ => 0) o 1 0)) (x0LN 8 (o + 2) L) (x0RN 8 o (o + 2) 0 (zupR (zrowR R (o + 1) fun _ => none) o 0 (some (o + 1))))) := by
  have ho1 : (sh ++ [(22, 8)])[o]? = some (0, 2) := zg_l ho
  have ha1 : (sh ++ [(22, 8)])[o + 1]? = some (22, 8) := zg_r hl
  refine z_aload0 1 dX0_init_0 rfl ?_
  refine z_objInit 4 dX0_init_1 ml_RX0_1 in_objectInit co_objectInit (by decide) (Nat.le_of_ble_eq_true rfl) rfl ?_
  refine z_aload0 5 dX0_init_4 rfl ?_
  refine z_bipush 7 dX0_init_5 (by decide) rfl ?_
  refine z_newqX 10 (o + 1) 8 dX0_init_7 (Or.inl ⟨rfl, rfl⟩) cl_RX0_7 rfl (by decide) (by exact hl) rfl rfl rfl ?_
  refine z_putR 13 dX0_init_10 fp_RX0_9 rfl (by assumption) rfl ?_
  refine z_aload0 14 dX0_init_13 rfl ?_
  refine z_iconst 15 dX0_init_14 rfl ?_
  refine z_putI 18 dX0_init_15 fp_RX0_15 (by assumption) rfl ?_
  refine z_iconst 19 dX0_init_18 rfl ?_
  refine z_istore1 20 dX0_init_19 (Nat.le_of_ble_eq_true rfl) rfl rfl ?_
  exact lp_X0_init 8 0 (o + 2) rfl ho1 ha1 (by simp [zupR]) (by rw [List.length_append, hl]; rfl) (by omega)
end CONS
