/-! ===== the constructors ===== -/
section CONS
theorem zg_l {sh x : zH} {a : Nat} {v : Nat × Nat} (h : sh[a]? = some v) : (sh ++ x)[a]? = some v := by
  have h1 : a < sh.length := (List.getElem?_eq_some_iff.mp h).1
  rw [List.getElem?_append_left h1]
  exact h
theorem zg_r {sh : zH} {a : Nat} {x : Nat × Nat} (h : sh.length = a) : (sh ++ [x])[a]? = some x := by
  subst h
  simp
variable {X : zXs} {M M' : zM} {pc : Nat} {ls : List zV} {sh : zH} {I L : zI2} {R : zR2} {Q : zQ}
theorem z_newX (nx b : Nat) {k w K Wd : Nat} {st : List zV} {idx ci n : Nat} {C : String} {T : u_T} (hd : decode (zmc M) pc = .ok (.new idx, 3)) (hc : vwCl[ci]? = some (C, T, n)) (h1 : Jvm.Cond.classLink (zmo M) idx C ∈ zgood) (h2 : Jvm.Cond.instantiable C n ∈ zgood) (h3 : Jvm.Cond.initialized C ∈ zgood) (hdf : ∀ j, j < n → defaultValue (zty ci j) = if zfk ci j = true then .null else .int 0) (hb : sh.length = b) (hk : k + 1 = K) (hw : w + n = Wd) (hn : pc + 3 = nx)
    (kk : zE X M k w nx ls (zR b :: st) (sh ++ [(ci, n)]) (zrow I b fun _ => 0) L (zrowR R b fun _ => none) Q) : zE X M K Wd pc ls st sh I L R Q := by
  subst hb; subst hk; subst hw
  exact z_new nx hd hc h1 h2 h3 hdf hn kk
theorem z_newaX (nx b n : Nat) {k w K Wd : Nat} {st : List zV} {at_ : ArrayType} {t : Nat} {i : Int} (hd : decode (zmc M) pc = .ok (.newarray at_, 2)) (ht : (at_ = .int ∧ t = 20) ∨ (at_ = .long ∧ t = 21)) (h1 : Jvm.Cond.arrayClass (newarray.typeOf at_) ∈ zgood) (hi : i = (n : Int)) (hn0 : n ≤ 60000) (hb : sh.length = b) (hk : k + 1 = K) (hw : w + n = Wd) (hn : pc + 2 = nx)
    (kk : zE X M k w nx ls (zR b :: st) (sh ++ [(t, n)]) (zrow I b fun _ => 0) (zrow L b fun _ => 0) R Q) : zE X M K Wd pc ls (zI i :: st) sh I L R Q := by
  subst hb; subst hk; subst hw; subst hi
  exact z_newa (n := (n : Int)) nx hd ht h1 (by omega) hn (by rw [Int.toNat_natCast]; exact kk)
theorem z_newqX (nx b n : Nat) {k w K Wd : Nat} {st : List zV} {idx t : Nat} {i : Int} {C : String} (hd : decode (zmc M) pc = .ok (.anewarray idx, 3)) (ht : (C = "HelterSlide$Slide" ∧ t = 22) ∨ (C = "HelterSlide$Sheet" ∧ t = 23)) (h1 : Jvm.Cond.classLink (zmo M) idx C ∈ zgood) (hi : i = (n : Int)) (hn0 : n ≤ 60000) (hb : sh.length = b) (hk : k + 1 = K) (hw : w + n = Wd) (hn : pc + 3 = nx)
    (kk : zE X M k w nx ls (zR b :: st) (sh ++ [(t, n)]) (zrow I b fun _ => 0) L (zrowR R b fun _ => none) Q) : zE X M K Wd pc ls (zI i :: st) sh I L R Q := by
  subst hb; subst hk; subst hw; subst hi
  exact z_newq (n := (n : Int)) nx hd ht h1 (by omega) hn (by rw [Int.toNat_natCast]; exact kk)
/-! a slide -/
def z0 : Nat → Int := fun _ => 0
def x4s (sh : zH) : zH := sh ++ [(20, 10)] ++ [(20, 10)] ++ [(20, 5)] ++ [(20, 5)] ++ [(20, 5)] ++ [(20, 5)]
def x4z (L : zI2) (o : Nat) : zI2 := zrow (zrow (zrow (zrow (zrow (zrow L (o + 1) fun _ => 0) (o + 2) fun _ => 0) (o + 3) fun _ => 0) (o + 4) fun _ => 0) (o + 5) fun _ => 0) (o + 6) fun _ => 0
def x4J (I : zI2) (o : Nat) : zI2 := zup (zup (zup (x4z I o) o 6 0) o 7 0) o 8 1
def x4I (I : zI2) (o : Nat) : zI2 := zrow (x4J I o) (o + 1) (zfl (x4J I o (o + 1)) 10 1)
def x4R (R : zR2) (o : Nat) : zR2 := zupR (zupR (zupR (zupR (zupR (zupR R o 0 (some (o + 1))) o 1 (some (o + 2))) o 2 (some (o + 3))) o 3 (some (o + 4))) o 4 (some (o + 5))) o 5 (some (o + 6))
theorem ct_X4_init {o : Nat} (ho : sh[o]? = some (4, 9)) (hl : sh.length = o + 1) : zE X mX4_init 6 40 0 [zR o] [] sh I L R (zEq [] (x4s sh) (x4I I o) (x4z L o) (x4R R o)) := by
  refine z_aload0 1 dX4_init_0 rfl ?_
  refine z_objInit 4 dX4_init_1 ml_RX4_3 in_objectInit co_objectInit (by decide) (Nat.le_of_ble_eq_true rfl) rfl ?_
  refine z_aload0 5 dX4_init_4 rfl ?_
  refine z_bipush 7 dX4_init_5 (by decide) rfl ?_
  refine z_newaX 9 (o + 1) 10 dX4_init_7 (Or.inl ⟨rfl, rfl⟩) ac_int rfl (by decide) (by first | omega | (simp only [List.length_append, List.length_cons, List.length_nil]; omega)) rfl rfl rfl ?_
  refine z_putR 12 dX4_init_9 fp_RX4_9 rfl (by repeat first | assumption | exact zg_r (by first | omega | (simp only [List.length_append, List.length_cons, List.length_nil]; omega)) | refine zg_l ?_) rfl ?_
  refine z_aload0 13 dX4_init_12 rfl ?_
  refine z_bipush 15 dX4_init_13 (by decide) rfl ?_
  refine z_newaX 17 (o + 2) 10 dX4_init_15 (Or.inl ⟨rfl, rfl⟩) ac_int rfl (by decide) (by first | omega | (simp only [List.length_append, List.length_cons, List.length_nil]; omega)) rfl rfl rfl ?_
  refine z_putR 20 dX4_init_17 fp_RX4_15 rfl (by repeat first | assumption | exact zg_r (by first | omega | (simp only [List.length_append, List.length_cons, List.length_nil]; omega)) | refine zg_l ?_) rfl ?_
  refine z_aload0 21 dX4_init_20 rfl ?_
  refine z_iconst 22 dX4_init_21 rfl ?_
  refine z_newaX 24 (o + 3) 5 dX4_init_22 (Or.inl ⟨rfl, rfl⟩) ac_int rfl (by decide) (by first | omega | (simp only [List.length_append, List.length_cons, List.length_nil]; omega)) rfl rfl rfl ?_
  refine z_putR 27 dX4_init_24 fp_RX4_18 rfl (by repeat first | assumption | exact zg_r (by first | omega | (simp only [List.length_append, List.length_cons, List.length_nil]; omega)) | refine zg_l ?_) rfl ?_
  refine z_aload0 28 dX4_init_27 rfl ?_
  refine z_iconst 29 dX4_init_28 rfl ?_
  refine z_newaX 31 (o + 4) 5 dX4_init_29 (Or.inl ⟨rfl, rfl⟩) ac_int rfl (by decide) (by first | omega | (simp only [List.length_append, List.length_cons, List.length_nil]; omega)) rfl rfl rfl ?_
  refine z_putR 34 dX4_init_31 fp_RX4_21 rfl (by repeat first | assumption | exact zg_r (by first | omega | (simp only [List.length_append, List.length_cons, List.length_nil]; omega)) | refine zg_l ?_) rfl ?_
  refine z_aload0 35 dX4_init_34 rfl ?_
  refine z_iconst 36 dX4_init_35 rfl ?_
  refine z_newaX 38 (o + 5) 5 dX4_init_36 (Or.inl ⟨rfl, rfl⟩) ac_int rfl (by decide) (by first | omega | (simp only [List.length_append, List.length_cons, List.length_nil]; omega)) rfl rfl rfl ?_
  refine z_putR 41 dX4_init_38 fp_RX4_24 rfl (by repeat first | assumption | exact zg_r (by first | omega | (simp only [List.length_append, List.length_cons, List.length_nil]; omega)) | refine zg_l ?_) rfl ?_
  refine z_aload0 42 dX4_init_41 rfl ?_
  refine z_iconst 43 dX4_init_42 rfl ?_
  refine z_newaX 45 (o + 6) 5 dX4_init_43 (Or.inl ⟨rfl, rfl⟩) ac_int rfl (by decide) (by first | omega | (simp only [List.length_append, List.length_cons, List.length_nil]; omega)) rfl rfl rfl ?_
  refine z_putR 48 dX4_init_45 fp_RX4_27 rfl (by repeat first | assumption | exact zg_r (by first | omega | (simp only [List.length_append, List.length_cons, List.length_nil]; omega)) | refine zg_l ?_) rfl ?_
  refine z_aload0 49 dX4_init_48 rfl ?_
  refine z_iconst 50 dX4_init_49 rfl ?_
  refine z_putI 53 dX4_init_50 fp_RX4_30 (by repeat first | assumption | exact zg_r (by first | omega | (simp only [List.length_append, List.length_cons, List.length_nil]; omega)) | refine zg_l ?_) rfl ?_
  refine z_aload0 54 dX4_init_53 rfl ?_
  refine z_iconst 55 dX4_init_54 rfl ?_
  refine z_putI 58 dX4_init_55 fp_RX4_34 (by repeat first | assumption | exact zg_r (by first | omega | (simp only [List.length_append, List.length_cons, List.length_nil]; omega)) | refine zg_l ?_) rfl ?_
  refine z_aload0 59 dX4_init_58 rfl ?_
  refine z_iconst 60 dX4_init_59 rfl ?_
  refine z_putI 63 dX4_init_60 fp_RX4_37 (by repeat first | assumption | exact zg_r (by first | omega | (simp only [List.length_append, List.length_cons, List.length_nil]; omega)) | refine zg_l ?_) rfl ?_
  refine z_aload0 64 dX4_init_63 rfl ?_
  refine z_getR 67 dX4_init_64 fl_RX4_9 (by repeat first | assumption | exact zg_r (by first | omega | (simp only [List.length_append, List.length_cons, List.length_nil]; omega)) | refine zg_l ?_) (show _ = some (o + 1) from by simp [zupR]) rfl ?_
  refine z_iconst 68 dX4_init_67 rfl ?_
  refine z_xSv2 71 dX4_init_68 lk_X4_init_40 (ct_J7_fill (n := 10) (zg_l (zg_l (zg_l (zg_l (zg_l (zg_r (by omega))))))) (by decide)) rfl (Nat.le_of_ble_eq_true rfl) (Nat.le_of_ble_eq_true rfl) rfl ?_
  exact z_return dX4_init_71 rfl (⟨rfl, rfl, rfl, rfl, rfl⟩)
end CONS
