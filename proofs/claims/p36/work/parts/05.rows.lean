/-! ===== numbers ===== -/
theorem zn_T {x : Int} (h : -2147483648 ≤ x ∧ x ≤ 2147483647) : (Int32.ofInt x).toInt = x := Int32.toInt_ofInt_of_le (by omega) (by omega)
theorem zn_TL {x : Int} (h : -9223372036854775808 ≤ x ∧ x ≤ 9223372036854775807) : (Int64.ofInt x).toInt = x := Int64.toInt_ofInt_of_le (by omega) (by omega)
theorem zn_lt {x y : Int} (hx : -2147483648 ≤ x ∧ x ≤ 2147483647) (hy : -2147483648 ≤ y ∧ y ≤ 2147483647) : Int32.ofInt x < Int32.ofInt y ↔ x < y := by rw [Int32.lt_iff_toInt_lt, zn_T hx, zn_T hy]
theorem zn_le {x y : Int} (hx : -2147483648 ≤ x ∧ x ≤ 2147483647) (hy : -2147483648 ≤ y ∧ y ≤ 2147483647) : Int32.ofInt x ≤ Int32.ofInt y ↔ x ≤ y := by rw [Int32.le_iff_toInt_le, zn_T hx, zn_T hy]
theorem zn_eq {x y : Int} (hx : -2147483648 ≤ x ∧ x ≤ 2147483647) (hy : -2147483648 ≤ y ∧ y ≤ 2147483647) : Int32.ofInt x = Int32.ofInt y ↔ x = y := by rw [← Int32.toInt_inj, zn_T hx, zn_T hy]
theorem zn_lt0 {x : Int} (hx : -2147483648 ≤ x ∧ x ≤ 2147483647) : Int32.ofInt x < 0 ↔ x < 0 := zn_lt (y := 0) hx (by omega)
theorem zn_le0 {x : Int} (hx : -2147483648 ≤ x ∧ x ≤ 2147483647) : Int32.ofInt x ≤ 0 ↔ x ≤ 0 := zn_le (y := 0) hx (by omega)
theorem zn_gt0 {x : Int} (hx : -2147483648 ≤ x ∧ x ≤ 2147483647) : 0 < Int32.ofInt x ↔ 0 < x := zn_lt (x := 0) (by omega) hx
theorem zn_ge0 {x : Int} (hx : -2147483648 ≤ x ∧ x ≤ 2147483647) : 0 ≤ Int32.ofInt x ↔ 0 ≤ x := zn_le (x := 0) (by omega) hx
theorem zn_eq0 {x : Int} (hx : -2147483648 ≤ x ∧ x ≤ 2147483647) : Int32.ofInt x = 0 ↔ x = 0 := zn_eq (y := 0) hx (by omega)
theorem zn_ltL {x y : Int} (hx : -9223372036854775808 ≤ x ∧ x ≤ 9223372036854775807) (hy : -9223372036854775808 ≤ y ∧ y ≤ 9223372036854775807) : Int64.ofInt x < Int64.ofInt y ↔ x < y := by rw [Int64.lt_iff_toInt_lt, zn_TL hx, zn_TL hy]
theorem zn_eqL {x y : Int} (hx : -9223372036854775808 ≤ x ∧ x ≤ 9223372036854775807) (hy : -9223372036854775808 ≤ y ∧ y ≤ 9223372036854775807) : Int64.ofInt x = Int64.ofInt y ↔ x = y := by rw [← Int64.toInt_inj, zn_TL hx, zn_TL hy]
theorem zn_div {x y : Int} (hx : 0 ≤ x ∧ x ≤ 2147483647) (hy : 0 < y ∧ y ≤ 2147483647) : Int32.ofInt x / Int32.ofInt y = Int32.ofInt (x / y) := by
  rw [← Int.tdiv_eq_ediv_of_nonneg hx.1]
  exact (Int32.ofInt_tdiv (by show -2147483648 ≤ x; omega) (by show x ≤ 2147483647; omega) (by show -2147483648 ≤ y; omega) (by show y ≤ 2147483647; omega)).symm
theorem zn_divL {x y : Int} (hx : 0 ≤ x ∧ x ≤ 9223372036854775807) (hy : 0 < y ∧ y ≤ 9223372036854775807) : Int64.ofInt x / Int64.ofInt y = Int64.ofInt (x / y) := by
  rw [← Int.tdiv_eq_ediv_of_nonneg hx.1]
  exact (Int64.ofInt_tdiv (by show -9223372036854775808 ≤ x; omega) (by show x ≤ 9223372036854775807; omega) (by show -9223372036854775808 ≤ y; omega) (by show y ≤ 9223372036854775807; omega)).symm
theorem zn_mod {x y : Int} (hx : 0 ≤ x ∧ x ≤ 2147483647) (hy : 0 < y ∧ y ≤ 2147483647) : Int32.ofInt x - Int32.ofInt x / Int32.ofInt y * Int32.ofInt y = Int32.ofInt (x % y) := by
  rw [zn_div hx hy, ← Int32.ofInt_mul, ← Int32.ofInt_sub, Int.emod_def, Int.mul_comm]
theorem zn_modL {x y : Int} (hx : 0 ≤ x ∧ x ≤ 9223372036854775807) (hy : 0 < y ∧ y ≤ 9223372036854775807) : Int64.ofInt x - Int64.ofInt x / Int64.ofInt y * Int64.ofInt y = Int64.ofInt (x % y) := by
  rw [zn_divL hx hy, ← Int64.ofInt_mul, ← Int64.ofInt_sub, Int.emod_def, Int.mul_comm]
theorem zn_i2l {x : Int} (hx : -2147483648 ≤ x ∧ x ≤ 2147483647) : (Int32.ofInt x).toInt64 = Int64.ofInt x := Int64.toInt_inj.mp (by rw [Int32.toInt_toInt64, zn_T hx, zn_TL (by omega)])
def zand (x y : Int) : Int := (Int32.ofInt x &&& Int32.ofInt y).toInt
def zor (x y : Int) : Int := (Int32.ofInt x ||| Int32.ofInt y).toInt
def zshl (x y : Int) : Int := (Int32.ofInt x <<< (Int32.ofInt y &&& 31)).toInt
def zshr (x y : Int) : Int := (Int32.ofInt x >>> (Int32.ofInt y &&& 31)).toInt
def zushr (x y : Int) : Int := ((Int32.ofInt x).toUInt32 >>> ((Int32.ofInt y).toUInt32 &&& Int32.toUInt32 31)).toInt32.toInt
def zandL (x y : Int) : Int := (Int64.ofInt x &&& Int64.ofInt y).toInt
def zorL (x y : Int) : Int := (Int64.ofInt x ||| Int64.ofInt y).toInt
def zshlL (x y : Int) : Int := (Int64.ofInt x <<< ((Int32.ofInt y).toInt64 &&& 63)).toInt
def zl2i (x : Int) : Int := (Int64.ofInt x).toInt32.toInt
def zi2b (x : Int) : Int := (Int32.ofInt x).toInt8.toInt32.toInt
def zi2s (x : Int) : Int := (Int32.ofInt x).toInt16.toInt32.toInt
def zcmpL (x y : Int) : Int := if y < x then 1 else if x = y then 0 else -1
theorem zn_cmpL {x y : Int} (hx : -9223372036854775808 ≤ x ∧ x ≤ 9223372036854775807) (hy : -9223372036854775808 ≤ y ∧ y ≤ 9223372036854775807) : lg_cmp (Int64.ofInt x) (Int64.ofInt y) = Int32.ofInt (zcmpL x y) := by
  unfold lg_cmp zcmpL
  simp only [gt_iff_lt, zn_ltL hy hx, zn_eqL hx hy]
  split
  · rfl
  · split <;> rfl
section ZROWS
variable {X : zXs} {M : zM} {k w pc : Nat} {ls st : List zV} {sh : zH} {I L : zI2} {R : zR2} {Q : zQ}
theorem z_iconst (nx : Nat) {n : Int} (hd : decode (zmc M) pc = .ok (.iconst n, 1)) (hn : pc + 1 = nx) (kk : zE X M k w nx ls (zI n :: st) sh I L R Q) : zE X M k w pc ls st sh I L R Q := by
  subst hn
  exact zE_step (fun G p l e Rm s m args below meth c H locs cells slots Qf arr F hl kk => lv_iconst F.1 F.2.1 hd rfl (kk arr hl)) kk
theorem z_bipush (nx : Nat) {n : Int} (hd : decode (zmc M) pc = .ok (.bipush n, 2)) (hv : (Int8.ofInt n).toInt32 = Int32.ofInt n) (hn : pc + 2 = nx) (kk : zE X M k w nx ls (zI n :: st) sh I L R Q) : zE X M k w pc ls st sh I L R Q := by
  subst hn
  exact zE_step (fun G p l e Rm s m args below meth c H locs cells slots Qf arr F hl kk => lv_bipush F.1 F.2.1 hd hv (kk arr hl)) kk
theorem z_sipush (nx : Nat) {n : Int} (hd : decode (zmc M) pc = .ok (.sipush n, 3)) (hv : (Int16.ofInt n).toInt32 = Int32.ofInt n) (hn : pc + 3 = nx) (kk : zE X M k w nx ls (zI n :: st) sh I L R Q) : zE X M k w pc ls st sh I L R Q := by
  subst hn
  exact zE_step (fun G p l e Rm s m args below meth c H locs cells slots Qf arr F hl kk => lv_sipush F.1 F.2.1 hd hv (kk arr hl)) kk
theorem z_lconst0 (nx : Nat) (hd : decode (zmc M) pc = .ok (.lconst 0, 1)) (hn : pc + 1 = nx) (kk : zE X M k w nx ls (zL 0 :: st) sh I L R Q) : zE X M k w pc ls st sh I L R Q := by
  subst hn
  exact zE_step (fun G p l e Rm s m args below meth c H locs cells slots Qf arr F hl kk => lv_lconst F.1 F.2.1 hd (by decide) (kk arr hl)) kk
theorem z_lconst1 (nx : Nat) (hd : decode (zmc M) pc = .ok (.lconst 1, 1)) (hn : pc + 1 = nx) (kk : zE X M k w nx ls (zL 1 :: st) sh I L R Q) : zE X M k w pc ls st sh I L R Q := by
  subst hn
  exact zE_step (fun G p l e Rm s m args below meth c H locs cells slots Qf arr F hl kk => lv_lconst F.1 F.2.1 hd (by decide) (kk arr hl)) kk
theorem z_ldc (nx : Nat) {idx : Nat} {x : Int} (hd : decode (zmc M) pc = .ok (.ldc idx, 2)) (hw : Jvm.Cond.constant (zmo M) idx (Int32.ofInt x) ∈ zgood) (hn : pc + 2 = nx) (kk : zE X M k w nx ls (zI x :: st) sh I L R Q) : zE X M k w pc ls st sh I L R Q := by
  subst hn
  exact zE_step (fun G p l e Rm s m args below meth c H locs cells slots Qf arr F hl kk => lv_ldc F.1 F.2.1 F.2.2.2.1 (F.2.2.2.2.1 _ hw) hd (kk arr hl)) kk
theorem z_ldc2 (nx : Nat) {idx : Nat} {x : Int} (hd : decode (zmc M) pc = .ok (.ldc2_w idx, 3)) (hw : Jvm.Cond.constantLong (zmo M) idx (Int64.ofInt x) ∈ zgood) (hn : pc + 3 = nx) (kk : zE X M k w nx ls (zL x :: st) sh I L R Q) : zE X M k w pc ls st sh I L R Q := by
  subst hn
  exact zE_step (fun G p l e Rm s m args below meth c H locs cells slots Qf arr F hl kk => lv_ldc2 F.1 F.2.1 F.2.2.2.1 (F.2.2.2.2.1 _ hw) hd (kk arr hl)) kk
theorem z_iload0 (nx : Nat) {tl : List zV} {x : Int} (hd : decode (zmc M) pc = .ok (.iload_n 0, 1)) (hn : pc + 1 = nx) (kk : zE X M k w nx (zI x :: tl) (zI x :: st) sh I L R Q) : zE X M k w pc (zI x :: tl) st sh I L R Q := by
  subst hn
  exact zE_step (fun G p l e Rm s m args below meth c H locs cells slots Qf arr F hl kk => lv_iload_n F.1 F.2.1 hd rfl (zlp_at hl (i := 0) (v := zI x) rfl rfl) (kk arr hl)) kk
theorem z_lload0 (nx : Nat) {tl : List zV} {x : Int} (hd : decode (zmc M) pc = .ok (.lload_n 0, 1)) (hn : pc + 1 = nx) (kk : zE X M k w nx (zL x :: tl) (zL x :: st) sh I L R Q) : zE X M k w pc (zL x :: tl) st sh I L R Q := by
  subst hn
  exact zE_step (fun G p l e Rm s m args below meth c H locs cells slots Qf arr F hl kk => lv_lload_n F.1 F.2.1 hd rfl (zlp_at hl (i := 0) (v := zL x) rfl rfl) (kk arr hl)) kk
theorem z_aload0 (nx : Nat) {tl : List zV} {x : Nat} (hd : decode (zmc M) pc = .ok (.aload_n 0, 1)) (hn : pc + 1 = nx) (kk : zE X M k w nx (zR x :: tl) (zR x :: st) sh I L R Q) : zE X M k w pc (zR x :: tl) st sh I L R Q := by
  subst hn
  exact zE_step (fun G p l e Rm s m args below meth c H locs cells slots Qf arr F hl kk => lv_aload_n F.1 F.2.1 hd rfl (zlp_at hl (i := 0) (v := zR x) rfl rfl) (kk arr hl)) kk
theorem z_aloadS0 (nx : Nat) {tl : List zV} (hd : decode (zmc M) pc = .ok (.aload_n 0, 1)) (hn : pc + 1 = nx) (kk : zE X M k w nx (zS :: tl) (zS :: st) sh I L R Q) : zE X M k w pc (zS :: tl) st sh I L R Q := by
  subst hn
  exact zE_step (fun G p l e Rm s m args below meth c H locs cells slots Qf arr F hl kk => lv_aload_n F.1 F.2.1 hd rfl (zlp_at hl (i := 0) (v := zS) rfl rfl) (kk arr hl)) kk
theorem z_istore0 (nx : Nat) {c : zV} {tl : List zV} {x : Int} (hd : decode (zmc M) pc = .ok (.istore_n 0, 1)) (hi : 0 < zml M) (hn : pc + 1 = nx) (kk : zE X M k w nx (zI x :: tl) st sh I L R Q) : zE X M k w pc (c :: tl) (zI x :: st) sh I L R Q := by
  subst hn
  exact zE_step (fun G p l e Rm s m args below meth c H locs cells slots Qf arr F hl kk => lv_istore_n F.1 F.2.1 hd rfl hl hi rfl (fun arr' hl' => kk arr' (lv_mono hl' (zst1_sub (zst1_pat0))))) kk
theorem z_astore0 (nx : Nat) {c : zV} {tl : List zV} {x : Nat} (hd : decode (zmc M) pc = .ok (.astore_n 0, 1)) (hi : 0 < zml M) (hn : pc + 1 = nx) (kk : zE X M k w nx (zR x :: tl) st sh I L R Q) : zE X M k w pc (c :: tl) (zR x :: st) sh I L R Q := by
  subst hn
  exact zE_step (fun G p l e Rm s m args below meth c H locs cells slots Qf arr F hl kk => lv_astore_n F.1 F.2.1 hd rfl hl hi rfl (fun arr' hl' => kk arr' (lv_mono hl' (zst1_sub (zst1_pat0))))) kk
theorem z_iinc0 (nx : Nat) {tl : List zV} {x n : Int} (hd : decode (zmc M) pc = .ok (.iinc 0 n, 3)) (hi : 0 < zml M) (hn : pc + 3 = nx) (kk : zE X M k w nx (zI (x + n) :: tl) st sh I L R Q) : zE X M k w pc (zI x :: tl) st sh I L R Q := by
  subst hn
  exact zE_step (fun G p l e Rm s m args below meth c H locs cells slots Qf arr F hl kk => (by
    obtain ⟨kx, hkx⟩ := List.getElem?_of_mem (zlp_mem (G := G) (i := 0) (ls := (zI x :: tl)) (j := 0) (v := zI x) rfl rfl)
    exact lv_iinc (v := Int32.ofInt (x + n)) F.1 F.2.1 hd hl (k := kx) (by rw [Nat.zero_add] at hkx; exact hkx) (by rw [Int32.ofInt_add]) hi rfl (fun arr' hl' => kk arr' (lv_mono hl' (zst1_sub (zst1_pat0)))))) kk
theorem z_iload1 (nx : Nat) {a0 : zV} {tl : List zV} {x : Int} (hd : decode (zmc M) pc = .ok (.iload_n 1, 1)) (hn : pc + 1 = nx) (kk : zE X M k w nx (a0 :: zI x :: tl) (zI x :: st) sh I L R Q) : zE X M k w pc (a0 :: zI x :: tl) st sh I L R Q := by
  subst hn
  exact zE_step (fun G p l e Rm s m args below meth c H locs cells slots Qf arr F hl kk => lv_iload_n F.1 F.2.1 hd rfl (zlp_at hl (i := 1) (v := zI x) rfl rfl) (kk arr hl)) kk
theorem z_lload1 (nx : Nat) {a0 : zV} {tl : List zV} {x : Int} (hd : decode (zmc M) pc = .ok (.lload_n 1, 1)) (hn : pc + 1 = nx) (kk : zE X M k w nx (a0 :: zL x :: tl) (zL x :: st) sh I L R Q) : zE X M k w pc (a0 :: zL x :: tl) st sh I L R Q := by
  subst hn
  exact zE_step (fun G p l e Rm s m args below meth c H locs cells slots Qf arr F hl kk => lv_lload_n F.1 F.2.1 hd rfl (zlp_at hl (i := 1) (v := zL x) rfl rfl) (kk arr hl)) kk
theorem z_aload1 (nx : Nat) {a0 : zV} {tl : List zV} {x : Nat} (hd : decode (zmc M) pc = .ok (.aload_n 1, 1)) (hn : pc + 1 = nx) (kk : zE X M k w nx (a0 :: zR x :: tl) (zR x :: st) sh I L R Q) : zE X M k w pc (a0 :: zR x :: tl) st sh I L R Q := by
  subst hn
  exact zE_step (fun G p l e Rm s m args below meth c H locs cells slots Qf arr F hl kk => lv_aload_n F.1 F.2.1 hd rfl (zlp_at hl (i := 1) (v := zR x) rfl rfl) (kk arr hl)) kk
theorem z_istore1 (nx : Nat) {b c : zV} {tl : List zV} {x : Int} (hd : decode (zmc M) pc = .ok (.istore_n 1, 1)) (hi : 1 < zml M) (hb : zl b = false) (hn : pc + 1 = nx) (kk : zE X M k w nx (b :: zI x :: tl) st sh I L R Q) : zE X M k w pc (b :: c :: tl) (zI x :: st) sh I L R Q := by
  subst hn
  exact zE_step (fun G p l e Rm s m args below meth c H locs cells slots Qf arr F hl kk => lv_istore_n F.1 F.2.1 hd rfl hl hi rfl (fun arr' hl' => kk arr' (lv_mono hl' (zst1_sub (zst1_pat [] hb))))) kk
theorem z_astore1 (nx : Nat) {b c : zV} {tl : List zV} {x : Nat} (hd : decode (zmc M) pc = .ok (.astore_n 1, 1)) (hi : 1 < zml M) (hb : zl b = false) (hn : pc + 1 = nx) (kk : zE X M k w nx (b :: zR x :: tl) st sh I L R Q) : zE X M k w pc (b :: c :: tl) (zR x :: st) sh I L R Q := by
  subst hn
  exact zE_step (fun G p l e Rm s m args below meth c H locs cells slots Qf arr F hl kk => lv_astore_n F.1 F.2.1 hd rfl hl hi rfl (fun arr' hl' => kk arr' (lv_mono hl' (zst1_sub (zst1_pat [] hb))))) kk
theorem z_lstore1 (nx : Nat) {b c d : zV} {tl : List zV} {x : Int} (hd : decode (zmc M) pc = .ok (.lstore_n 1, 1)) (hi : 1+1 < zml M) (hb : zl b = false) (hn : pc + 1 = nx) (kk : zE X M k w nx (b :: zL x :: zX :: tl) st sh I L R Q) : zE X M k w pc (b :: c :: d :: tl) (zL x :: st) sh I L R Q := by
  subst hn
  exact zE_step (fun G p l e Rm s m args below meth c H locs cells slots Qf arr F hl kk => lv_lstore_n F.1 F.2.1 hd rfl hl hi rfl (fun arr' hl' => kk arr' (lv_mono hl' (zst2_sub (zst2_pat [] hb))))) kk
theorem z_iinc1 (nx : Nat) {b : zV} {tl : List zV} {x n : Int} (hd : decode (zmc M) pc = .ok (.iinc 1 n, 3)) (hi : 1 < zml M) (hb : zl b = false) (hn : pc + 3 = nx) (kk : zE X M k w nx (b :: zI (x + n) :: tl) st sh I L R Q) : zE X M k w pc (b :: zI x :: tl) st sh I L R Q := by
  subst hn
  exact zE_step (fun G p l e Rm s m args below meth c H locs cells slots Qf arr F hl kk => (by
    obtain ⟨kx, hkx⟩ := List.getElem?_of_mem (zlp_mem (G := G) (i := 0) (ls := (b :: zI x :: tl)) (j := 1) (v := zI x) rfl rfl)
    exact lv_iinc (v := Int32.ofInt (x + n)) F.1 F.2.1 hd hl (k := kx) (by rw [Nat.zero_add] at hkx; exact hkx) (by rw [Int32.ofInt_add]) hi rfl (fun arr' hl' => kk arr' (lv_mono hl' (zst1_sub (zst1_pat [] hb)))))) kk
theorem z_iload2 (nx : Nat) {a0 a1 : zV} {tl : List zV} {x : Int} (hd : decode (zmc M) pc = .ok (.iload_n 2, 1)) (hn : pc + 1 = nx) (kk : zE X M k w nx (a0 :: a1 :: zI x :: tl) (zI x :: st) sh I L R Q) : zE X M k w pc (a0 :: a1 :: zI x :: tl) st sh I L R Q := by
  subst hn
  exact zE_step (fun G p l e Rm s m args below meth c H locs cells slots Qf arr F hl kk => lv_iload_n F.1 F.2.1 hd rfl (zlp_at hl (i := 2) (v := zI x) rfl rfl) (kk arr hl)) kk
theorem z_lload2 (nx : Nat) {a0 a1 : zV} {tl : List zV} {x : Int} (hd : decode (zmc M) pc = .ok (.lload_n 2, 1)) (hn : pc + 1 = nx) (kk : zE X M k w nx (a0 :: a1 :: zL x :: tl) (zL x :: st) sh I L R Q) : zE X M k w pc (a0 :: a1 :: zL x :: tl) st sh I L R Q := by
  subst hn
  exact zE_step (fun G p l e Rm s m args below meth c H locs cells slots Qf arr F hl kk => lv_lload_n F.1 F.2.1 hd rfl (zlp_at hl (i := 2) (v := zL x) rfl rfl) (kk arr hl)) kk
theorem z_aload2 (nx : Nat) {a0 a1 : zV} {tl : List zV} {x : Nat} (hd : decode (zmc M) pc = .ok (.aload_n 2, 1)) (hn : pc + 1 = nx) (kk : zE X M k w nx (a0 :: a1 :: zR x :: tl) (zR x :: st) sh I L R Q) : zE X M k w pc (a0 :: a1 :: zR x :: tl) st sh I L R Q := by
  subst hn
  exact zE_step (fun G p l e Rm s m args below meth c H locs cells slots Qf arr F hl kk => lv_aload_n F.1 F.2.1 hd rfl (zlp_at hl (i := 2) (v := zR x) rfl rfl) (kk arr hl)) kk
theorem z_istore2 (nx : Nat) {a0 b c : zV} {tl : List zV} {x : Int} (hd : decode (zmc M) pc = .ok (.istore_n 2, 1)) (hi : 2 < zml M) (hb : zl b = false) (hn : pc + 1 = nx) (kk : zE X M k w nx (a0 :: b :: zI x :: tl) st sh I L R Q) : zE X M k w pc (a0 :: b :: c :: tl) (zI x :: st) sh I L R Q := by
  subst hn
  exact zE_step (fun G p l e Rm s m args below meth c H locs cells slots Qf arr F hl kk => lv_istore_n F.1 F.2.1 hd rfl hl hi rfl (fun arr' hl' => kk arr' (lv_mono hl' (zst1_sub (zst1_pat [a0] hb))))) kk
theorem z_astore2 (nx : Nat) {a0 b c : zV} {tl : List zV} {x : Nat} (hd : decode (zmc M) pc = .ok (.astore_n 2, 1)) (hi : 2 < zml M) (hb : zl b = false) (hn : pc + 1 = nx) (kk : zE X M k w nx (a0 :: b :: zR x :: tl) st sh I L R Q) : zE X M k w pc (a0 :: b :: c :: tl) (zR x :: st) sh I L R Q := by
  subst hn
  exact zE_step (fun G p l e Rm s m args below meth c H locs cells slots Qf arr F hl kk => lv_astore_n F.1 F.2.1 hd rfl hl hi rfl (fun arr' hl' => kk arr' (lv_mono hl' (zst1_sub (zst1_pat [a0] hb))))) kk
theorem z_lstore2 (nx : Nat) {a0 b c d : zV} {tl : List zV} {x : Int} (hd : decode (zmc M) pc = .ok (.lstore_n 2, 1)) (hi : 2+1 < zml M) (hb : zl b = false) (hn : pc + 1 = nx) (kk : zE X M k w nx (a0 :: b :: zL x :: zX :: tl) st sh I L R Q) : zE X M k w pc (a0 :: b :: c :: d :: tl) (zL x :: st) sh I L R Q := by
  subst hn
  exact zE_step (fun G p l e Rm s m args below meth c H locs cells slots Qf arr F hl kk => lv_lstore_n F.1 F.2.1 hd rfl hl hi rfl (fun arr' hl' => kk arr' (lv_mono hl' (zst2_sub (zst2_pat [a0] hb))))) kk
theorem z_iinc2 (nx : Nat) {a0 b : zV} {tl : List zV} {x n : Int} (hd : decode (zmc M) pc = .ok (.iinc 2 n, 3)) (hi : 2 < zml M) (hb : zl b = false) (hn : pc + 3 = nx) (kk : zE X M k w nx (a0 :: b :: zI (x + n) :: tl) st sh I L R Q) : zE X M k w pc (a0 :: b :: zI x :: tl) st sh I L R Q := by
  subst hn
  exact zE_step (fun G p l e Rm s m args below meth c H locs cells slots Qf arr F hl kk => (by
    obtain ⟨kx, hkx⟩ := List.getElem?_of_mem (zlp_mem (G := G) (i := 0) (ls := (a0 :: b :: zI x :: tl)) (j := 2) (v := zI x) rfl rfl)
    exact lv_iinc (v := Int32.ofInt (x + n)) F.1 F.2.1 hd hl (k := kx) (by rw [Nat.zero_add] at hkx; exact hkx) (by rw [Int32.ofInt_add]) hi rfl (fun arr' hl' => kk arr' (lv_mono hl' (zst1_sub (zst1_pat [a0] hb)))))) kk
theorem z_iload3 (nx : Nat) {a0 a1 a2 : zV} {tl : List zV} {x : Int} (hd : decode (zmc M) pc = .ok (.iload_n 3, 1)) (hn : pc + 1 = nx) (kk : zE X M k w nx (a0 :: a1 :: a2 :: zI x :: tl) (zI x :: st) sh I L R Q) : zE X M k w pc (a0 :: a1 :: a2 :: zI x :: tl) st sh I L R Q := by
  subst hn
  exact zE_step (fun G p l e Rm s m args below meth c H locs cells slots Qf arr F hl kk => lv_iload_n F.1 F.2.1 hd rfl (zlp_at hl (i := 3) (v := zI x) rfl rfl) (kk arr hl)) kk
theorem z_lload3 (nx : Nat) {a0 a1 a2 : zV} {tl : List zV} {x : Int} (hd : decode (zmc M) pc = .ok (.lload_n 3, 1)) (hn : pc + 1 = nx) (kk : zE X M k w nx (a0 :: a1 :: a2 :: zL x :: tl) (zL x :: st) sh I L R Q) : zE X M k w pc (a0 :: a1 :: a2 :: zL x :: tl) st sh I L R Q := by
  subst hn
  exact zE_step (fun G p l e Rm s m args below meth c H locs cells slots Qf arr F hl kk => lv_lload_n F.1 F.2.1 hd rfl (zlp_at hl (i := 3) (v := zL x) rfl rfl) (kk arr hl)) kk
theorem z_aload3 (nx : Nat) {a0 a1 a2 : zV} {tl : List zV} {x : Nat} (hd : decode (zmc M) pc = .ok (.aload_n 3, 1)) (hn : pc + 1 = nx) (kk : zE X M k w nx (a0 :: a1 :: a2 :: zR x :: tl) (zR x :: st) sh I L R Q) : zE X M k w pc (a0 :: a1 :: a2 :: zR x :: tl) st sh I L R Q := by
  subst hn
  exact zE_step (fun G p l e Rm s m args below meth c H locs cells slots Qf arr F hl kk => lv_aload_n F.1 F.2.1 hd rfl (zlp_at hl (i := 3) (v := zR x) rfl rfl) (kk arr hl)) kk
theorem z_istore3 (nx : Nat) {a0 a1 b c : zV} {tl : List zV} {x : Int} (hd : decode (zmc M) pc = .ok (.istore_n 3, 1)) (hi : 3 < zml M) (hb : zl b = false) (hn : pc + 1 = nx) (kk : zE X M k w nx (a0 :: a1 :: b :: zI x :: tl) st sh I L R Q) : zE X M k w pc (a0 :: a1 :: b :: c :: tl) (zI x :: st) sh I L R Q := by
  subst hn
  exact zE_step (fun G p l e Rm s m args below meth c H locs cells slots Qf arr F hl kk => lv_istore_n F.1 F.2.1 hd rfl hl hi rfl (fun arr' hl' => kk arr' (lv_mono hl' (zst1_sub (zst1_pat [a0, a1] hb))))) kk
theorem z_astore3 (nx : Nat) {a0 a1 b c : zV} {tl : List zV} {x : Nat} (hd : decode (zmc M) pc = .ok (.astore_n 3, 1)) (hi : 3 < zml M) (hb : zl b = false) (hn : pc + 1 = nx) (kk : zE X M k w nx (a0 :: a1 :: b :: zR x :: tl) st sh I L R Q) : zE X M k w pc (a0 :: a1 :: b :: c :: tl) (zR x :: st) sh I L R Q := by
  subst hn
  exact zE_step (fun G p l e Rm s m args below meth c H locs cells slots Qf arr F hl kk => lv_astore_n F.1 F.2.1 hd rfl hl hi rfl (fun arr' hl' => kk arr' (lv_mono hl' (zst1_sub (zst1_pat [a0, a1] hb))))) kk
theorem z_lstore3 (nx : Nat) {a0 a1 b c d : zV} {tl : List zV} {x : Int} (hd : decode (zmc M) pc = .ok (.lstore_n 3, 1)) (hi : 3+1 < zml M) (hb : zl b = false) (hn : pc + 1 = nx) (kk : zE X M k w nx (a0 :: a1 :: b :: zL x :: zX :: tl) st sh I L R Q) : zE X M k w pc (a0 :: a1 :: b :: c :: d :: tl) (zL x :: st) sh I L R Q := by
  subst hn
  exact zE_step (fun G p l e Rm s m args below meth c H locs cells slots Qf arr F hl kk => lv_lstore_n F.1 F.2.1 hd rfl hl hi rfl (fun arr' hl' => kk arr' (lv_mono hl' (zst2_sub (zst2_pat [a0, a1] hb))))) kk
theorem z_iinc3 (nx : Nat) {a0 a1 b : zV} {tl : List zV} {x n : Int} (hd : decode (zmc M) pc = .ok (.iinc 3 n, 3)) (hi : 3 < zml M) (hb : zl b = false) (hn : pc + 3 = nx) (kk : zE X M k w nx (a0 :: a1 :: b :: zI (x + n) :: tl) st sh I L R Q) : zE X M k w pc (a0 :: a1 :: b :: zI x :: tl) st sh I L R Q := by
  subst hn
  exact zE_step (fun G p l e Rm s m args below meth c H locs cells slots Qf arr F hl kk => (by
    obtain ⟨kx, hkx⟩ := List.getElem?_of_mem (zlp_mem (G := G) (i := 0) (ls := (a0 :: a1 :: b :: zI x :: tl)) (j := 3) (v := zI x) rfl rfl)
    exact lv_iinc (v := Int32.ofInt (x + n)) F.1 F.2.1 hd hl (k := kx) (by rw [Nat.zero_add] at hkx; exact hkx) (by rw [Int32.ofInt_add]) hi rfl (fun arr' hl' => kk arr' (lv_mono hl' (zst1_sub (zst1_pat [a0, a1] hb)))))) kk
theorem z_iload4 (nx : Nat) {a0 a1 a2 a3 : zV} {tl : List zV} {x : Int} (hd : decode (zmc M) pc = .ok (.iload 4, 2)) (hn : pc + 2 = nx) (kk : zE X M k w nx (a0 :: a1 :: a2 :: a3 :: zI x :: tl) (zI x :: st) sh I L R Q) : zE X M k w pc (a0 :: a1 :: a2 :: a3 :: zI x :: tl) st sh I L R Q := by
  subst hn
  exact zE_step (fun G p l e Rm s m args below meth c H locs cells slots Qf arr F hl kk => lv_iload F.1 F.2.1 hd (zlp_at hl (i := 4) (v := zI x) rfl rfl) (kk arr hl)) kk
theorem z_lload4 (nx : Nat) {a0 a1 a2 a3 : zV} {tl : List zV} {x : Int} (hd : decode (zmc M) pc = .ok (.lload 4, 2)) (hn : pc + 2 = nx) (kk : zE X M k w nx (a0 :: a1 :: a2 :: a3 :: zL x :: tl) (zL x :: st) sh I L R Q) : zE X M k w pc (a0 :: a1 :: a2 :: a3 :: zL x :: tl) st sh I L R Q := by
  subst hn
  exact zE_step (fun G p l e Rm s m args below meth c H locs cells slots Qf arr F hl kk => lv_lload F.1 F.2.1 hd (zlp_at hl (i := 4) (v := zL x) rfl rfl) (kk arr hl)) kk
theorem z_aload4 (nx : Nat) {a0 a1 a2 a3 : zV} {tl : List zV} {x : Nat} (hd : decode (zmc M) pc = .ok (.aload 4, 2)) (hn : pc + 2 = nx) (kk : zE X M k w nx (a0 :: a1 :: a2 :: a3 :: zR x :: tl) (zR x :: st) sh I L R Q) : zE X M k w pc (a0 :: a1 :: a2 :: a3 :: zR x :: tl) st sh I L R Q := by
  subst hn
  exact zE_step (fun G p l e Rm s m args below meth c H locs cells slots Qf arr F hl kk => lv_aload F.1 F.2.1 hd (zlp_at hl (i := 4) (v := zR x) rfl rfl) (kk arr hl)) kk
theorem z_istore4 (nx : Nat) {a0 a1 a2 b c : zV} {tl : List zV} {x : Int} (hd : decode (zmc M) pc = .ok (.istore 4, 2)) (hi : 4 < zml M) (hb : zl b = false) (hn : pc + 2 = nx) (kk : zE X M k w nx (a0 :: a1 :: a2 :: b :: zI x :: tl) st sh I L R Q) : zE X M k w pc (a0 :: a1 :: a2 :: b :: c :: tl) (zI x :: st) sh I L R Q := by
  subst hn
  exact zE_step (fun G p l e Rm s m args below meth c H locs cells slots Qf arr F hl kk => lv_istore F.1 F.2.1 hd hl hi rfl (fun arr' hl' => kk arr' (lv_mono hl' (zst1_sub (zst1_pat [a0, a1, a2] hb))))) kk
theorem z_astore4 (nx : Nat) {a0 a1 a2 b c : zV} {tl : List zV} {x : Nat} (hd : decode (zmc M) pc = .ok (.astore 4, 2)) (hi : 4 < zml M) (hb : zl b = false) (hn : pc + 2 = nx) (kk : zE X M k w nx (a0 :: a1 :: a2 :: b :: zR x :: tl) st sh I L R Q) : zE X M k w pc (a0 :: a1 :: a2 :: b :: c :: tl) (zR x :: st) sh I L R Q := by
  subst hn
  exact zE_step (fun G p l e Rm s m args below meth c H locs cells slots Qf arr F hl kk => lv_astore F.1 F.2.1 hd hl hi rfl (fun arr' hl' => kk arr' (lv_mono hl' (zst1_sub (zst1_pat [a0, a1, a2] hb))))) kk
theorem z_lstore4 (nx : Nat) {a0 a1 a2 b c d : zV} {tl : List zV} {x : Int} (hd : decode (zmc M) pc = .ok (.lstore 4, 2)) (hi : 4+1 < zml M) (hb : zl b = false) (hn : pc + 2 = nx) (kk : zE X M k w nx (a0 :: a1 :: a2 :: b :: zL x :: zX :: tl) st sh I L R Q) : zE X M k w pc (a0 :: a1 :: a2 :: b :: c :: d :: tl) (zL x :: st) sh I L R Q := by
  subst hn
  exact zE_step (fun G p l e Rm s m args below meth c H locs cells slots Qf arr F hl kk => lv_lstore F.1 F.2.1 hd hl hi rfl (fun arr' hl' => kk arr' (lv_mono hl' (zst2_sub (zst2_pat [a0, a1, a2] hb))))) kk
theorem z_iinc4 (nx : Nat) {a0 a1 a2 b : zV} {tl : List zV} {x n : Int} (hd : decode (zmc M) pc = .ok (.iinc 4 n, 3)) (hi : 4 < zml M) (hb : zl b = false) (hn : pc + 3 = nx) (kk : zE X M k w nx (a0 :: a1 :: a2 :: b :: zI (x + n) :: tl) st sh I L R Q) : zE X M k w pc (a0 :: a1 :: a2 :: b :: zI x :: tl) st sh I L R Q := by
  subst hn
  exact zE_step (fun G p l e Rm s m args below meth c H locs cells slots Qf arr F hl kk => (by
    obtain ⟨kx, hkx⟩ := List.getElem?_of_mem (zlp_mem (G := G) (i := 0) (ls := (a0 :: a1 :: a2 :: b :: zI x :: tl)) (j := 4) (v := zI x) rfl rfl)
    exact lv_iinc (v := Int32.ofInt (x + n)) F.1 F.2.1 hd hl (k := kx) (by rw [Nat.zero_add] at hkx; exact hkx) (by rw [Int32.ofInt_add]) hi rfl (fun arr' hl' => kk arr' (lv_mono hl' (zst1_sub (zst1_pat [a0, a1, a2] hb)))))) kk
theorem z_iload5 (nx : Nat) {a0 a1 a2 a3 a4 : zV} {tl : List zV} {x : Int} (hd : decode (zmc M) pc = .ok (.iload 5, 2)) (hn : pc + 2 = nx) (kk : zE X M k w nx (a0 :: a1 :: a2 :: a3 :: a4 :: zI x :: tl) (zI x :: st) sh I L R Q) : zE X M k w pc (a0 :: a1 :: a2 :: a3 :: a4 :: zI x :: tl) st sh I L R Q := by
  subst hn
  exact zE_step (fun G p l e Rm s m args below meth c H locs cells slots Qf arr F hl kk => lv_iload F.1 F.2.1 hd (zlp_at hl (i := 5) (v := zI x) rfl rfl) (kk arr hl)) kk
theorem z_lload5 (nx : Nat) {a0 a1 a2 a3 a4 : zV} {tl : List zV} {x : Int} (hd : decode (zmc M) pc = .ok (.lload 5, 2)) (hn : pc + 2 = nx) (kk : zE X M k w nx (a0 :: a1 :: a2 :: a3 :: a4 :: zL x :: tl) (zL x :: st) sh I L R Q) : zE X M k w pc (a0 :: a1 :: a2 :: a3 :: a4 :: zL x :: tl) st sh I L R Q := by
  subst hn
  exact zE_step (fun G p l e Rm s m args below meth c H locs cells slots Qf arr F hl kk => lv_lload F.1 F.2.1 hd (zlp_at hl (i := 5) (v := zL x) rfl rfl) (kk arr hl)) kk
theorem z_aload5 (nx : Nat) {a0 a1 a2 a3 a4 : zV} {tl : List zV} {x : Nat} (hd : decode (zmc M) pc = .ok (.aload 5, 2)) (hn : pc + 2 = nx) (kk : zE X M k w nx (a0 :: a1 :: a2 :: a3 :: a4 :: zR x :: tl) (zR x :: st) sh I L R Q) : zE X M k w pc (a0 :: a1 :: a2 :: a3 :: a4 :: zR x :: tl) st sh I L R Q := by
  subst hn
  exact zE_step (fun G p l e Rm s m args below meth c H locs cells slots Qf arr F hl kk => lv_aload F.1 F.2.1 hd (zlp_at hl (i := 5) (v := zR x) rfl rfl) (kk arr hl)) kk
theorem z_istore5 (nx : Nat) {a0 a1 a2 a3 b c : zV} {tl : List zV} {x : Int} (hd : decode (zmc M) pc = .ok (.istore 5, 2)) (hi : 5 < zml M) (hb : zl b = false) (hn : pc + 2 = nx) (kk : zE X M k w nx (a0 :: a1 :: a2 :: a3 :: b :: zI x :: tl) st sh I L R Q) : zE X M k w pc (a0 :: a1 :: a2 :: a3 :: b :: c :: tl) (zI x :: st) sh I L R Q := by
  subst hn
  exact zE_step (fun G p l e Rm s m args below meth c H locs cells slots Qf arr F hl kk => lv_istore F.1 F.2.1 hd hl hi rfl (fun arr' hl' => kk arr' (lv_mono hl' (zst1_sub (zst1_pat [a0, a1, a2, a3] hb))))) kk
theorem z_astore5 (nx : Nat) {a0 a1 a2 a3 b c : zV} {tl : List zV} {x : Nat} (hd : decode (zmc M) pc = .ok (.astore 5, 2)) (hi : 5 < zml M) (hb : zl b = false) (hn : pc + 2 = nx) (kk : zE X M k w nx (a0 :: a1 :: a2 :: a3 :: b :: zR x :: tl) st sh I L R Q) : zE X M k w pc (a0 :: a1 :: a2 :: a3 :: b :: c :: tl) (zR x :: st) sh I L R Q := by
  subst hn
  exact zE_step (fun G p l e Rm s m args below meth c H locs cells slots Qf arr F hl kk => lv_astore F.1 F.2.1 hd hl hi rfl (fun arr' hl' => kk arr' (lv_mono hl' (zst1_sub (zst1_pat [a0, a1, a2, a3] hb))))) kk
theorem z_lstore5 (nx : Nat) {a0 a1 a2 a3 b c d : zV} {tl : List zV} {x : Int} (hd : decode (zmc M) pc = .ok (.lstore 5, 2)) (hi : 5+1 < zml M) (hb : zl b = false) (hn : pc + 2 = nx) (kk : zE X M k w nx (a0 :: a1 :: a2 :: a3 :: b :: zL x :: zX :: tl) st sh I L R Q) : zE X M k w pc (a0 :: a1 :: a2 :: a3 :: b :: c :: d :: tl) (zL x :: st) sh I L R Q := by
  subst hn
  exact zE_step (fun G p l e Rm s m args below meth c H locs cells slots Qf arr F hl kk => lv_lstore F.1 F.2.1 hd hl hi rfl (fun arr' hl' => kk arr' (lv_mono hl' (zst2_sub (zst2_pat [a0, a1, a2, a3] hb))))) kk
theorem z_iinc5 (nx : Nat) {a0 a1 a2 a3 b : zV} {tl : List zV} {x n : Int} (hd : decode (zmc M) pc = .ok (.iinc 5 n, 3)) (hi : 5 < zml M) (hb : zl b = false) (hn : pc + 3 = nx) (kk : zE X M k w nx (a0 :: a1 :: a2 :: a3 :: b :: zI (x + n) :: tl) st sh I L R Q) : zE X M k w pc (a0 :: a1 :: a2 :: a3 :: b :: zI x :: tl) st sh I L R Q := by
  subst hn
  exact zE_step (fun G p l e Rm s m args below meth c H locs cells slots Qf arr F hl kk => (by
    obtain ⟨kx, hkx⟩ := List.getElem?_of_mem (zlp_mem (G := G) (i := 0) (ls := (a0 :: a1 :: a2 :: a3 :: b :: zI x :: tl)) (j := 5) (v := zI x) rfl rfl)
    exact lv_iinc (v := Int32.ofInt (x + n)) F.1 F.2.1 hd hl (k := kx) (by rw [Nat.zero_add] at hkx; exact hkx) (by rw [Int32.ofInt_add]) hi rfl (fun arr' hl' => kk arr' (lv_mono hl' (zst1_sub (zst1_pat [a0, a1, a2, a3] hb)))))) kk
theorem z_iload6 (nx : Nat) {a0 a1 a2 a3 a4 a5 : zV} {tl : List zV} {x : Int} (hd : decode (zmc M) pc = .ok (.iload 6, 2)) (hn : pc + 2 = nx) (kk : zE X M k w nx (a0 :: a1 :: a2 :: a3 :: a4 :: a5 :: zI x :: tl) (zI x :: st) sh I L R Q) : zE X M k w pc (a0 :: a1 :: a2 :: a3 :: a4 :: a5 :: zI x :: tl) st sh I L R Q := by
  subst hn
  exact zE_step (fun G p l e Rm s m args below meth c H locs cells slots Qf arr F hl kk => lv_iload F.1 F.2.1 hd (zlp_at hl (i := 6) (v := zI x) rfl rfl) (kk arr hl)) kk
theorem z_lload6 (nx : Nat) {a0 a1 a2 a3 a4 a5 : zV} {tl : List zV} {x : Int} (hd : decode (zmc M) pc = .ok (.lload 6, 2)) (hn : pc + 2 = nx) (kk : zE X M k w nx (a0 :: a1 :: a2 :: a3 :: a4 :: a5 :: zL x :: tl) (zL x :: st) sh I L R Q) : zE X M k w pc (a0 :: a1 :: a2 :: a3 :: a4 :: a5 :: zL x :: tl) st sh I L R Q := by
  subst hn
  exact zE_step (fun G p l e Rm s m args below meth c H locs cells slots Qf arr F hl kk => lv_lload F.1 F.2.1 hd (zlp_at hl (i := 6) (v := zL x) rfl rfl) (kk arr hl)) kk
theorem z_aload6 (nx : Nat) {a0 a1 a2 a3 a4 a5 : zV} {tl : List zV} {x : Nat} (hd : decode (zmc M) pc = .ok (.aload 6, 2)) (hn : pc + 2 = nx) (kk : zE X M k w nx (a0 :: a1 :: a2 :: a3 :: a4 :: a5 :: zR x :: tl) (zR x :: st) sh I L R Q) : zE X M k w pc (a0 :: a1 :: a2 :: a3 :: a4 :: a5 :: zR x :: tl) st sh I L R Q := by
  subst hn
  exact zE_step (fun G p l e Rm s m args below meth c H locs cells slots Qf arr F hl kk => lv_aload F.1 F.2.1 hd (zlp_at hl (i := 6) (v := zR x) rfl rfl) (kk arr hl)) kk
theorem z_istore6 (nx : Nat) {a0 a1 a2 a3 a4 b c : zV} {tl : List zV} {x : Int} (hd : decode (zmc M) pc = .ok (.istore 6, 2)) (hi : 6 < zml M) (hb : zl b = false) (hn : pc + 2 = nx) (kk : zE X M k w nx (a0 :: a1 :: a2 :: a3 :: a4 :: b :: zI x :: tl) st sh I L R Q) : zE X M k w pc (a0 :: a1 :: a2 :: a3 :: a4 :: b :: c :: tl) (zI x :: st) sh I L R Q := by
  subst hn
  exact zE_step (fun G p l e Rm s m args below meth c H locs cells slots Qf arr F hl kk => lv_istore F.1 F.2.1 hd hl hi rfl (fun arr' hl' => kk arr' (lv_mono hl' (zst1_sub (zst1_pat [a0, a1, a2, a3, a4] hb))))) kk
theorem z_astore6 (nx : Nat) {a0 a1 a2 a3 a4 b c : zV} {tl : List zV} {x : Nat} (hd : decode (zmc M) pc = .ok (.astore 6, 2)) (hi : 6 < zml M) (hb : zl b = false) (hn : pc + 2 = nx) (kk : zE X M k w nx (a0 :: a1 :: a2 :: a3 :: a4 :: b :: zR x :: tl) st sh I L R Q) : zE X M k w pc (a0 :: a1 :: a2 :: a3 :: a4 :: b :: c :: tl) (zR x :: st) sh I L R Q := by
  subst hn
  exact zE_step (fun G p l e Rm s m args below meth c H locs cells slots Qf arr F hl kk => lv_astore F.1 F.2.1 hd hl hi rfl (fun arr' hl' => kk arr' (lv_mono hl' (zst1_sub (zst1_pat [a0, a1, a2, a3, a4] hb))))) kk
theorem z_lstore6 (nx : Nat) {a0 a1 a2 a3 a4 b c d : zV} {tl : List zV} {x : Int} (hd : decode (zmc M) pc = .ok (.lstore 6, 2)) (hi : 6+1 < zml M) (hb : zl b = false) (hn : pc + 2 = nx) (kk : zE X M k w nx (a0 :: a1 :: a2 :: a3 :: a4 :: b :: zL x :: zX :: tl) st sh I L R Q) : zE X M k w pc (a0 :: a1 :: a2 :: a3 :: a4 :: b :: c :: d :: tl) (zL x :: st) sh I L R Q := by
  subst hn
  exact zE_step (fun G p l e Rm s m args below meth c H locs cells slots Qf arr F hl kk => lv_lstore F.1 F.2.1 hd hl hi rfl (fun arr' hl' => kk arr' (lv_mono hl' (zst2_sub (zst2_pat [a0, a1, a2, a3, a4] hb))))) kk
theorem z_iinc6 (nx : Nat) {a0 a1 a2 a3 a4 b : zV} {tl : List zV} {x n : Int} (hd : decode (zmc M) pc = .ok (.iinc 6 n, 3)) (hi : 6 < zml M) (hb : zl b = false) (hn : pc + 3 = nx) (kk : zE X M k w nx (a0 :: a1 :: a2 :: a3 :: a4 :: b :: zI (x + n) :: tl) st sh I L R Q) : zE X M k w pc (a0 :: a1 :: a2 :: a3 :: a4 :: b :: zI x :: tl) st sh I L R Q := by
  subst hn
  exact zE_step (fun G p l e Rm s m args below meth c H locs cells slots Qf arr F hl kk => (by
    obtain ⟨kx, hkx⟩ := List.getElem?_of_mem (zlp_mem (G := G) (i := 0) (ls := (a0 :: a1 :: a2 :: a3 :: a4 :: b :: zI x :: tl)) (j := 6) (v := zI x) rfl rfl)
    exact lv_iinc (v := Int32.ofInt (x + n)) F.1 F.2.1 hd hl (k := kx) (by rw [Nat.zero_add] at hkx; exact hkx) (by rw [Int32.ofInt_add]) hi rfl (fun arr' hl' => kk arr' (lv_mono hl' (zst1_sub (zst1_pat [a0, a1, a2, a3, a4] hb)))))) kk
theorem z_iload7 (nx : Nat) {a0 a1 a2 a3 a4 a5 a6 : zV} {tl : List zV} {x : Int} (hd : decode (zmc M) pc = .ok (.iload 7, 2)) (hn : pc + 2 = nx) (kk : zE X M k w nx (a0 :: a1 :: a2 :: a3 :: a4 :: a5 :: a6 :: zI x :: tl) (zI x :: st) sh I L R Q) : zE X M k w pc (a0 :: a1 :: a2 :: a3 :: a4 :: a5 :: a6 :: zI x :: tl) st sh I L R Q := by
  subst hn
  exact zE_step (fun G p l e Rm s m args below meth c H locs cells slots Qf arr F hl kk => lv_iload F.1 F.2.1 hd (zlp_at hl (i := 7) (v := zI x) rfl rfl) (kk arr hl)) kk
theorem z_lload7 (nx : Nat) {a0 a1 a2 a3 a4 a5 a6 : zV} {tl : List zV} {x : Int} (hd : decode (zmc M) pc = .ok (.lload 7, 2)) (hn : pc + 2 = nx) (kk : zE X M k w nx (a0 :: a1 :: a2 :: a3 :: a4 :: a5 :: a6 :: zL x :: tl) (zL x :: st) sh I L R Q) : zE X M k w pc (a0 :: a1 :: a2 :: a3 :: a4 :: a5 :: a6 :: zL x :: tl) st sh I L R Q := by
  subst hn
  exact zE_step (fun G p l e Rm s m args below meth c H locs cells slots Qf arr F hl kk => lv_lload F.1 F.2.1 hd (zlp_at hl (i := 7) (v := zL x) rfl rfl) (kk arr hl)) kk
theorem z_aload7 (nx : Nat) {a0 a1 a2 a3 a4 a5 a6 : zV} {tl : List zV} {x : Nat} (hd : decode (zmc M) pc = .ok (.aload 7, 2)) (hn : pc + 2 = nx) (kk : zE X M k w nx (a0 :: a1 :: a2 :: a3 :: a4 :: a5 :: a6 :: zR x :: tl) (zR x :: st) sh I L R Q) : zE X M k w pc (a0 :: a1 :: a2 :: a3 :: a4 :: a5 :: a6 :: zR x :: tl) st sh I L R Q := by
  subst hn
  exact zE_step (fun G p l e Rm s m args below meth c H locs cells slots Qf arr F hl kk => lv_aload F.1 F.2.1 hd (zlp_at hl (i := 7) (v := zR x) rfl rfl) (kk arr hl)) kk
theorem z_istore7 (nx : Nat) {a0 a1 a2 a3 a4 a5 b c : zV} {tl : List zV} {x : Int} (hd : decode (zmc M) pc = .ok (.istore 7, 2)) (hi : 7 < zml M) (hb : zl b = false) (hn : pc + 2 = nx) (kk : zE X M k w nx (a0 :: a1 :: a2 :: a3 :: a4 :: a5 :: b :: zI x :: tl) st sh I L R Q) : zE X M k w pc (a0 :: a1 :: a2 :: a3 :: a4 :: a5 :: b :: c :: tl) (zI x :: st) sh I L R Q := by
  subst hn
  exact zE_step (fun G p l e Rm s m args below meth c H locs cells slots Qf arr F hl kk => lv_istore F.1 F.2.1 hd hl hi rfl (fun arr' hl' => kk arr' (lv_mono hl' (zst1_sub (zst1_pat [a0, a1, a2, a3, a4, a5] hb))))) kk
theorem z_astore7 (nx : Nat) {a0 a1 a2 a3 a4 a5 b c : zV} {tl : List zV} {x : Nat} (hd : decode (zmc M) pc = .ok (.astore 7, 2)) (hi : 7 < zml M) (hb : zl b = false) (hn : pc + 2 = nx) (kk : zE X M k w nx (a0 :: a1 :: a2 :: a3 :: a4 :: a5 :: b :: zR x :: tl) st sh I L R Q) : zE X M k w pc (a0 :: a1 :: a2 :: a3 :: a4 :: a5 :: b :: c :: tl) (zR x :: st) sh I L R Q := by
  subst hn
  exact zE_step (fun G p l e Rm s m args below meth c H locs cells slots Qf arr F hl kk => lv_astore F.1 F.2.1 hd hl hi rfl (fun arr' hl' => kk arr' (lv_mono hl' (zst1_sub (zst1_pat [a0, a1, a2, a3, a4, a5] hb))))) kk
theorem z_lstore7 (nx : Nat) {a0 a1 a2 a3 a4 a5 b c d : zV} {tl : List zV} {x : Int} (hd : decode (zmc M) pc = .ok (.lstore 7, 2)) (hi : 7+1 < zml M) (hb : zl b = false) (hn : pc + 2 = nx) (kk : zE X M k w nx (a0 :: a1 :: a2 :: a3 :: a4 :: a5 :: b :: zL x :: zX :: tl) st sh I L R Q) : zE X M k w pc (a0 :: a1 :: a2 :: a3 :: a4 :: a5 :: b :: c :: d :: tl) (zL x :: st) sh I L R Q := by
  subst hn
  exact zE_step (fun G p l e Rm s m args below meth c H locs cells slots Qf arr F hl kk => lv_lstore F.1 F.2.1 hd hl hi rfl (fun arr' hl' => kk arr' (lv_mono hl' (zst2_sub (zst2_pat [a0, a1, a2, a3, a4, a5] hb))))) kk
theorem z_iinc7 (nx : Nat) {a0 a1 a2 a3 a4 a5 b : zV} {tl : List zV} {x n : Int} (hd : decode (zmc M) pc = .ok (.iinc 7 n, 3)) (hi : 7 < zml M) (hb : zl b = false) (hn : pc + 3 = nx) (kk : zE X M k w nx (a0 :: a1 :: a2 :: a3 :: a4 :: a5 :: b :: zI (x + n) :: tl) st sh I L R Q) : zE X M k w pc (a0 :: a1 :: a2 :: a3 :: a4 :: a5 :: b :: zI x :: tl) st sh I L R Q := by
  subst hn
  exact zE_step (fun G p l e Rm s m args below meth c H locs cells slots Qf arr F hl kk => (by
    obtain ⟨kx, hkx⟩ := List.getElem?_of_mem (zlp_mem (G := G) (i := 0) (ls := (a0 :: a1 :: a2 :: a3 :: a4 :: a5 :: b :: zI x :: tl)) (j := 7) (v := zI x) rfl rfl)
    exact lv_iinc (v := Int32.ofInt (x + n)) F.1 F.2.1 hd hl (k := kx) (by rw [Nat.zero_add] at hkx; exact hkx) (by rw [Int32.ofInt_add]) hi rfl (fun arr' hl' => kk arr' (lv_mono hl' (zst1_sub (zst1_pat [a0, a1, a2, a3, a4, a5] hb)))))) kk
theorem z_iload8 (nx : Nat) {a0 a1 a2 a3 a4 a5 a6 a7 : zV} {tl : List zV} {x : Int} (hd : decode (zmc M) pc = .ok (.iload 8, 2)) (hn : pc + 2 = nx) (kk : zE X M k w nx (a0 :: a1 :: a2 :: a3 :: a4 :: a5 :: a6 :: a7 :: zI x :: tl) (zI x :: st) sh I L R Q) : zE X M k w pc (a0 :: a1 :: a2 :: a3 :: a4 :: a5 :: a6 :: a7 :: zI x :: tl) st sh I L R Q := by
  subst hn
  exact zE_step (fun G p l e Rm s m args below meth c H locs cells slots Qf arr F hl kk => lv_iload F.1 F.2.1 hd (zlp_at hl (i := 8) (v := zI x) rfl rfl) (kk arr hl)) kk
theorem z_lload8 (nx : Nat) {a0 a1 a2 a3 a4 a5 a6 a7 : zV} {tl : List zV} {x : Int} (hd : decode (zmc M) pc = .ok (.lload 8, 2)) (hn : pc + 2 = nx) (kk : zE X M k w nx (a0 :: a1 :: a2 :: a3 :: a4 :: a5 :: a6 :: a7 :: zL x :: tl) (zL x :: st) sh I L R Q) : zE X M k w pc (a0 :: a1 :: a2 :: a3 :: a4 :: a5 :: a6 :: a7 :: zL x :: tl) st sh I L R Q := by
  subst hn
  exact zE_step (fun G p l e Rm s m args below meth c H locs cells slots Qf arr F hl kk => lv_lload F.1 F.2.1 hd (zlp_at hl (i := 8) (v := zL x) rfl rfl) (kk arr hl)) kk
theorem z_aload8 (nx : Nat) {a0 a1 a2 a3 a4 a5 a6 a7 : zV} {tl : List zV} {x : Nat} (hd : decode (zmc M) pc = .ok (.aload 8, 2)) (hn : pc + 2 = nx) (kk : zE X M k w nx (a0 :: a1 :: a2 :: a3 :: a4 :: a5 :: a6 :: a7 :: zR x :: tl) (zR x :: st) sh I L R Q) : zE X M k w pc (a0 :: a1 :: a2 :: a3 :: a4 :: a5 :: a6 :: a7 :: zR x :: tl) st sh I L R Q := by
  subst hn
  exact zE_step (fun G p l e Rm s m args below meth c H locs cells slots Qf arr F hl kk => lv_aload F.1 F.2.1 hd (zlp_at hl (i := 8) (v := zR x) rfl rfl) (kk arr hl)) kk
theorem z_istore8 (nx : Nat) {a0 a1 a2 a3 a4 a5 a6 b c : zV} {tl : List zV} {x : Int} (hd : decode (zmc M) pc = .ok (.istore 8, 2)) (hi : 8 < zml M) (hb : zl b = false) (hn : pc + 2 = nx) (kk : zE X M k w nx (a0 :: a1 :: a2 :: a3 :: a4 :: a5 :: a6 :: b :: zI x :: tl) st sh I L R Q) : zE X M k w pc (a0 :: a1 :: a2 :: a3 :: a4 :: a5 :: a6 :: b :: c :: tl) (zI x :: st) sh I L R Q := by
  subst hn
  exact zE_step (fun G p l e Rm s m args below meth c H locs cells slots Qf arr F hl kk => lv_istore F.1 F.2.1 hd hl hi rfl (fun arr' hl' => kk arr' (lv_mono hl' (zst1_sub (zst1_pat [a0, a1, a2, a3, a4, a5, a6] hb))))) kk
theorem z_astore8 (nx : Nat) {a0 a1 a2 a3 a4 a5 a6 b c : zV} {tl : List zV} {x : Nat} (hd : decode (zmc M) pc = .ok (.astore 8, 2)) (hi : 8 < zml M) (hb : zl b = false) (hn : pc + 2 = nx) (kk : zE X M k w nx (a0 :: a1 :: a2 :: a3 :: a4 :: a5 :: a6 :: b :: zR x :: tl) st sh I L R Q) : zE X M k w pc (a0 :: a1 :: a2 :: a3 :: a4 :: a5 :: a6 :: b :: c :: tl) (zR x :: st) sh I L R Q := by
  subst hn
  exact zE_step (fun G p l e Rm s m args below meth c H locs cells slots Qf arr F hl kk => lv_astore F.1 F.2.1 hd hl hi rfl (fun arr' hl' => kk arr' (lv_mono hl' (zst1_sub (zst1_pat [a0, a1, a2, a3, a4, a5, a6] hb))))) kk
theorem z_lstore8 (nx : Nat) {a0 a1 a2 a3 a4 a5 a6 b c d : zV} {tl : List zV} {x : Int} (hd : decode (zmc M) pc = .ok (.lstore 8, 2)) (hi : 8+1 < zml M) (hb : zl b = false) (hn : pc + 2 = nx) (kk : zE X M k w nx (a0 :: a1 :: a2 :: a3 :: a4 :: a5 :: a6 :: b :: zL x :: zX :: tl) st sh I L R Q) : zE X M k w pc (a0 :: a1 :: a2 :: a3 :: a4 :: a5 :: a6 :: b :: c :: d :: tl) (zL x :: st) sh I L R Q := by
  subst hn
  exact zE_step (fun G p l e Rm s m args below meth c H locs cells slots Qf arr F hl kk => lv_lstore F.1 F.2.1 hd hl hi rfl (fun arr' hl' => kk arr' (lv_mono hl' (zst2_sub (zst2_pat [a0, a1, a2, a3, a4, a5, a6] hb))))) kk
theorem z_iinc8 (nx : Nat) {a0 a1 a2 a3 a4 a5 a6 b : zV} {tl : List zV} {x n : Int} (hd : decode (zmc M) pc = .ok (.iinc 8 n, 3)) (hi : 8 < zml M) (hb : zl b = false) (hn : pc + 3 = nx) (kk : zE X M k w nx (a0 :: a1 :: a2 :: a3 :: a4 :: a5 :: a6 :: b :: zI (x + n) :: tl) st sh I L R Q) : zE X M k w pc (a0 :: a1 :: a2 :: a3 :: a4 :: a5 :: a6 :: b :: zI x :: tl) st sh I L R Q := by
  subst hn
  exact zE_step (fun G p l e Rm s m args below meth c H locs cells slots Qf arr F hl kk => (by
    obtain ⟨kx, hkx⟩ := List.getElem?_of_mem (zlp_mem (G := G) (i := 0) (ls := (a0 :: a1 :: a2 :: a3 :: a4 :: a5 :: a6 :: b :: zI x :: tl)) (j := 8) (v := zI x) rfl rfl)
    exact lv_iinc (v := Int32.ofInt (x + n)) F.1 F.2.1 hd hl (k := kx) (by rw [Nat.zero_add] at hkx; exact hkx) (by rw [Int32.ofInt_add]) hi rfl (fun arr' hl' => kk arr' (lv_mono hl' (zst1_sub (zst1_pat [a0, a1, a2, a3, a4, a5, a6] hb)))))) kk
theorem z_iload9 (nx : Nat) {a0 a1 a2 a3 a4 a5 a6 a7 a8 : zV} {tl : List zV} {x : Int} (hd : decode (zmc M) pc = .ok (.iload 9, 2)) (hn : pc + 2 = nx) (kk : zE X M k w nx (a0 :: a1 :: a2 :: a3 :: a4 :: a5 :: a6 :: a7 :: a8 :: zI x :: tl) (zI x :: st) sh I L R Q) : zE X M k w pc (a0 :: a1 :: a2 :: a3 :: a4 :: a5 :: a6 :: a7 :: a8 :: zI x :: tl) st sh I L R Q := by
  subst hn
  exact zE_step (fun G p l e Rm s m args below meth c H locs cells slots Qf arr F hl kk => lv_iload F.1 F.2.1 hd (zlp_at hl (i := 9) (v := zI x) rfl rfl) (kk arr hl)) kk
theorem z_lload9 (nx : Nat) {a0 a1 a2 a3 a4 a5 a6 a7 a8 : zV} {tl : List zV} {x : Int} (hd : decode (zmc M) pc = .ok (.lload 9, 2)) (hn : pc + 2 = nx) (kk : zE X M k w nx (a0 :: a1 :: a2 :: a3 :: a4 :: a5 :: a6 :: a7 :: a8 :: zL x :: tl) (zL x :: st) sh I L R Q) : zE X M k w pc (a0 :: a1 :: a2 :: a3 :: a4 :: a5 :: a6 :: a7 :: a8 :: zL x :: tl) st sh I L R Q := by
  subst hn
  exact zE_step (fun G p l e Rm s m args below meth c H locs cells slots Qf arr F hl kk => lv_lload F.1 F.2.1 hd (zlp_at hl (i := 9) (v := zL x) rfl rfl) (kk arr hl)) kk
theorem z_aload9 (nx : Nat) {a0 a1 a2 a3 a4 a5 a6 a7 a8 : zV} {tl : List zV} {x : Nat} (hd : decode (zmc M) pc = .ok (.aload 9, 2)) (hn : pc + 2 = nx) (kk : zE X M k w nx (a0 :: a1 :: a2 :: a3 :: a4 :: a5 :: a6 :: a7 :: a8 :: zR x :: tl) (zR x :: st) sh I L R Q) : zE X M k w pc (a0 :: a1 :: a2 :: a3 :: a4 :: a5 :: a6 :: a7 :: a8 :: zR x :: tl) st sh I L R Q := by
  subst hn
  exact zE_step (fun G p l e Rm s m args below meth c H locs cells slots Qf arr F hl kk => lv_aload F.1 F.2.1 hd (zlp_at hl (i := 9) (v := zR x) rfl rfl) (kk arr hl)) kk
theorem z_istore9 (nx : Nat) {a0 a1 a2 a3 a4 a5 a6 a7 b c : zV} {tl : List zV} {x : Int} (hd : decode (zmc M) pc = .ok (.istore 9, 2)) (hi : 9 < zml M) (hb : zl b = false) (hn : pc + 2 = nx) (kk : zE X M k w nx (a0 :: a1 :: a2 :: a3 :: a4 :: a5 :: a6 :: a7 :: b :: zI x :: tl) st sh I L R Q) : zE X M k w pc (a0 :: a1 :: a2 :: a3 :: a4 :: a5 :: a6 :: a7 :: b :: c :: tl) (zI x :: st) sh I L R Q := by
  subst hn
  exact zE_step (fun G p l e Rm s m args below meth c H locs cells slots Qf arr F hl kk => lv_istore F.1 F.2.1 hd hl hi rfl (fun arr' hl' => kk arr' (lv_mono hl' (zst1_sub (zst1_pat [a0, a1, a2, a3, a4, a5, a6, a7] hb))))) kk
theorem z_astore9 (nx : Nat) {a0 a1 a2 a3 a4 a5 a6 a7 b c : zV} {tl : List zV} {x : Nat} (hd : decode (zmc M) pc = .ok (.astore 9, 2)) (hi : 9 < zml M) (hb : zl b = false) (hn : pc + 2 = nx) (kk : zE X M k w nx (a0 :: a1 :: a2 :: a3 :: a4 :: a5 :: a6 :: a7 :: b :: zR x :: tl) st sh I L R Q) : zE X M k w pc (a0 :: a1 :: a2 :: a3 :: a4 :: a5 :: a6 :: a7 :: b :: c :: tl) (zR x :: st) sh I L R Q := by
  subst hn
  exact zE_step (fun G p l e Rm s m args below meth c H locs cells slots Qf arr F hl kk => lv_astore F.1 F.2.1 hd hl hi rfl (fun arr' hl' => kk arr' (lv_mono hl' (zst1_sub (zst1_pat [a0, a1, a2, a3, a4, a5, a6, a7] hb))))) kk
theorem z_lstore9 (nx : Nat) {a0 a1 a2 a3 a4 a5 a6 a7 b c d : zV} {tl : List zV} {x : Int} (hd : decode (zmc M) pc = .ok (.lstore 9, 2)) (hi : 9+1 < zml M) (hb : zl b = false) (hn : pc + 2 = nx) (kk : zE X M k w nx (a0 :: a1 :: a2 :: a3 :: a4 :: a5 :: a6 :: a7 :: b :: zL x :: zX :: tl) st sh I L R Q) : zE X M k w pc (a0 :: a1 :: a2 :: a3 :: a4 :: a5 :: a6 :: a7 :: b :: c :: d :: tl) (zL x :: st) sh I L R Q := by
  subst hn
  exact zE_step (fun G p l e Rm s m args below meth c H locs cells slots Qf arr F hl kk => lv_lstore F.1 F.2.1 hd hl hi rfl (fun arr' hl' => kk arr' (lv_mono hl' (zst2_sub (zst2_pat [a0, a1, a2, a3, a4, a5, a6, a7] hb))))) kk
theorem z_iinc9 (nx : Nat) {a0 a1 a2 a3 a4 a5 a6 a7 b : zV} {tl : List zV} {x n : Int} (hd : decode (zmc M) pc = .ok (.iinc 9 n, 3)) (hi : 9 < zml M) (hb : zl b = false) (hn : pc + 3 = nx) (kk : zE X M k w nx (a0 :: a1 :: a2 :: a3 :: a4 :: a5 :: a6 :: a7 :: b :: zI (x + n) :: tl) st sh I L R Q) : zE X M k w pc (a0 :: a1 :: a2 :: a3 :: a4 :: a5 :: a6 :: a7 :: b :: zI x :: tl) st sh I L R Q := by
  subst hn
  exact zE_step (fun G p l e Rm s m args below meth c H locs cells slots Qf arr F hl kk => (by
    obtain ⟨kx, hkx⟩ := List.getElem?_of_mem (zlp_mem (G := G) (i := 0) (ls := (a0 :: a1 :: a2 :: a3 :: a4 :: a5 :: a6 :: a7 :: b :: zI x :: tl)) (j := 9) (v := zI x) rfl rfl)
    exact lv_iinc (v := Int32.ofInt (x + n)) F.1 F.2.1 hd hl (k := kx) (by rw [Nat.zero_add] at hkx; exact hkx) (by rw [Int32.ofInt_add]) hi rfl (fun arr' hl' => kk arr' (lv_mono hl' (zst1_sub (zst1_pat [a0, a1, a2, a3, a4, a5, a6, a7] hb)))))) kk
theorem z_iload10 (nx : Nat) {a0 a1 a2 a3 a4 a5 a6 a7 a8 a9 : zV} {tl : List zV} {x : Int} (hd : decode (zmc M) pc = .ok (.iload 10, 2)) (hn : pc + 2 = nx) (kk : zE X M k w nx (a0 :: a1 :: a2 :: a3 :: a4 :: a5 :: a6 :: a7 :: a8 :: a9 :: zI x :: tl) (zI x :: st) sh I L R Q) : zE X M k w pc (a0 :: a1 :: a2 :: a3 :: a4 :: a5 :: a6 :: a7 :: a8 :: a9 :: zI x :: tl) st sh I L R Q := by
  subst hn
  exact zE_step (fun G p l e Rm s m args below meth c H locs cells slots Qf arr F hl kk => lv_iload F.1 F.2.1 hd (zlp_at hl (i := 10) (v := zI x) rfl rfl) (kk arr hl)) kk
theorem z_lload10 (nx : Nat) {a0 a1 a2 a3 a4 a5 a6 a7 a8 a9 : zV} {tl : List zV} {x : Int} (hd : decode (zmc M) pc = .ok (.lload 10, 2)) (hn : pc + 2 = nx) (kk : zE X M k w nx (a0 :: a1 :: a2 :: a3 :: a4 :: a5 :: a6 :: a7 :: a8 :: a9 :: zL x :: tl) (zL x :: st) sh I L R Q) : zE X M k w pc (a0 :: a1 :: a2 :: a3 :: a4 :: a5 :: a6 :: a7 :: a8 :: a9 :: zL x :: tl) st sh I L R Q := by
  subst hn
  exact zE_step (fun G p l e Rm s m args below meth c H locs cells slots Qf arr F hl kk => lv_lload F.1 F.2.1 hd (zlp_at hl (i := 10) (v := zL x) rfl rfl) (kk arr hl)) kk
theorem z_aload10 (nx : Nat) {a0 a1 a2 a3 a4 a5 a6 a7 a8 a9 : zV} {tl : List zV} {x : Nat} (hd : decode (zmc M) pc = .ok (.aload 10, 2)) (hn : pc + 2 = nx) (kk : zE X M k w nx (a0 :: a1 :: a2 :: a3 :: a4 :: a5 :: a6 :: a7 :: a8 :: a9 :: zR x :: tl) (zR x :: st) sh I L R Q) : zE X M k w pc (a0 :: a1 :: a2 :: a3 :: a4 :: a5 :: a6 :: a7 :: a8 :: a9 :: zR x :: tl) st sh I L R Q := by
  subst hn
  exact zE_step (fun G p l e Rm s m args below meth c H locs cells slots Qf arr F hl kk => lv_aload F.1 F.2.1 hd (zlp_at hl (i := 10) (v := zR x) rfl rfl) (kk arr hl)) kk
theorem z_istore10 (nx : Nat) {a0 a1 a2 a3 a4 a5 a6 a7 a8 b c : zV} {tl : List zV} {x : Int} (hd : decode (zmc M) pc = .ok (.istore 10, 2)) (hi : 10 < zml M) (hb : zl b = false) (hn : pc + 2 = nx) (kk : zE X M k w nx (a0 :: a1 :: a2 :: a3 :: a4 :: a5 :: a6 :: a7 :: a8 :: b :: zI x :: tl) st sh I L R Q) : zE X M k w pc (a0 :: a1 :: a2 :: a3 :: a4 :: a5 :: a6 :: a7 :: a8 :: b :: c :: tl) (zI x :: st) sh I L R Q := by
  subst hn
  exact zE_step (fun G p l e Rm s m args below meth c H locs cells slots Qf arr F hl kk => lv_istore F.1 F.2.1 hd hl hi rfl (fun arr' hl' => kk arr' (lv_mono hl' (zst1_sub (zst1_pat [a0, a1, a2, a3, a4, a5, a6, a7, a8] hb))))) kk
theorem z_astore10 (nx : Nat) {a0 a1 a2 a3 a4 a5 a6 a7 a8 b c : zV} {tl : List zV} {x : Nat} (hd : decode (zmc M) pc = .ok (.astore 10, 2)) (hi : 10 < zml M) (hb : zl b = false) (hn : pc + 2 = nx) (kk : zE X M k w nx (a0 :: a1 :: a2 :: a3 :: a4 :: a5 :: a6 :: a7 :: a8 :: b :: zR x :: tl) st sh I L R Q) : zE X M k w pc (a0 :: a1 :: a2 :: a3 :: a4 :: a5 :: a6 :: a7 :: a8 :: b :: c :: tl) (zR x :: st) sh I L R Q := by
  subst hn
  exact zE_step (fun G p l e Rm s m args below meth c H locs cells slots Qf arr F hl kk => lv_astore F.1 F.2.1 hd hl hi rfl (fun arr' hl' => kk arr' (lv_mono hl' (zst1_sub (zst1_pat [a0, a1, a2, a3, a4, a5, a6, a7, a8] hb))))) kk
theorem z_lstore10 (nx : Nat) {a0 a1 a2 a3 a4 a5 a6 a7 a8 b c d : zV} {tl : List zV} {x : Int} (hd : decode (zmc M) pc = .ok (.lstore 10, 2)) (hi : 10+1 < zml M) (hb : zl b = false) (hn : pc + 2 = nx) (kk : zE X M k w nx (a0 :: a1 :: a2 :: a3 :: a4 :: a5 :: a6 :: a7 :: a8 :: b :: zL x :: zX :: tl) st sh I L R Q) : zE X M k w pc (a0 :: a1 :: a2 :: a3 :: a4 :: a5 :: a6 :: a7 :: a8 :: b :: c :: d :: tl) (zL x :: st) sh I L R Q := by
  subst hn
  exact zE_step (fun G p l e Rm s m args below meth c H locs cells slots Qf arr F hl kk => lv_lstore F.1 F.2.1 hd hl hi rfl (fun arr' hl' => kk arr' (lv_mono hl' (zst2_sub (zst2_pat [a0, a1, a2, a3, a4, a5, a6, a7, a8] hb))))) kk
theorem z_iinc10 (nx : Nat) {a0 a1 a2 a3 a4 a5 a6 a7 a8 b : zV} {tl : List zV} {x n : Int} (hd : decode (zmc M) pc = .ok (.iinc 10 n, 3)) (hi : 10 < zml M) (hb : zl b = false) (hn : pc + 3 = nx) (kk : zE X M k w nx (a0 :: a1 :: a2 :: a3 :: a4 :: a5 :: a6 :: a7 :: a8 :: b :: zI (x + n) :: tl) st sh I L R Q) : zE X M k w pc (a0 :: a1 :: a2 :: a3 :: a4 :: a5 :: a6 :: a7 :: a8 :: b :: zI x :: tl) st sh I L R Q := by
  subst hn
  exact zE_step (fun G p l e Rm s m args below meth c H locs cells slots Qf arr F hl kk => (by
    obtain ⟨kx, hkx⟩ := List.getElem?_of_mem (zlp_mem (G := G) (i := 0) (ls := (a0 :: a1 :: a2 :: a3 :: a4 :: a5 :: a6 :: a7 :: a8 :: b :: zI x :: tl)) (j := 10) (v := zI x) rfl rfl)
    exact lv_iinc (v := Int32.ofInt (x + n)) F.1 F.2.1 hd hl (k := kx) (by rw [Nat.zero_add] at hkx; exact hkx) (by rw [Int32.ofInt_add]) hi rfl (fun arr' hl' => kk arr' (lv_mono hl' (zst1_sub (zst1_pat [a0, a1, a2, a3, a4, a5, a6, a7, a8] hb)))))) kk
theorem z_iload11 (nx : Nat) {a0 a1 a2 a3 a4 a5 a6 a7 a8 a9 a10 : zV} {tl : List zV} {x : Int} (hd : decode (zmc M) pc = .ok (.iload 11, 2)) (hn : pc + 2 = nx) (kk : zE X M k w nx (a0 :: a1 :: a2 :: a3 :: a4 :: a5 :: a6 :: a7 :: a8 :: a9 :: a10 :: zI x :: tl) (zI x :: st) sh I L R Q) : zE X M k w pc (a0 :: a1 :: a2 :: a3 :: a4 :: a5 :: a6 :: a7 :: a8 :: a9 :: a10 :: zI x :: tl) st sh I L R Q := by
  subst hn
  exact zE_step (fun G p l e Rm s m args below meth c H locs cells slots Qf arr F hl kk => lv_iload F.1 F.2.1 hd (zlp_at hl (i := 11) (v := zI x) rfl rfl) (kk arr hl)) kk
theorem z_lload11 (nx : Nat) {a0 a1 a2 a3 a4 a5 a6 a7 a8 a9 a10 : zV} {tl : List zV} {x : Int} (hd : decode (zmc M) pc = .ok (.lload 11, 2)) (hn : pc + 2 = nx) (kk : zE X M k w nx (a0 :: a1 :: a2 :: a3 :: a4 :: a5 :: a6 :: a7 :: a8 :: a9 :: a10 :: zL x :: tl) (zL x :: st) sh I L R Q) : zE X M k w pc (a0 :: a1 :: a2 :: a3 :: a4 :: a5 :: a6 :: a7 :: a8 :: a9 :: a10 :: zL x :: tl) st sh I L R Q := by
  subst hn
  exact zE_step (fun G p l e Rm s m args below meth c H locs cells slots Qf arr F hl kk => lv_lload F.1 F.2.1 hd (zlp_at hl (i := 11) (v := zL x) rfl rfl) (kk arr hl)) kk
theorem z_aload11 (nx : Nat) {a0 a1 a2 a3 a4 a5 a6 a7 a8 a9 a10 : zV} {tl : List zV} {x : Nat} (hd : decode (zmc M) pc = .ok (.aload 11, 2)) (hn : pc + 2 = nx) (kk : zE X M k w nx (a0 :: a1 :: a2 :: a3 :: a4 :: a5 :: a6 :: a7 :: a8 :: a9 :: a10 :: zR x :: tl) (zR x :: st) sh I L R Q) : zE X M k w pc (a0 :: a1 :: a2 :: a3 :: a4 :: a5 :: a6 :: a7 :: a8 :: a9 :: a10 :: zR x :: tl) st sh I L R Q := by
  subst hn
  exact zE_step (fun G p l e Rm s m args below meth c H locs cells slots Qf arr F hl kk => lv_aload F.1 F.2.1 hd (zlp_at hl (i := 11) (v := zR x) rfl rfl) (kk arr hl)) kk
theorem z_istore11 (nx : Nat) {a0 a1 a2 a3 a4 a5 a6 a7 a8 a9 b c : zV} {tl : List zV} {x : Int} (hd : decode (zmc M) pc = .ok (.istore 11, 2)) (hi : 11 < zml M) (hb : zl b = false) (hn : pc + 2 = nx) (kk : zE X M k w nx (a0 :: a1 :: a2 :: a3 :: a4 :: a5 :: a6 :: a7 :: a8 :: a9 :: b :: zI x :: tl) st sh I L R Q) : zE X M k w pc (a0 :: a1 :: a2 :: a3 :: a4 :: a5 :: a6 :: a7 :: a8 :: a9 :: b :: c :: tl) (zI x :: st) sh I L R Q := by
  subst hn
  exact zE_step (fun G p l e Rm s m args below meth c H locs cells slots Qf arr F hl kk => lv_istore F.1 F.2.1 hd hl hi rfl (fun arr' hl' => kk arr' (lv_mono hl' (zst1_sub (zst1_pat [a0, a1, a2, a3, a4, a5, a6, a7, a8, a9] hb))))) kk
theorem z_astore11 (nx : Nat) {a0 a1 a2 a3 a4 a5 a6 a7 a8 a9 b c : zV} {tl : List zV} {x : Nat} (hd : decode (zmc M) pc = .ok (.astore 11, 2)) (hi : 11 < zml M) (hb : zl b = false) (hn : pc + 2 = nx) (kk : zE X M k w nx (a0 :: a1 :: a2 :: a3 :: a4 :: a5 :: a6 :: a7 :: a8 :: a9 :: b :: zR x :: tl) st sh I L R Q) : zE X M k w pc (a0 :: a1 :: a2 :: a3 :: a4 :: a5 :: a6 :: a7 :: a8 :: a9 :: b :: c :: tl) (zR x :: st) sh I L R Q := by
  subst hn
  exact zE_step (fun G p l e Rm s m args below meth c H locs cells slots Qf arr F hl kk => lv_astore F.1 F.2.1 hd hl hi rfl (fun arr' hl' => kk arr' (lv_mono hl' (zst1_sub (zst1_pat [a0, a1, a2, a3, a4, a5, a6, a7, a8, a9] hb))))) kk
theorem z_lstore11 (nx : Nat) {a0 a1 a2 a3 a4 a5 a6 a7 a8 a9 b c d : zV} {tl : List zV} {x : Int} (hd : decode (zmc M) pc = .ok (.lstore 11, 2)) (hi : 11+1 < zml M) (hb : zl b = false) (hn : pc + 2 = nx) (kk : zE X M k w nx (a0 :: a1 :: a2 :: a3 :: a4 :: a5 :: a6 :: a7 :: a8 :: a9 :: b :: zL x :: zX :: tl) st sh I L R Q) : zE X M k w pc (a0 :: a1 :: a2 :: a3 :: a4 :: a5 :: a6 :: a7 :: a8 :: a9 :: b :: c :: d :: tl) (zL x :: st) sh I L R Q := by
  subst hn
  exact zE_step (fun G p l e Rm s m args below meth c H locs cells slots Qf arr F hl kk => lv_lstore F.1 F.2.1 hd hl hi rfl (fun arr' hl' => kk arr' (lv_mono hl' (zst2_sub (zst2_pat [a0, a1, a2, a3, a4, a5, a6, a7, a8, a9] hb))))) kk
theorem z_iinc11 (nx : Nat) {a0 a1 a2 a3 a4 a5 a6 a7 a8 a9 b : zV} {tl : List zV} {x n : Int} (hd : decode (zmc M) pc = .ok (.iinc 11 n, 3)) (hi : 11 < zml M) (hb : zl b = false) (hn : pc + 3 = nx) (kk : zE X M k w nx (a0 :: a1 :: a2 :: a3 :: a4 :: a5 :: a6 :: a7 :: a8 :: a9 :: b :: zI (x + n) :: tl) st sh I L R Q) : zE X M k w pc (a0 :: a1 :: a2 :: a3 :: a4 :: a5 :: a6 :: a7 :: a8 :: a9 :: b :: zI x :: tl) st sh I L R Q := by
  subst hn
  exact zE_step (fun G p l e Rm s m args below meth c H locs cells slots Qf arr F hl kk => (by
    obtain ⟨kx, hkx⟩ := List.getElem?_of_mem (zlp_mem (G := G) (i := 0) (ls := (a0 :: a1 :: a2 :: a3 :: a4 :: a5 :: a6 :: a7 :: a8 :: a9 :: b :: zI x :: tl)) (j := 11) (v := zI x) rfl rfl)
    exact lv_iinc (v := Int32.ofInt (x + n)) F.1 F.2.1 hd hl (k := kx) (by rw [Nat.zero_add] at hkx; exact hkx) (by rw [Int32.ofInt_add]) hi rfl (fun arr' hl' => kk arr' (lv_mono hl' (zst1_sub (zst1_pat [a0, a1, a2, a3, a4, a5, a6, a7, a8, a9] hb)))))) kk
theorem z_iload12 (nx : Nat) {a0 a1 a2 a3 a4 a5 a6 a7 a8 a9 a10 a11 : zV} {tl : List zV} {x : Int} (hd : decode (zmc M) pc = .ok (.iload 12, 2)) (hn : pc + 2 = nx) (kk : zE X M k w nx (a0 :: a1 :: a2 :: a3 :: a4 :: a5 :: a6 :: a7 :: a8 :: a9 :: a10 :: a11 :: zI x :: tl) (zI x :: st) sh I L R Q) : zE X M k w pc (a0 :: a1 :: a2 :: a3 :: a4 :: a5 :: a6 :: a7 :: a8 :: a9 :: a10 :: a11 :: zI x :: tl) st sh I L R Q := by
  subst hn
  exact zE_step (fun G p l e Rm s m args below meth c H locs cells slots Qf arr F hl kk => lv_iload F.1 F.2.1 hd (zlp_at hl (i := 12) (v := zI x) rfl rfl) (kk arr hl)) kk
theorem z_lload12 (nx : Nat) {a0 a1 a2 a3 a4 a5 a6 a7 a8 a9 a10 a11 : zV} {tl : List zV} {x : Int} (hd : decode (zmc M) pc = .ok (.lload 12, 2)) (hn : pc + 2 = nx) (kk : zE X M k w nx (a0 :: a1 :: a2 :: a3 :: a4 :: a5 :: a6 :: a7 :: a8 :: a9 :: a10 :: a11 :: zL x :: tl) (zL x :: st) sh I L R Q) : zE X M k w pc (a0 :: a1 :: a2 :: a3 :: a4 :: a5 :: a6 :: a7 :: a8 :: a9 :: a10 :: a11 :: zL x :: tl) st sh I L R Q := by
  subst hn
  exact zE_step (fun G p l e Rm s m args below meth c H locs cells slots Qf arr F hl kk => lv_lload F.1 F.2.1 hd (zlp_at hl (i := 12) (v := zL x) rfl rfl) (kk arr hl)) kk
theorem z_aload12 (nx : Nat) {a0 a1 a2 a3 a4 a5 a6 a7 a8 a9 a10 a11 : zV} {tl : List zV} {x : Nat} (hd : decode (zmc M) pc = .ok (.aload 12, 2)) (hn : pc + 2 = nx) (kk : zE X M k w nx (a0 :: a1 :: a2 :: a3 :: a4 :: a5 :: a6 :: a7 :: a8 :: a9 :: a10 :: a11 :: zR x :: tl) (zR x :: st) sh I L R Q) : zE X M k w pc (a0 :: a1 :: a2 :: a3 :: a4 :: a5 :: a6 :: a7 :: a8 :: a9 :: a10 :: a11 :: zR x :: tl) st sh I L R Q := by
  subst hn
  exact zE_step (fun G p l e Rm s m args below meth c H locs cells slots Qf arr F hl kk => lv_aload F.1 F.2.1 hd (zlp_at hl (i := 12) (v := zR x) rfl rfl) (kk arr hl)) kk
theorem z_istore12 (nx : Nat) {a0 a1 a2 a3 a4 a5 a6 a7 a8 a9 a10 b c : zV} {tl : List zV} {x : Int} (hd : decode (zmc M) pc = .ok (.istore 12, 2)) (hi : 12 < zml M) (hb : zl b = false) (hn : pc + 2 = nx) (kk : zE X M k w nx (a0 :: a1 :: a2 :: a3 :: a4 :: a5 :: a6 :: a7 :: a8 :: a9 :: a10 :: b :: zI x :: tl) st sh I L R Q) : zE X M k w pc (a0 :: a1 :: a2 :: a3 :: a4 :: a5 :: a6 :: a7 :: a8 :: a9 :: a10 :: b :: c :: tl) (zI x :: st) sh I L R Q := by
  subst hn
  exact zE_step (fun G p l e Rm s m args below meth c H locs cells slots Qf arr F hl kk => lv_istore F.1 F.2.1 hd hl hi rfl (fun arr' hl' => kk arr' (lv_mono hl' (zst1_sub (zst1_pat [a0, a1, a2, a3, a4, a5, a6, a7, a8, a9, a10] hb))))) kk
theorem z_astore12 (nx : Nat) {a0 a1 a2 a3 a4 a5 a6 a7 a8 a9 a10 b c : zV} {tl : List zV} {x : Nat} (hd : decode (zmc M) pc = .ok (.astore 12, 2)) (hi : 12 < zml M) (hb : zl b = false) (hn : pc + 2 = nx) (kk : zE X M k w nx (a0 :: a1 :: a2 :: a3 :: a4 :: a5 :: a6 :: a7 :: a8 :: a9 :: a10 :: b :: zR x :: tl) st sh I L R Q) : zE X M k w pc (a0 :: a1 :: a2 :: a3 :: a4 :: a5 :: a6 :: a7 :: a8 :: a9 :: a10 :: b :: c :: tl) (zR x :: st) sh I L R Q := by
  subst hn
  exact zE_step (fun G p l e Rm s m args below meth c H locs cells slots Qf arr F hl kk => lv_astore F.1 F.2.1 hd hl hi rfl (fun arr' hl' => kk arr' (lv_mono hl' (zst1_sub (zst1_pat [a0, a1, a2, a3, a4, a5, a6, a7, a8, a9, a10] hb))))) kk
theorem z_lstore12 (nx : Nat) {a0 a1 a2 a3 a4 a5 a6 a7 a8 a9 a10 b c d : zV} {tl : List zV} {x : Int} (hd : decode (zmc M) pc = .ok (.lstore 12, 2)) (hi : 12+1 < zml M) (hb : zl b = false) (hn : pc + 2 = nx) (kk : zE X M k w nx (a0 :: a1 :: a2 :: a3 :: a4 :: a5 :: a6 :: a7 :: a8 :: a9 :: a10 :: b :: zL x :: zX :: tl) st sh I L R Q) : zE X M k w pc (a0 :: a1 :: a2 :: a3 :: a4 :: a5 :: a6 :: a7 :: a8 :: a9 :: a10 :: b :: c :: d :: tl) (zL x :: st) sh I L R Q := by
  subst hn
  exact zE_step (fun G p l e Rm s m args below meth c H locs cells slots Qf arr F hl kk => lv_lstore F.1 F.2.1 hd hl hi rfl (fun arr' hl' => kk arr' (lv_mono hl' (zst2_sub (zst2_pat [a0, a1, a2, a3, a4, a5, a6, a7, a8, a9, a10] hb))))) kk
theorem z_iinc12 (nx : Nat) {a0 a1 a2 a3 a4 a5 a6 a7 a8 a9 a10 b : zV} {tl : List zV} {x n : Int} (hd : decode (zmc M) pc = .ok (.iinc 12 n, 3)) (hi : 12 < zml M) (hb : zl b = false) (hn : pc + 3 = nx) (kk : zE X M k w nx (a0 :: a1 :: a2 :: a3 :: a4 :: a5 :: a6 :: a7 :: a8 :: a9 :: a10 :: b :: zI (x + n) :: tl) st sh I L R Q) : zE X M k w pc (a0 :: a1 :: a2 :: a3 :: a4 :: a5 :: a6 :: a7 :: a8 :: a9 :: a10 :: b :: zI x :: tl) st sh I L R Q := by
  subst hn
  exact zE_step (fun G p l e Rm s m args below meth c H locs cells slots Qf arr F hl kk => (by
    obtain ⟨kx, hkx⟩ := List.getElem?_of_mem (zlp_mem (G := G) (i := 0) (ls := (a0 :: a1 :: a2 :: a3 :: a4 :: a5 :: a6 :: a7 :: a8 :: a9 :: a10 :: b :: zI x :: tl)) (j := 12) (v := zI x) rfl rfl)
    exact lv_iinc (v := Int32.ofInt (x + n)) F.1 F.2.1 hd hl (k := kx) (by rw [Nat.zero_add] at hkx; exact hkx) (by rw [Int32.ofInt_add]) hi rfl (fun arr' hl' => kk arr' (lv_mono hl' (zst1_sub (zst1_pat [a0, a1, a2, a3, a4, a5, a6, a7, a8, a9, a10] hb)))))) kk
theorem z_iload13 (nx : Nat) {a0 a1 a2 a3 a4 a5 a6 a7 a8 a9 a10 a11 a12 : zV} {tl : List zV} {x : Int} (hd : decode (zmc M) pc = .ok (.iload 13, 2)) (hn : pc + 2 = nx) (kk : zE X M k w nx (a0 :: a1 :: a2 :: a3 :: a4 :: a5 :: a6 :: a7 :: a8 :: a9 :: a10 :: a11 :: a12 :: zI x :: tl) (zI x :: st) sh I L R Q) : zE X M k w pc (a0 :: a1 :: a2 :: a3 :: a4 :: a5 :: a6 :: a7 :: a8 :: a9 :: a10 :: a11 :: a12 :: zI x :: tl) st sh I L R Q := by
  subst hn
  exact zE_step (fun G p l e Rm s m args below meth c H locs cells slots Qf arr F hl kk => lv_iload F.1 F.2.1 hd (zlp_at hl (i := 13) (v := zI x) rfl rfl) (kk arr hl)) kk
theorem z_lload13 (nx : Nat) {a0 a1 a2 a3 a4 a5 a6 a7 a8 a9 a10 a11 a12 : zV} {tl : List zV} {x : Int} (hd : decode (zmc M) pc = .ok (.lload 13, 2)) (hn : pc + 2 = nx) (kk : zE X M k w nx (a0 :: a1 :: a2 :: a3 :: a4 :: a5 :: a6 :: a7 :: a8 :: a9 :: a10 :: a11 :: a12 :: zL x :: tl) (zL x :: st) sh I L R Q) : zE X M k w pc (a0 :: a1 :: a2 :: a3 :: a4 :: a5 :: a6 :: a7 :: a8 :: a9 :: a10 :: a11 :: a12 :: zL x :: tl) st sh I L R Q := by
  subst hn
  exact zE_step (fun G p l e Rm s m args below meth c H locs cells slots Qf arr F hl kk => lv_lload F.1 F.2.1 hd (zlp_at hl (i := 13) (v := zL x) rfl rfl) (kk arr hl)) kk
theorem z_aload13 (nx : Nat) {a0 a1 a2 a3 a4 a5 a6 a7 a8 a9 a10 a11 a12 : zV} {tl : List zV} {x : Nat} (hd : decode (zmc M) pc = .ok (.aload 13, 2)) (hn : pc + 2 = nx) (kk : zE X M k w nx (a0 :: a1 :: a2 :: a3 :: a4 :: a5 :: a6 :: a7 :: a8 :: a9 :: a10 :: a11 :: a12 :: zR x :: tl) (zR x :: st) sh I L R Q) : zE X M k w pc (a0 :: a1 :: a2 :: a3 :: a4 :: a5 :: a6 :: a7 :: a8 :: a9 :: a10 :: a11 :: a12 :: zR x :: tl) st sh I L R Q := by
  subst hn
  exact zE_step (fun G p l e Rm s m args below meth c H locs cells slots Qf arr F hl kk => lv_aload F.1 F.2.1 hd (zlp_at hl (i := 13) (v := zR x) rfl rfl) (kk arr hl)) kk
theorem z_istore13 (nx : Nat) {a0 a1 a2 a3 a4 a5 a6 a7 a8 a9 a10 a11 b c : zV} {tl : List zV} {x : Int} (hd : decode (zmc M) pc = .ok (.istore 13, 2)) (hi : 13 < zml M) (hb : zl b = false) (hn : pc + 2 = nx) (kk : zE X M k w nx (a0 :: a1 :: a2 :: a3 :: a4 :: a5 :: a6 :: a7 :: a8 :: a9 :: a10 :: a11 :: b :: zI x :: tl) st sh I L R Q) : zE X M k w pc (a0 :: a1 :: a2 :: a3 :: a4 :: a5 :: a6 :: a7 :: a8 :: a9 :: a10 :: a11 :: b :: c :: tl) (zI x :: st) sh I L R Q := by
  subst hn
  exact zE_step (fun G p l e Rm s m args below meth c H locs cells slots Qf arr F hl kk => lv_istore F.1 F.2.1 hd hl hi rfl (fun arr' hl' => kk arr' (lv_mono hl' (zst1_sub (zst1_pat [a0, a1, a2, a3, a4, a5, a6, a7, a8, a9, a10, a11] hb))))) kk
theorem z_astore13 (nx : Nat) {a0 a1 a2 a3 a4 a5 a6 a7 a8 a9 a10 a11 b c : zV} {tl : List zV} {x : Nat} (hd : decode (zmc M) pc = .ok (.astore 13, 2)) (hi : 13 < zml M) (hb : zl b = false) (hn : pc + 2 = nx) (kk : zE X M k w nx (a0 :: a1 :: a2 :: a3 :: a4 :: a5 :: a6 :: a7 :: a8 :: a9 :: a10 :: a11 :: b :: zR x :: tl) st sh I L R Q) : zE X M k w pc (a0 :: a1 :: a2 :: a3 :: a4 :: a5 :: a6 :: a7 :: a8 :: a9 :: a10 :: a11 :: b :: c :: tl) (zR x :: st) sh I L R Q := by
  subst hn
  exact zE_step (fun G p l e Rm s m args below meth c H locs cells slots Qf arr F hl kk => lv_astore F.1 F.2.1 hd hl hi rfl (fun arr' hl' => kk arr' (lv_mono hl' (zst1_sub (zst1_pat [a0, a1, a2, a3, a4, a5, a6, a7, a8, a9, a10, a11] hb))))) kk
theorem z_lstore13 (nx : Nat) {a0 a1 a2 a3 a4 a5 a6 a7 a8 a9 a10 a11 b c d : zV} {tl : List zV} {x : Int} (hd : decode (zmc M) pc = .ok (.lstore 13, 2)) (hi : 13+1 < zml M) (hb : zl b = false) (hn : pc + 2 = nx) (kk : zE X M k w nx (a0 :: a1 :: a2 :: a3 :: a4 :: a5 :: a6 :: a7 :: a8 :: a9 :: a10 :: a11 :: b :: zL x :: zX :: tl) st sh I L R Q) : zE X M k w pc (a0 :: a1 :: a2 :: a3 :: a4 :: a5 :: a6 :: a7 :: a8 :: a9 :: a10 :: a11 :: b :: c :: d :: tl) (zL x :: st) sh I L R Q := by
  subst hn
  exact zE_step (fun G p l e Rm s m args below meth c H locs cells slots Qf arr F hl kk => lv_lstore F.1 F.2.1 hd hl hi rfl (fun arr' hl' => kk arr' (lv_mono hl' (zst2_sub (zst2_pat [a0, a1, a2, a3, a4, a5, a6, a7, a8, a9, a10, a11] hb))))) kk
theorem z_iinc13 (nx : Nat) {a0 a1 a2 a3 a4 a5 a6 a7 a8 a9 a10 a11 b : zV} {tl : List zV} {x n : Int} (hd : decode (zmc M) pc = .ok (.iinc 13 n, 3)) (hi : 13 < zml M) (hb : zl b = false) (hn : pc + 3 = nx) (kk : zE X M k w nx (a0 :: a1 :: a2 :: a3 :: a4 :: a5 :: a6 :: a7 :: a8 :: a9 :: a10 :: a11 :: b :: zI (x + n) :: tl) st sh I L R Q) : zE X M k w pc (a0 :: a1 :: a2 :: a3 :: a4 :: a5 :: a6 :: a7 :: a8 :: a9 :: a10 :: a11 :: b :: zI x :: tl) st sh I L R Q := by
  subst hn
  exact zE_step (fun G p l e Rm s m args below meth c H locs cells slots Qf arr F hl kk => (by
    obtain ⟨kx, hkx⟩ := List.getElem?_of_mem (zlp_mem (G := G) (i := 0) (ls := (a0 :: a1 :: a2 :: a3 :: a4 :: a5 :: a6 :: a7 :: a8 :: a9 :: a10 :: a11 :: b :: zI x :: tl)) (j := 13) (v := zI x) rfl rfl)
    exact lv_iinc (v := Int32.ofInt (x + n)) F.1 F.2.1 hd hl (k := kx) (by rw [Nat.zero_add] at hkx; exact hkx) (by rw [Int32.ofInt_add]) hi rfl (fun arr' hl' => kk arr' (lv_mono hl' (zst1_sub (zst1_pat [a0, a1, a2, a3, a4, a5, a6, a7, a8, a9, a10, a11] hb)))))) kk
theorem z_iload14 (nx : Nat) {a0 a1 a2 a3 a4 a5 a6 a7 a8 a9 a10 a11 a12 a13 : zV} {tl : List zV} {x : Int} (hd : decode (zmc M) pc = .ok (.iload 14, 2)) (hn : pc + 2 = nx) (kk : zE X M k w nx (a0 :: a1 :: a2 :: a3 :: a4 :: a5 :: a6 :: a7 :: a8 :: a9 :: a10 :: a11 :: a12 :: a13 :: zI x :: tl) (zI x :: st) sh I L R Q) : zE X M k w pc (a0 :: a1 :: a2 :: a3 :: a4 :: a5 :: a6 :: a7 :: a8 :: a9 :: a10 :: a11 :: a12 :: a13 :: zI x :: tl) st sh I L R Q := by
  subst hn
  exact zE_step (fun G p l e Rm s m args below meth c H locs cells slots Qf arr F hl kk => lv_iload F.1 F.2.1 hd (zlp_at hl (i := 14) (v := zI x) rfl rfl) (kk arr hl)) kk
theorem z_lload14 (nx : Nat) {a0 a1 a2 a3 a4 a5 a6 a7 a8 a9 a10 a11 a12 a13 : zV} {tl : List zV} {x : Int} (hd : decode (zmc M) pc = .ok (.lload 14, 2)) (hn : pc + 2 = nx) (kk : zE X M k w nx (a0 :: a1 :: a2 :: a3 :: a4 :: a5 :: a6 :: a7 :: a8 :: a9 :: a10 :: a11 :: a12 :: a13 :: zL x :: tl) (zL x :: st) sh I L R Q) : zE X M k w pc (a0 :: a1 :: a2 :: a3 :: a4 :: a5 :: a6 :: a7 :: a8 :: a9 :: a10 :: a11 :: a12 :: a13 :: zL x :: tl) st sh I L R Q := by
  subst hn
  exact zE_step (fun G p l e Rm s m args below meth c H locs cells slots Qf arr F hl kk => lv_lload F.1 F.2.1 hd (zlp_at hl (i := 14) (v := zL x) rfl rfl) (kk arr hl)) kk
theorem z_aload14 (nx : Nat) {a0 a1 a2 a3 a4 a5 a6 a7 a8 a9 a10 a11 a12 a13 : zV} {tl : List zV} {x : Nat} (hd : decode (zmc M) pc = .ok (.aload 14, 2)) (hn : pc + 2 = nx) (kk : zE X M k w nx (a0 :: a1 :: a2 :: a3 :: a4 :: a5 :: a6 :: a7 :: a8 :: a9 :: a10 :: a11 :: a12 :: a13 :: zR x :: tl) (zR x :: st) sh I L R Q) : zE X M k w pc (a0 :: a1 :: a2 :: a3 :: a4 :: a5 :: a6 :: a7 :: a8 :: a9 :: a10 :: a11 :: a12 :: a13 :: zR x :: tl) st sh I L R Q := by
  subst hn
  exact zE_step (fun G p l e Rm s m args below meth c H locs cells slots Qf arr F hl kk => lv_aload F.1 F.2.1 hd (zlp_at hl (i := 14) (v := zR x) rfl rfl) (kk arr hl)) kk
theorem z_istore14 (nx : Nat) {a0 a1 a2 a3 a4 a5 a6 a7 a8 a9 a10 a11 a12 b c : zV} {tl : List zV} {x : Int} (hd : decode (zmc M) pc = .ok (.istore 14, 2)) (hi : 14 < zml M) (hb : zl b = false) (hn : pc + 2 = nx) (kk : zE X M k w nx (a0 :: a1 :: a2 :: a3 :: a4 :: a5 :: a6 :: a7 :: a8 :: a9 :: a10 :: a11 :: a12 :: b :: zI x :: tl) st sh I L R Q) : zE X M k w pc (a0 :: a1 :: a2 :: a3 :: a4 :: a5 :: a6 :: a7 :: a8 :: a9 :: a10 :: a11 :: a12 :: b :: c :: tl) (zI x :: st) sh I L R Q := by
  subst hn
  exact zE_step (fun G p l e Rm s m args below meth c H locs cells slots Qf arr F hl kk => lv_istore F.1 F.2.1 hd hl hi rfl (fun arr' hl' => kk arr' (lv_mono hl' (zst1_sub (zst1_pat [a0, a1, a2, a3, a4, a5, a6, a7, a8, a9, a10, a11, a12] hb))))) kk
theorem z_astore14 (nx : Nat) {a0 a1 a2 a3 a4 a5 a6 a7 a8 a9 a10 a11 a12 b c : zV} {tl : List zV} {x : Nat} (hd : decode (zmc M) pc = .ok (.astore 14, 2)) (hi : 14 < zml M) (hb : zl b = false) (hn : pc + 2 = nx) (kk : zE X M k w nx (a0 :: a1 :: a2 :: a3 :: a4 :: a5 :: a6 :: a7 :: a8 :: a9 :: a10 :: a11 :: a12 :: b :: zR x :: tl) st sh I L R Q) : zE X M k w pc (a0 :: a1 :: a2 :: a3 :: a4 :: a5 :: a6 :: a7 :: a8 :: a9 :: a10 :: a11 :: a12 :: b :: c :: tl) (zR x :: st) sh I L R Q := by
  subst hn
  exact zE_step (fun G p l e Rm s m args below meth c H locs cells slots Qf arr F hl kk => lv_astore F.1 F.2.1 hd hl hi rfl (fun arr' hl' => kk arr' (lv_mono hl' (zst1_sub (zst1_pat [a0, a1, a2, a3, a4, a5, a6, a7, a8, a9, a10, a11, a12] hb))))) kk
theorem z_lstore14 (nx : Nat) {a0 a1 a2 a3 a4 a5 a6 a7 a8 a9 a10 a11 a12 b c d : zV} {tl : List zV} {x : Int} (hd : decode (zmc M) pc = .ok (.lstore 14, 2)) (hi : 14+1 < zml M) (hb : zl b = false) (hn : pc + 2 = nx) (kk : zE X M k w nx (a0 :: a1 :: a2 :: a3 :: a4 :: a5 :: a6 :: a7 :: a8 :: a9 :: a10 :: a11 :: a12 :: b :: zL x :: zX :: tl) st sh I L R Q) : zE X M k w pc (a0 :: a1 :: a2 :: a3 :: a4 :: a5 :: a6 :: a7 :: a8 :: a9 :: a10 :: a11 :: a12 :: b :: c :: d :: tl) (zL x :: st) sh I L R Q := by
  subst hn
  exact zE_step (fun G p l e Rm s m args below meth c H locs cells slots Qf arr F hl kk => lv_lstore F.1 F.2.1 hd hl hi rfl (fun arr' hl' => kk arr' (lv_mono hl' (zst2_sub (zst2_pat [a0, a1, a2, a3, a4, a5, a6, a7, a8, a9, a10, a11, a12] hb))))) kk
theorem z_iinc14 (nx : Nat) {a0 a1 a2 a3 a4 a5 a6 a7 a8 a9 a10 a11 a12 b : zV} {tl : List zV} {x n : Int} (hd : decode (zmc M) pc = .ok (.iinc 14 n, 3)) (hi : 14 < zml M) (hb : zl b = false) (hn : pc + 3 = nx) (kk : zE X M k w nx (a0 :: a1 :: a2 :: a3 :: a4 :: a5 :: a6 :: a7 :: a8 :: a9 :: a10 :: a11 :: a12 :: b :: zI (x + n) :: tl) st sh I L R Q) : zE X M k w pc (a0 :: a1 :: a2 :: a3 :: a4 :: a5 :: a6 :: a7 :: a8 :: a9 :: a10 :: a11 :: a12 :: b :: zI x :: tl) st sh I L R Q := by
  subst hn
  exact zE_step (fun G p l e Rm s m args below meth c H locs cells slots Qf arr F hl kk => (by
    obtain ⟨kx, hkx⟩ := List.getElem?_of_mem (zlp_mem (G := G) (i := 0) (ls := (a0 :: a1 :: a2 :: a3 :: a4 :: a5 :: a6 :: a7 :: a8 :: a9 :: a10 :: a11 :: a12 :: b :: zI x :: tl)) (j := 14) (v := zI x) rfl rfl)
    exact lv_iinc (v := Int32.ofInt (x + n)) F.1 F.2.1 hd hl (k := kx) (by rw [Nat.zero_add] at hkx; exact hkx) (by rw [Int32.ofInt_add]) hi rfl (fun arr' hl' => kk arr' (lv_mono hl' (zst1_sub (zst1_pat [a0, a1, a2, a3, a4, a5, a6, a7, a8, a9, a10, a11, a12] hb)))))) kk
theorem z_iload15 (nx : Nat) {a0 a1 a2 a3 a4 a5 a6 a7 a8 a9 a10 a11 a12 a13 a14 : zV} {tl : List zV} {x : Int} (hd : decode (zmc M) pc = .ok (.iload 15, 2)) (hn : pc + 2 = nx) (kk : zE X M k w nx (a0 :: a1 :: a2 :: a3 :: a4 :: a5 :: a6 :: a7 :: a8 :: a9 :: a10 :: a11 :: a12 :: a13 :: a14 :: zI x :: tl) (zI x :: st) sh I L R Q) : zE X M k w pc (a0 :: a1 :: a2 :: a3 :: a4 :: a5 :: a6 :: a7 :: a8 :: a9 :: a10 :: a11 :: a12 :: a13 :: a14 :: zI x :: tl) st sh I L R Q := by
  subst hn
  exact zE_step (fun G p l e Rm s m args below meth c H locs cells slots Qf arr F hl kk => lv_iload F.1 F.2.1 hd (zlp_at hl (i := 15) (v := zI x) rfl rfl) (kk arr hl)) kk
theorem z_lload15 (nx : Nat) {a0 a1 a2 a3 a4 a5 a6 a7 a8 a9 a10 a11 a12 a13 a14 : zV} {tl : List zV} {x : Int} (hd : decode (zmc M) pc = .ok (.lload 15, 2)) (hn : pc + 2 = nx) (kk : zE X M k w nx (a0 :: a1 :: a2 :: a3 :: a4 :: a5 :: a6 :: a7 :: a8 :: a9 :: a10 :: a11 :: a12 :: a13 :: a14 :: zL x :: tl) (zL x :: st) sh I L R Q) : zE X M k w pc (a0 :: a1 :: a2 :: a3 :: a4 :: a5 :: a6 :: a7 :: a8 :: a9 :: a10 :: a11 :: a12 :: a13 :: a14 :: zL x :: tl) st sh I L R Q := by
  subst hn
  exact zE_step (fun G p l e Rm s m args below meth c H locs cells slots Qf arr F hl kk => lv_lload F.1 F.2.1 hd (zlp_at hl (i := 15) (v := zL x) rfl rfl) (kk arr hl)) kk
theorem z_aload15 (nx : Nat) {a0 a1 a2 a3 a4 a5 a6 a7 a8 a9 a10 a11 a12 a13 a14 : zV} {tl : List zV} {x : Nat} (hd : decode (zmc M) pc = .ok (.aload 15, 2)) (hn : pc + 2 = nx) (kk : zE X M k w nx (a0 :: a1 :: a2 :: a3 :: a4 :: a5 :: a6 :: a7 :: a8 :: a9 :: a10 :: a11 :: a12 :: a13 :: a14 :: zR x :: tl) (zR x :: st) sh I L R Q) : zE X M k w pc (a0 :: a1 :: a2 :: a3 :: a4 :: a5 :: a6 :: a7 :: a8 :: a9 :: a10 :: a11 :: a12 :: a13 :: a14 :: zR x :: tl) st sh I L R Q := by
  subst hn
  exact zE_step (fun G p l e Rm s m args below meth c H locs cells slots Qf arr F hl kk => lv_aload F.1 F.2.1 hd (zlp_at hl (i := 15) (v := zR x) rfl rfl) (kk arr hl)) kk
theorem z_istore15 (nx : Nat) {a0 a1 a2 a3 a4 a5 a6 a7 a8 a9 a10 a11 a12 a13 b c : zV} {tl : List zV} {x : Int} (hd : decode (zmc M) pc = .ok (.istore 15, 2)) (hi : 15 < zml M) (hb : zl b = false) (hn : pc + 2 = nx) (kk : zE X M k w nx (a0 :: a1 :: a2 :: a3 :: a4 :: a5 :: a6 :: a7 :: a8 :: a9 :: a10 :: a11 :: a12 :: a13 :: b :: zI x :: tl) st sh I L R Q) : zE X M k w pc (a0 :: a1 :: a2 :: a3 :: a4 :: a5 :: a6 :: a7 :: a8 :: a9 :: a10 :: a11 :: a12 :: a13 :: b :: c :: tl) (zI x :: st) sh I L R Q := by
  subst hn
  exact zE_step (fun G p l e Rm s m args below meth c H locs cells slots Qf arr F hl kk => lv_istore F.1 F.2.1 hd hl hi rfl (fun arr' hl' => kk arr' (lv_mono hl' (zst1_sub (zst1_pat [a0, a1, a2, a3, a4, a5, a6, a7, a8, a9, a10, a11, a12, a13] hb))))) kk
theorem z_astore15 (nx : Nat) {a0 a1 a2 a3 a4 a5 a6 a7 a8 a9 a10 a11 a12 a13 b c : zV} {tl : List zV} {x : Nat} (hd : decode (zmc M) pc = .ok (.astore 15, 2)) (hi : 15 < zml M) (hb : zl b = false) (hn : pc + 2 = nx) (kk : zE X M k w nx (a0 :: a1 :: a2 :: a3 :: a4 :: a5 :: a6 :: a7 :: a8 :: a9 :: a10 :: a11 :: a12 :: a13 :: b :: zR x :: tl) st sh I L R Q) : zE X M k w pc (a0 :: a1 :: a2 :: a3 :: a4 :: a5 :: a6 :: a7 :: a8 :: a9 :: a10 :: a11 :: a12 :: a13 :: b :: c :: tl) (zR x :: st) sh I L R Q := by
  subst hn
  exact zE_step (fun G p l e Rm s m args below meth c H locs cells slots Qf arr F hl kk => lv_astore F.1 F.2.1 hd hl hi rfl (fun arr' hl' => kk arr' (lv_mono hl' (zst1_sub (zst1_pat [a0, a1, a2, a3, a4, a5, a6, a7, a8, a9, a10, a11, a12, a13] hb))))) kk
theorem z_lstore15 (nx : Nat) {a0 a1 a2 a3 a4 a5 a6 a7 a8 a9 a10 a11 a12 a13 b c d : zV} {tl : List zV} {x : Int} (hd : decode (zmc M) pc = .ok (.lstore 15, 2)) (hi : 15+1 < zml M) (hb : zl b = false) (hn : pc + 2 = nx) (kk : zE X M k w nx (a0 :: a1 :: a2 :: a3 :: a4 :: a5 :: a6 :: a7 :: a8 :: a9 :: a10 :: a11 :: a12 :: a13 :: b :: zL x :: zX :: tl) st sh I L R Q) : zE X M k w pc (a0 :: a1 :: a2 :: a3 :: a4 :: a5 :: a6 :: a7 :: a8 :: a9 :: a10 :: a11 :: a12 :: a13 :: b :: c :: d :: tl) (zL x :: st) sh I L R Q := by
  subst hn
  exact zE_step (fun G p l e Rm s m args below meth c H locs cells slots Qf arr F hl kk => lv_lstore F.1 F.2.1 hd hl hi rfl (fun arr' hl' => kk arr' (lv_mono hl' (zst2_sub (zst2_pat [a0, a1, a2, a3, a4, a5, a6, a7, a8, a9, a10, a11, a12, a13] hb))))) kk
theorem z_iinc15 (nx : Nat) {a0 a1 a2 a3 a4 a5 a6 a7 a8 a9 a10 a11 a12 a13 b : zV} {tl : List zV} {x n : Int} (hd : decode (zmc M) pc = .ok (.iinc 15 n, 3)) (hi : 15 < zml M) (hb : zl b = false) (hn : pc + 3 = nx) (kk : zE X M k w nx (a0 :: a1 :: a2 :: a3 :: a4 :: a5 :: a6 :: a7 :: a8 :: a9 :: a10 :: a11 :: a12 :: a13 :: b :: zI (x + n) :: tl) st sh I L R Q) : zE X M k w pc (a0 :: a1 :: a2 :: a3 :: a4 :: a5 :: a6 :: a7 :: a8 :: a9 :: a10 :: a11 :: a12 :: a13 :: b :: zI x :: tl) st sh I L R Q := by
  subst hn
  exact zE_step (fun G p l e Rm s m args below meth c H locs cells slots Qf arr F hl kk => (by
    obtain ⟨kx, hkx⟩ := List.getElem?_of_mem (zlp_mem (G := G) (i := 0) (ls := (a0 :: a1 :: a2 :: a3 :: a4 :: a5 :: a6 :: a7 :: a8 :: a9 :: a10 :: a11 :: a12 :: a13 :: b :: zI x :: tl)) (j := 15) (v := zI x) rfl rfl)
    exact lv_iinc (v := Int32.ofInt (x + n)) F.1 F.2.1 hd hl (k := kx) (by rw [Nat.zero_add] at hkx; exact hkx) (by rw [Int32.ofInt_add]) hi rfl (fun arr' hl' => kk arr' (lv_mono hl' (zst1_sub (zst1_pat [a0, a1, a2, a3, a4, a5, a6, a7, a8, a9, a10, a11, a12, a13] hb)))))) kk
theorem z_iload16 (nx : Nat) {a0 a1 a2 a3 a4 a5 a6 a7 a8 a9 a10 a11 a12 a13 a14 a15 : zV} {tl : List zV} {x : Int} (hd : decode (zmc M) pc = .ok (.iload 16, 2)) (hn : pc + 2 = nx) (kk : zE X M k w nx (a0 :: a1 :: a2 :: a3 :: a4 :: a5 :: a6 :: a7 :: a8 :: a9 :: a10 :: a11 :: a12 :: a13 :: a14 :: a15 :: zI x :: tl) (zI x :: st) sh I L R Q) : zE X M k w pc (a0 :: a1 :: a2 :: a3 :: a4 :: a5 :: a6 :: a7 :: a8 :: a9 :: a10 :: a11 :: a12 :: a13 :: a14 :: a15 :: zI x :: tl) st sh I L R Q := by
  subst hn
  exact zE_step (fun G p l e Rm s m args below meth c H locs cells slots Qf arr F hl kk => lv_iload F.1 F.2.1 hd (zlp_at hl (i := 16) (v := zI x) rfl rfl) (kk arr hl)) kk
theorem z_lload16 (nx : Nat) {a0 a1 a2 a3 a4 a5 a6 a7 a8 a9 a10 a11 a12 a13 a14 a15 : zV} {tl : List zV} {x : Int} (hd : decode (zmc M) pc = .ok (.lload 16, 2)) (hn : pc + 2 = nx) (kk : zE X M k w nx (a0 :: a1 :: a2 :: a3 :: a4 :: a5 :: a6 :: a7 :: a8 :: a9 :: a10 :: a11 :: a12 :: a13 :: a14 :: a15 :: zL x :: tl) (zL x :: st) sh I L R Q) : zE X M k w pc (a0 :: a1 :: a2 :: a3 :: a4 :: a5 :: a6 :: a7 :: a8 :: a9 :: a10 :: a11 :: a12 :: a13 :: a14 :: a15 :: zL x :: tl) st sh I L R Q := by
  subst hn
  exact zE_step (fun G p l e Rm s m args below meth c H locs cells slots Qf arr F hl kk => lv_lload F.1 F.2.1 hd (zlp_at hl (i := 16) (v := zL x) rfl rfl) (kk arr hl)) kk
theorem z_aload16 (nx : Nat) {a0 a1 a2 a3 a4 a5 a6 a7 a8 a9 a10 a11 a12 a13 a14 a15 : zV} {tl : List zV} {x : Nat} (hd : decode (zmc M) pc = .ok (.aload 16, 2)) (hn : pc + 2 = nx) (kk : zE X M k w nx (a0 :: a1 :: a2 :: a3 :: a4 :: a5 :: a6 :: a7 :: a8 :: a9 :: a10 :: a11 :: a12 :: a13 :: a14 :: a15 :: zR x :: tl) (zR x :: st) sh I L R Q) : zE X M k w pc (a0 :: a1 :: a2 :: a3 :: a4 :: a5 :: a6 :: a7 :: a8 :: a9 :: a10 :: a11 :: a12 :: a13 :: a14 :: a15 :: zR x :: tl) st sh I L R Q := by
  subst hn
  exact zE_step (fun G p l e Rm s m args below meth c H locs cells slots Qf arr F hl kk => lv_aload F.1 F.2.1 hd (zlp_at hl (i := 16) (v := zR x) rfl rfl) (kk arr hl)) kk
theorem z_istore16 (nx : Nat) {a0 a1 a2 a3 a4 a5 a6 a7 a8 a9 a10 a11 a12 a13 a14 b c : zV} {tl : List zV} {x : Int} (hd : decode (zmc M) pc = .ok (.istore 16, 2)) (hi : 16 < zml M) (hb : zl b = false) (hn : pc + 2 = nx) (kk : zE X M k w nx (a0 :: a1 :: a2 :: a3 :: a4 :: a5 :: a6 :: a7 :: a8 :: a9 :: a10 :: a11 :: a12 :: a13 :: a14 :: b :: zI x :: tl) st sh I L R Q) : zE X M k w pc (a0 :: a1 :: a2 :: a3 :: a4 :: a5 :: a6 :: a7 :: a8 :: a9 :: a10 :: a11 :: a12 :: a13 :: a14 :: b :: c :: tl) (zI x :: st) sh I L R Q := by
  subst hn
  exact zE_step (fun G p l e Rm s m args below meth c H locs cells slots Qf arr F hl kk => lv_istore F.1 F.2.1 hd hl hi rfl (fun arr' hl' => kk arr' (lv_mono hl' (zst1_sub (zst1_pat [a0, a1, a2, a3, a4, a5, a6, a7, a8, a9, a10, a11, a12, a13, a14] hb))))) kk
theorem z_astore16 (nx : Nat) {a0 a1 a2 a3 a4 a5 a6 a7 a8 a9 a10 a11 a12 a13 a14 b c : zV} {tl : List zV} {x : Nat} (hd : decode (zmc M) pc = .ok (.astore 16, 2)) (hi : 16 < zml M) (hb : zl b = false) (hn : pc + 2 = nx) (kk : zE X M k w nx (a0 :: a1 :: a2 :: a3 :: a4 :: a5 :: a6 :: a7 :: a8 :: a9 :: a10 :: a11 :: a12 :: a13 :: a14 :: b :: zR x :: tl) st sh I L R Q) : zE X M k w pc (a0 :: a1 :: a2 :: a3 :: a4 :: a5 :: a6 :: a7 :: a8 :: a9 :: a10 :: a11 :: a12 :: a13 :: a14 :: b :: c :: tl) (zR x :: st) sh I L R Q := by
  subst hn
  exact zE_step (fun G p l e Rm s m args below meth c H locs cells slots Qf arr F hl kk => lv_astore F.1 F.2.1 hd hl hi rfl (fun arr' hl' => kk arr' (lv_mono hl' (zst1_sub (zst1_pat [a0, a1, a2, a3, a4, a5, a6, a7, a8, a9, a10, a11, a12, a13, a14] hb))))) kk
theorem z_lstore16 (nx : Nat) {a0 a1 a2 a3 a4 a5 a6 a7 a8 a9 a10 a11 a12 a13 a14 b c d : zV} {tl : List zV} {x : Int} (hd : decode (zmc M) pc = .ok (.lstore 16, 2)) (hi : 16+1 < zml M) (hb : zl b = false) (hn : pc + 2 = nx) (kk : zE X M k w nx (a0 :: a1 :: a2 :: a3 :: a4 :: a5 :: a6 :: a7 :: a8 :: a9 :: a10 :: a11 :: a12 :: a13 :: a14 :: b :: zL x :: zX :: tl) st sh I L R Q) : zE X M k w pc (a0 :: a1 :: a2 :: a3 :: a4 :: a5 :: a6 :: a7 :: a8 :: a9 :: a10 :: a11 :: a12 :: a13 :: a14 :: b :: c :: d :: tl) (zL x :: st) sh I L R Q := by
  subst hn
  exact zE_step (fun G p l e Rm s m args below meth c H locs cells slots Qf arr F hl kk => lv_lstore F.1 F.2.1 hd hl hi rfl (fun arr' hl' => kk arr' (lv_mono hl' (zst2_sub (zst2_pat [a0, a1, a2, a3, a4, a5, a6, a7, a8, a9, a10, a11, a12, a13, a14] hb))))) kk
theorem z_iinc16 (nx : Nat) {a0 a1 a2 a3 a4 a5 a6 a7 a8 a9 a10 a11 a12 a13 a14 b : zV} {tl : List zV} {x n : Int} (hd : decode (zmc M) pc = .ok (.iinc 16 n, 3)) (hi : 16 < zml M) (hb : zl b = false) (hn : pc + 3 = nx) (kk : zE X M k w nx (a0 :: a1 :: a2 :: a3 :: a4 :: a5 :: a6 :: a7 :: a8 :: a9 :: a10 :: a11 :: a12 :: a13 :: a14 :: b :: zI (x + n) :: tl) st sh I L R Q) : zE X M k w pc (a0 :: a1 :: a2 :: a3 :: a4 :: a5 :: a6 :: a7 :: a8 :: a9 :: a10 :: a11 :: a12 :: a13 :: a14 :: b :: zI x :: tl) st sh I L R Q := by
  subst hn
  exact zE_step (fun G p l e Rm s m args below meth c H locs cells slots Qf arr F hl kk => (by
    obtain ⟨kx, hkx⟩ := List.getElem?_of_mem (zlp_mem (G := G) (i := 0) (ls := (a0 :: a1 :: a2 :: a3 :: a4 :: a5 :: a6 :: a7 :: a8 :: a9 :: a10 :: a11 :: a12 :: a13 :: a14 :: b :: zI x :: tl)) (j := 16) (v := zI x) rfl rfl)
    exact lv_iinc (v := Int32.ofInt (x + n)) F.1 F.2.1 hd hl (k := kx) (by rw [Nat.zero_add] at hkx; exact hkx) (by rw [Int32.ofInt_add]) hi rfl (fun arr' hl' => kk arr' (lv_mono hl' (zst1_sub (zst1_pat [a0, a1, a2, a3, a4, a5, a6, a7, a8, a9, a10, a11, a12, a13, a14] hb)))))) kk
theorem z_iload17 (nx : Nat) {a0 a1 a2 a3 a4 a5 a6 a7 a8 a9 a10 a11 a12 a13 a14 a15 a16 : zV} {tl : List zV} {x : Int} (hd : decode (zmc M) pc = .ok (.iload 17, 2)) (hn : pc + 2 = nx) (kk : zE X M k w nx (a0 :: a1 :: a2 :: a3 :: a4 :: a5 :: a6 :: a7 :: a8 :: a9 :: a10 :: a11 :: a12 :: a13 :: a14 :: a15 :: a16 :: zI x :: tl) (zI x :: st) sh I L R Q) : zE X M k w pc (a0 :: a1 :: a2 :: a3 :: a4 :: a5 :: a6 :: a7 :: a8 :: a9 :: a10 :: a11 :: a12 :: a13 :: a14 :: a15 :: a16 :: zI x :: tl) st sh I L R Q := by
  subst hn
  exact zE_step (fun G p l e Rm s m args below meth c H locs cells slots Qf arr F hl kk => lv_iload F.1 F.2.1 hd (zlp_at hl (i := 17) (v := zI x) rfl rfl) (kk arr hl)) kk
theorem z_lload17 (nx : Nat) {a0 a1 a2 a3 a4 a5 a6 a7 a8 a9 a10 a11 a12 a13 a14 a15 a16 : zV} {tl : List zV} {x : Int} (hd : decode (zmc M) pc = .ok (.lload 17, 2)) (hn : pc + 2 = nx) (kk : zE X M k w nx (a0 :: a1 :: a2 :: a3 :: a4 :: a5 :: a6 :: a7 :: a8 :: a9 :: a10 :: a11 :: a12 :: a13 :: a14 :: a15 :: a16 :: zL x :: tl) (zL x :: st) sh I L R Q) : zE X M k w pc (a0 :: a1 :: a2 :: a3 :: a4 :: a5 :: a6 :: a7 :: a8 :: a9 :: a10 :: a11 :: a12 :: a13 :: a14 :: a15 :: a16 :: zL x :: tl) st sh I L R Q := by
  subst hn
  exact zE_step (fun G p l e Rm s m args below meth c H locs cells slots Qf arr F hl kk => lv_lload F.1 F.2.1 hd (zlp_at hl (i := 17) (v := zL x) rfl rfl) (kk arr hl)) kk
theorem z_aload17 (nx : Nat) {a0 a1 a2 a3 a4 a5 a6 a7 a8 a9 a10 a11 a12 a13 a14 a15 a16 : zV} {tl : List zV} {x : Nat} (hd : decode (zmc M) pc = .ok (.aload 17, 2)) (hn : pc + 2 = nx) (kk : zE X M k w nx (a0 :: a1 :: a2 :: a3 :: a4 :: a5 :: a6 :: a7 :: a8 :: a9 :: a10 :: a11 :: a12 :: a13 :: a14 :: a15 :: a16 :: zR x :: tl) (zR x :: st) sh I L R Q) : zE X M k w pc (a0 :: a1 :: a2 :: a3 :: a4 :: a5 :: a6 :: a7 :: a8 :: a9 :: a10 :: a11 :: a12 :: a13 :: a14 :: a15 :: a16 :: zR x :: tl) st sh I L R Q := by
  subst hn
  exact zE_step (fun G p l e Rm s m args below meth c H locs cells slots Qf arr F hl kk => lv_aload F.1 F.2.1 hd (zlp_at hl (i := 17) (v := zR x) rfl rfl) (kk arr hl)) kk
theorem z_istore17 (nx : Nat) {a0 a1 a2 a3 a4 a5 a6 a7 a8 a9 a10 a11 a12 a13 a14 a15 b c : zV} {tl : List zV} {x : Int} (hd : decode (zmc M) pc = .ok (.istore 17, 2)) (hi : 17 < zml M) (hb : zl b = false) (hn : pc + 2 = nx) (kk : zE X M k w nx (a0 :: a1 :: a2 :: a3 :: a4 :: a5 :: a6 :: a7 :: a8 :: a9 :: a10 :: a11 :: a12 :: a13 :: a14 :: a15 :: b :: zI x :: tl) st sh I L R Q) : zE X M k w pc (a0 :: a1 :: a2 :: a3 :: a4 :: a5 :: a6 :: a7 :: a8 :: a9 :: a10 :: a11 :: a12 :: a13 :: a14 :: a15 :: b :: c :: tl) (zI x :: st) sh I L R Q := by
  subst hn
  exact zE_step (fun G p l e Rm s m args below meth c H locs cells slots Qf arr F hl kk => lv_istore F.1 F.2.1 hd hl hi rfl (fun arr' hl' => kk arr' (lv_mono hl' (zst1_sub (zst1_pat [a0, a1, a2, a3, a4, a5, a6, a7, a8, a9, a10, a11, a12, a13, a14, a15] hb))))) kk
theorem z_astore17 (nx : Nat) {a0 a1 a2 a3 a4 a5 a6 a7 a8 a9 a10 a11 a12 a13 a14 a15 b c : zV} {tl : List zV} {x : Nat} (hd : decode (zmc M) pc = .ok (.astore 17, 2)) (hi : 17 < zml M) (hb : zl b = false) (hn : pc + 2 = nx) (kk : zE X M k w nx (a0 :: a1 :: a2 :: a3 :: a4 :: a5 :: a6 :: a7 :: a8 :: a9 :: a10 :: a11 :: a12 :: a13 :: a14 :: a15 :: b :: zR x :: tl) st sh I L R Q) : zE X M k w pc (a0 :: a1 :: a2 :: a3 :: a4 :: a5 :: a6 :: a7 :: a8 :: a9 :: a10 :: a11 :: a12 :: a13 :: a14 :: a15 :: b :: c :: tl) (zR x :: st) sh I L R Q := by
  subst hn
  exact zE_step (fun G p l e Rm s m args below meth c H locs cells slots Qf arr F hl kk => lv_astore F.1 F.2.1 hd hl hi rfl (fun arr' hl' => kk arr' (lv_mono hl' (zst1_sub (zst1_pat [a0, a1, a2, a3, a4, a5, a6, a7, a8, a9, a10, a11, a12, a13, a14, a15] hb))))) kk
theorem z_lstore17 (nx : Nat) {a0 a1 a2 a3 a4 a5 a6 a7 a8 a9 a10 a11 a12 a13 a14 a15 b c d : zV} {tl : List zV} {x : Int} (hd : decode (zmc M) pc = .ok (.lstore 17, 2)) (hi : 17+1 < zml M) (hb : zl b = false) (hn : pc + 2 = nx) (kk : zE X M k w nx (a0 :: a1 :: a2 :: a3 :: a4 :: a5 :: a6 :: a7 :: a8 :: a9 :: a10 :: a11 :: a12 :: a13 :: a14 :: a15 :: b :: zL x :: zX :: tl) st sh I L R Q) : zE X M k w pc (a0 :: a1 :: a2 :: a3 :: a4 :: a5 :: a6 :: a7 :: a8 :: a9 :: a10 :: a11 :: a12 :: a13 :: a14 :: a15 :: b :: c :: d :: tl) (zL x :: st) sh I L R Q := by
  subst hn
  exact zE_step (fun G p l e Rm s m args below meth c H locs cells slots Qf arr F hl kk => lv_lstore F.1 F.2.1 hd hl hi rfl (fun arr' hl' => kk arr' (lv_mono hl' (zst2_sub (zst2_pat [a0, a1, a2, a3, a4, a5, a6, a7, a8, a9, a10, a11, a12, a13, a14, a15] hb))))) kk
theorem z_iinc17 (nx : Nat) {a0 a1 a2 a3 a4 a5 a6 a7 a8 a9 a10 a11 a12 a13 a14 a15 b : zV} {tl : List zV} {x n : Int} (hd : decode (zmc M) pc = .ok (.iinc 17 n, 3)) (hi : 17 < zml M) (hb : zl b = false) (hn : pc + 3 = nx) (kk : zE X M k w nx (a0 :: a1 :: a2 :: a3 :: a4 :: a5 :: a6 :: a7 :: a8 :: a9 :: a10 :: a11 :: a12 :: a13 :: a14 :: a15 :: b :: zI (x + n) :: tl) st sh I L R Q) : zE X M k w pc (a0 :: a1 :: a2 :: a3 :: a4 :: a5 :: a6 :: a7 :: a8 :: a9 :: a10 :: a11 :: a12 :: a13 :: a14 :: a15 :: b :: zI x :: tl) st sh I L R Q := by
  subst hn
  exact zE_step (fun G p l e Rm s m args below meth c H locs cells slots Qf arr F hl kk => (by
    obtain ⟨kx, hkx⟩ := List.getElem?_of_mem (zlp_mem (G := G) (i := 0) (ls := (a0 :: a1 :: a2 :: a3 :: a4 :: a5 :: a6 :: a7 :: a8 :: a9 :: a10 :: a11 :: a12 :: a13 :: a14 :: a15 :: b :: zI x :: tl)) (j := 17) (v := zI x) rfl rfl)
    exact lv_iinc (v := Int32.ofInt (x + n)) F.1 F.2.1 hd hl (k := kx) (by rw [Nat.zero_add] at hkx; exact hkx) (by rw [Int32.ofInt_add]) hi rfl (fun arr' hl' => kk arr' (lv_mono hl' (zst1_sub (zst1_pat [a0, a1, a2, a3, a4, a5, a6, a7, a8, a9, a10, a11, a12, a13, a14, a15] hb)))))) kk
theorem z_iadd (nx : Nat) {x y : Int} (hd : decode (zmc M) pc = .ok (.iadd, 1)) (hn : pc + 1 = nx) (kk : zE X M k w nx ls (zI (x + y) :: st) sh I L R Q) : zE X M k w pc ls (zI y :: zI x :: st) sh I L R Q := by
  subst hn
  exact zE_step (fun G p l e Rm s m args below meth c H locs cells slots Qf arr F hl kk => lv_iadd F.1 F.2.1 hd (by rw [← Int32.ofInt_add]; exact kk arr hl)) kk
theorem z_isub (nx : Nat) {x y : Int} (hd : decode (zmc M) pc = .ok (.isub, 1)) (hn : pc + 1 = nx) (kk : zE X M k w nx ls (zI (x - y) :: st) sh I L R Q) : zE X M k w pc ls (zI y :: zI x :: st) sh I L R Q := by
  subst hn
  exact zE_step (fun G p l e Rm s m args below meth c H locs cells slots Qf arr F hl kk => lv_isub F.1 F.2.1 hd (by rw [← Int32.ofInt_sub]; exact kk arr hl)) kk
theorem z_imul (nx : Nat) {x y : Int} (hd : decode (zmc M) pc = .ok (.imul, 1)) (hn : pc + 1 = nx) (kk : zE X M k w nx ls (zI (x * y) :: st) sh I L R Q) : zE X M k w pc ls (zI y :: zI x :: st) sh I L R Q := by
  subst hn
  exact zE_step (fun G p l e Rm s m args below meth c H locs cells slots Qf arr F hl kk => lv_imul F.1 F.2.1 hd (by rw [← Int32.ofInt_mul]; exact kk arr hl)) kk
theorem z_ladd (nx : Nat) {x y : Int} (hd : decode (zmc M) pc = .ok (.ladd, 1)) (hn : pc + 1 = nx) (kk : zE X M k w nx ls (zL (x + y) :: st) sh I L R Q) : zE X M k w pc ls (zL y :: zL x :: st) sh I L R Q := by
  subst hn
  exact zE_step (fun G p l e Rm s m args below meth c H locs cells slots Qf arr F hl kk => lv_ladd F.1 F.2.1 hd (by rw [← Int64.ofInt_add]; exact kk arr hl)) kk
theorem z_lsub (nx : Nat) {x y : Int} (hd : decode (zmc M) pc = .ok (.lsub, 1)) (hn : pc + 1 = nx) (kk : zE X M k w nx ls (zL (x - y) :: st) sh I L R Q) : zE X M k w pc ls (zL y :: zL x :: st) sh I L R Q := by
  subst hn
  exact zE_step (fun G p l e Rm s m args below meth c H locs cells slots Qf arr F hl kk => lv_lsub F.1 F.2.1 hd (by rw [← Int64.ofInt_sub]; exact kk arr hl)) kk
theorem z_lmul (nx : Nat) {x y : Int} (hd : decode (zmc M) pc = .ok (.lmul, 1)) (hn : pc + 1 = nx) (kk : zE X M k w nx ls (zL (x * y) :: st) sh I L R Q) : zE X M k w pc ls (zL y :: zL x :: st) sh I L R Q := by
  subst hn
  exact zE_step (fun G p l e Rm s m args below meth c H locs cells slots Qf arr F hl kk => lv_lmul F.1 F.2.1 hd (by rw [← Int64.ofInt_mul]; exact kk arr hl)) kk
theorem z_idiv (nx : Nat) {x y : Int} (hd : decode (zmc M) pc = .ok (.idiv, 1)) (hx : 0 ≤ x ∧ x ≤ 2147483647) (hy : 0 < y ∧ y ≤ 2147483647) (hn : pc + 1 = nx) (kk : zE X M k w nx ls (zI (x / y) :: st) sh I L R Q) : zE X M k w pc ls (zI y :: zI x :: st) sh I L R Q := by
  subst hn
  exact zE_step (fun G p l e Rm s m args below meth c H locs cells slots Qf arr F hl kk => lv_idiv F.1 F.2.1 hd (fun h => by have := (zn_eq0 (by omega)).mp h; omega) (by rw [zn_div hx hy]; exact kk arr hl)) kk
theorem z_irem (nx : Nat) {x y : Int} (hd : decode (zmc M) pc = .ok (.irem, 1)) (hx : 0 ≤ x ∧ x ≤ 2147483647) (hy : 0 < y ∧ y ≤ 2147483647) (hn : pc + 1 = nx) (kk : zE X M k w nx ls (zI (x % y) :: st) sh I L R Q) : zE X M k w pc ls (zI y :: zI x :: st) sh I L R Q := by
  subst hn
  exact zE_step (fun G p l e Rm s m args below meth c H locs cells slots Qf arr F hl kk => lv_irem F.1 F.2.1 hd (fun h => by have := (zn_eq0 (by omega)).mp h; omega) (by rw [zn_mod hx hy]; exact kk arr hl)) kk
theorem z_ldiv (nx : Nat) {x y : Int} (hd : decode (zmc M) pc = .ok (.ldiv, 1)) (hx : 0 ≤ x ∧ x ≤ 9223372036854775807) (hy : 0 < y ∧ y ≤ 9223372036854775807) (hn : pc + 1 = nx) (kk : zE X M k w nx ls (zL (x / y) :: st) sh I L R Q) : zE X M k w pc ls (zL y :: zL x :: st) sh I L R Q := by
  subst hn
  exact zE_step (fun G p l e Rm s m args below meth c H locs cells slots Qf arr F hl kk => lv_ldiv F.1 F.2.1 hd (fun h => by have := (zn_eqL (y := 0) (by omega) (by omega)).mp h; omega) (by rw [zn_divL hx hy]; exact kk arr hl)) kk
theorem z_lrem (nx : Nat) {x y : Int} (hd : decode (zmc M) pc = .ok (.lrem, 1)) (hx : 0 ≤ x ∧ x ≤ 9223372036854775807) (hy : 0 < y ∧ y ≤ 9223372036854775807) (hn : pc + 1 = nx) (kk : zE X M k w nx ls (zL (x % y) :: st) sh I L R Q) : zE X M k w pc ls (zL y :: zL x :: st) sh I L R Q := by
  subst hn
  exact zE_step (fun G p l e Rm s m args below meth c H locs cells slots Qf arr F hl kk => lv_lrem F.1 F.2.1 hd (fun h => by have := (zn_eqL (y := 0) (by omega) (by omega)).mp h; omega) (by rw [zn_modL hx hy]; exact kk arr hl)) kk
theorem z_iand (nx : Nat) {x y : Int} (hd : decode (zmc M) pc = .ok (.iand, 1)) (hn : pc + 1 = nx) (kk : zE X M k w nx ls (zI (zand x y) :: st) sh I L R Q) : zE X M k w pc ls (zI y :: zI x :: st) sh I L R Q := by
  subst hn
  exact zE_step (fun G p l e Rm s m args below meth c H locs cells slots Qf arr F hl kk => lv_iand F.1 F.2.1 hd (by have := kk arr hl; simp only [List.map_cons, zc_I, zand, Int32.ofInt_toInt] at this ⊢; exact this)) kk
theorem z_ior (nx : Nat) {x y : Int} (hd : decode (zmc M) pc = .ok (.ior, 1)) (hn : pc + 1 = nx) (kk : zE X M k w nx ls (zI (zor x y) :: st) sh I L R Q) : zE X M k w pc ls (zI y :: zI x :: st) sh I L R Q := by
  subst hn
  exact zE_step (fun G p l e Rm s m args below meth c H locs cells slots Qf arr F hl kk => lv_ior F.1 F.2.1 hd (by have := kk arr hl; simp only [List.map_cons, zc_I, zor, Int32.ofInt_toInt] at this ⊢; exact this)) kk
theorem z_ishl (nx : Nat) {x y : Int} (hd : decode (zmc M) pc = .ok (.ishl, 1)) (hn : pc + 1 = nx) (kk : zE X M k w nx ls (zI (zshl x y) :: st) sh I L R Q) : zE X M k w pc ls (zI y :: zI x :: st) sh I L R Q := by
  subst hn
  exact zE_step (fun G p l e Rm s m args below meth c H locs cells slots Qf arr F hl kk => lv_ishl F.1 F.2.1 hd (by have := kk arr hl; simp only [List.map_cons, zc_I, zshl, Int32.ofInt_toInt] at this ⊢; exact this)) kk
theorem z_ishr (nx : Nat) {x y : Int} (hd : decode (zmc M) pc = .ok (.ishr, 1)) (hn : pc + 1 = nx) (kk : zE X M k w nx ls (zI (zshr x y) :: st) sh I L R Q) : zE X M k w pc ls (zI y :: zI x :: st) sh I L R Q := by
  subst hn
  exact zE_step (fun G p l e Rm s m args below meth c H locs cells slots Qf arr F hl kk => lv_ishr F.1 F.2.1 hd (by have := kk arr hl; simp only [List.map_cons, zc_I, zshr, Int32.ofInt_toInt] at this ⊢; exact this)) kk
theorem z_iushr (nx : Nat) {x y : Int} (hd : decode (zmc M) pc = .ok (.iushr, 1)) (hn : pc + 1 = nx) (kk : zE X M k w nx ls (zI (zushr x y) :: st) sh I L R Q) : zE X M k w pc ls (zI y :: zI x :: st) sh I L R Q := by
  subst hn
  exact zE_step (fun G p l e Rm s m args below meth c H locs cells slots Qf arr F hl kk => lv_iushr F.1 F.2.1 hd (v := Int32.ofInt (zushr x y)) (by simp only [zushr, Int32.ofInt_toInt]) (kk arr hl)) kk
theorem z_land (nx : Nat) {x y : Int} (hd : decode (zmc M) pc = .ok (.land, 1)) (hn : pc + 1 = nx) (kk : zE X M k w nx ls (zL (zandL x y) :: st) sh I L R Q) : zE X M k w pc ls (zL y :: zL x :: st) sh I L R Q := by
  subst hn
  exact zE_step (fun G p l e Rm s m args below meth c H locs cells slots Qf arr F hl kk => lv_land F.1 F.2.1 hd (by have := kk arr hl; simp only [List.map_cons, zc_L, zandL, Int64.ofInt_toInt] at this ⊢; exact this)) kk
theorem z_lor (nx : Nat) {x y : Int} (hd : decode (zmc M) pc = .ok (.lor, 1)) (hn : pc + 1 = nx) (kk : zE X M k w nx ls (zL (zorL x y) :: st) sh I L R Q) : zE X M k w pc ls (zL y :: zL x :: st) sh I L R Q := by
  subst hn
  exact zE_step (fun G p l e Rm s m args below meth c H locs cells slots Qf arr F hl kk => lv_lor F.1 F.2.1 hd (by have := kk arr hl; simp only [List.map_cons, zc_L, zorL, Int64.ofInt_toInt] at this ⊢; exact this)) kk
theorem z_lshl (nx : Nat) {x y : Int} (hd : decode (zmc M) pc = .ok (.lshl, 1)) (hn : pc + 1 = nx) (kk : zE X M k w nx ls (zL (zshlL x y) :: st) sh I L R Q) : zE X M k w pc ls (zI y :: zL x :: st) sh I L R Q := by
  subst hn
  exact zE_step (fun G p l e Rm s m args below meth c H locs cells slots Qf arr F hl kk => lv_lshl F.1 F.2.1 hd (v := Int64.ofInt (zshlL x y)) (by simp only [zshlL, Int64.ofInt_toInt]) (kk arr hl)) kk
theorem z_i2l (nx : Nat) {x : Int} (hd : decode (zmc M) pc = .ok (.i2l, 1)) (hx : -2147483648 ≤ x ∧ x ≤ 2147483647) (hn : pc + 1 = nx) (kk : zE X M k w nx ls (zL x :: st) sh I L R Q) : zE X M k w pc ls (zI x :: st) sh I L R Q := by
  subst hn
  exact zE_step (fun G p l e Rm s m args below meth c H locs cells slots Qf arr F hl kk => lv_i2l F.1 F.2.1 hd (v := Int64.ofInt x) (zn_i2l hx) (kk arr hl)) kk
theorem z_l2i (nx : Nat) {x : Int} (hd : decode (zmc M) pc = .ok (.l2i, 1)) (hn : pc + 1 = nx) (kk : zE X M k w nx ls (zI (zl2i x) :: st) sh I L R Q) : zE X M k w pc ls (zL x :: st) sh I L R Q := by
  subst hn
  exact zE_step (fun G p l e Rm s m args below meth c H locs cells slots Qf arr F hl kk => lv_l2i F.1 F.2.1 hd (v := Int32.ofInt (zl2i x)) (by simp only [zl2i, Int32.ofInt_toInt]) (kk arr hl)) kk
theorem z_i2b (nx : Nat) {x : Int} (hd : decode (zmc M) pc = .ok (.i2b, 1)) (hn : pc + 1 = nx) (kk : zE X M k w nx ls (zI (zi2b x) :: st) sh I L R Q) : zE X M k w pc ls (zI x :: st) sh I L R Q := by
  subst hn
  exact zE_step (fun G p l e Rm s m args below meth c H locs cells slots Qf arr F hl kk => lv_i2b F.1 F.2.1 hd (v := Int32.ofInt (zi2b x)) (by simp only [zi2b, Int32.ofInt_toInt]) (kk arr hl)) kk
theorem z_i2s (nx : Nat) {x : Int} (hd : decode (zmc M) pc = .ok (.i2s, 1)) (hn : pc + 1 = nx) (kk : zE X M k w nx ls (zI (zi2s x) :: st) sh I L R Q) : zE X M k w pc ls (zI x :: st) sh I L R Q := by
  subst hn
  exact zE_step (fun G p l e Rm s m args below meth c H locs cells slots Qf arr F hl kk => lv_i2s F.1 F.2.1 hd (v := Int32.ofInt (zi2s x)) (by simp only [zi2s, Int32.ofInt_toInt]) (kk arr hl)) kk
theorem z_lcmp (nx : Nat) {x y : Int} (hd : decode (zmc M) pc = .ok (.lcmp, 1)) (hx : -9223372036854775808 ≤ x ∧ x ≤ 9223372036854775807) (hy : -9223372036854775808 ≤ y ∧ y ≤ 9223372036854775807) (hn : pc + 1 = nx) (kk : zE X M k w nx ls (zI (zcmpL x y) :: st) sh I L R Q) : zE X M k w pc ls (zL y :: zL x :: st) sh I L R Q := by
  subst hn
  exact zE_step (fun G p l e Rm s m args below meth c H locs cells slots Qf arr F hl kk => W.lcmp F.1 F.2.1 hd (by rw [zn_cmpL hx hy]; exact kk arr hl)) kk
theorem z_dup (nx : Nat) {a : zV} (hd : decode (zmc M) pc = .ok (.dup, 1)) (ha : zl a = false) (hn : pc + 1 = nx) (kk : zE X M k w nx ls (a :: a :: st) sh I L R Q) : zE X M k w pc ls (a :: st) sh I L R Q := by
  subst hn
  exact zE_step (fun G p l e Rm s m args below meth c H locs cells slots Qf arr F hl kk => lv_dup F.1 F.2.1 hd (zc_cat G a ha) (kk arr hl)) kk
theorem z_pop (nx : Nat) {a : zV} (hd : decode (zmc M) pc = .ok (.pop, 1)) (ha : zl a = false) (hn : pc + 1 = nx) (kk : zE X M k w nx ls st sh I L R Q) : zE X M k w pc ls (a :: st) sh I L R Q := by
  subst hn
  exact zE_step (fun G p l e Rm s m args below meth c H locs cells slots Qf arr F hl kk => lv_pop F.1 F.2.1 hd (zc_cat G a ha) (kk arr hl)) kk
theorem z_dup2 (nx : Nat) {a b : zV} (hd : decode (zmc M) pc = .ok (.dup2, 1)) (ha : zl a = false) (hb : zl b = false) (hn : pc + 1 = nx) (kk : zE X M k w nx ls (a :: b :: a :: b :: st) sh I L R Q) : zE X M k w pc ls (a :: b :: st) sh I L R Q := by
  subst hn
  exact zE_step (fun G p l e Rm s m args below meth c H locs cells slots Qf arr F hl kk => lv_dup2_11 F.1 F.2.1 hd (zc_cat G a ha) (zc_cat G b hb) (kk arr hl)) kk
theorem z_goto (tgt : Nat) {off : Int} (hd : decode (zmc M) pc = .ok (.goto off, 3)) (ht : (pc : Int) + off = (tgt : Int)) (kk : zE X M k w tgt ls st sh I L R Q) : zE X M k w pc ls st sh I L R Q :=
  zE_step (fun G p l e Rm s m args below meth c H locs cells slots Qf arr F hl kk => lv_goto F.1 F.2.1 hd ht (kk arr hl)) kk
theorem z_if_eq (tgt nx : Nat) {x off : Int} (hd : decode (zmc M) pc = .ok (.ifCond .eq off, 3)) (ht : (pc : Int) + off = (tgt : Int)) (hn : pc + 3 = nx) (hx : -2147483648 ≤ x ∧ x ≤ 2147483647) (kt : x = 0 → zE X M k w tgt ls st sh I L R Q) (kf : ¬ x = 0 → zE X M k w nx ls st sh I L R Q) : zE X M k w pc ls (zI x :: st) sh I L R Q := by
  subst hn
  intro G p l e Rm s m args below meth c H locs cells slots Qf arr F S hl kend
  exact lv_if_eq F.1 F.2.1 hd ht (fun h => kt ((zn_eq0 hx).mp h) G p l e Rm s m args below meth c H locs cells slots Qf arr F S hl kend) (fun h => kf (fun q => h ((zn_eq0 hx).mpr q)) G p l e Rm s m args below meth c H locs cells slots Qf arr F S hl kend)
theorem z_if_ne (tgt nx : Nat) {x off : Int} (hd : decode (zmc M) pc = .ok (.ifCond .ne off, 3)) (ht : (pc : Int) + off = (tgt : Int)) (hn : pc + 3 = nx) (hx : -2147483648 ≤ x ∧ x ≤ 2147483647) (kt : ¬ x = 0 → zE X M k w tgt ls st sh I L R Q) (kf : x = 0 → zE X M k w nx ls st sh I L R Q) : zE X M k w pc ls (zI x :: st) sh I L R Q := by
  subst hn
  intro G p l e Rm s m args below meth c H locs cells slots Qf arr F S hl kend
  exact lv_if_ne F.1 F.2.1 hd ht (fun h => kt (fun q => h ((zn_eq0 hx).mpr q)) G p l e Rm s m args below meth c H locs cells slots Qf arr F S hl kend) (fun h => kf ((zn_eq0 hx).mp h) G p l e Rm s m args below meth c H locs cells slots Qf arr F S hl kend)
theorem z_if_lt (tgt nx : Nat) {x off : Int} (hd : decode (zmc M) pc = .ok (.ifCond .lt off, 3)) (ht : (pc : Int) + off = (tgt : Int)) (hn : pc + 3 = nx) (hx : -2147483648 ≤ x ∧ x ≤ 2147483647) (kt : x < 0 → zE X M k w tgt ls st sh I L R Q) (kf : 0 ≤ x → zE X M k w nx ls st sh I L R Q) : zE X M k w pc ls (zI x :: st) sh I L R Q := by
  subst hn
  intro G p l e Rm s m args below meth c H locs cells slots Qf arr F S hl kend
  exact lv_if_lt F.1 F.2.1 hd ht (fun h => kt ((zn_lt0 hx).mp h) G p l e Rm s m args below meth c H locs cells slots Qf arr F S hl kend) (fun h => kf (Int.not_lt.mp (fun q => h ((zn_lt0 hx).mpr q))) G p l e Rm s m args below meth c H locs cells slots Qf arr F S hl kend)
theorem z_if_ge (tgt nx : Nat) {x off : Int} (hd : decode (zmc M) pc = .ok (.ifCond .ge off, 3)) (ht : (pc : Int) + off = (tgt : Int)) (hn : pc + 3 = nx) (hx : -2147483648 ≤ x ∧ x ≤ 2147483647) (kt : 0 ≤ x → zE X M k w tgt ls st sh I L R Q) (kf : x < 0 → zE X M k w nx ls st sh I L R Q) : zE X M k w pc ls (zI x :: st) sh I L R Q := by
  subst hn
  intro G p l e Rm s m args below meth c H locs cells slots Qf arr F S hl kend
  exact lv_if_ge F.1 F.2.1 hd ht (fun h => kt ((zn_ge0 hx).mp h) G p l e Rm s m args below meth c H locs cells slots Qf arr F S hl kend) (fun h => kf (Int.not_le.mp (fun q => h ((zn_ge0 hx).mpr q))) G p l e Rm s m args below meth c H locs cells slots Qf arr F S hl kend)
theorem z_if_gt (tgt nx : Nat) {x off : Int} (hd : decode (zmc M) pc = .ok (.ifCond .gt off, 3)) (ht : (pc : Int) + off = (tgt : Int)) (hn : pc + 3 = nx) (hx : -2147483648 ≤ x ∧ x ≤ 2147483647) (kt : 0 < x → zE X M k w tgt ls st sh I L R Q) (kf : x ≤ 0 → zE X M k w nx ls st sh I L R Q) : zE X M k w pc ls (zI x :: st) sh I L R Q := by
  subst hn
  intro G p l e Rm s m args below meth c H locs cells slots Qf arr F S hl kend
  exact lv_if_gt F.1 F.2.1 hd ht (fun h => kt ((zn_gt0 hx).mp h) G p l e Rm s m args below meth c H locs cells slots Qf arr F S hl kend) (fun h => kf (Int.not_lt.mp (fun q => h ((zn_gt0 hx).mpr q))) G p l e Rm s m args below meth c H locs cells slots Qf arr F S hl kend)
theorem z_if_le (tgt nx : Nat) {x off : Int} (hd : decode (zmc M) pc = .ok (.ifCond .le off, 3)) (ht : (pc : Int) + off = (tgt : Int)) (hn : pc + 3 = nx) (hx : -2147483648 ≤ x ∧ x ≤ 2147483647) (kt : x ≤ 0 → zE X M k w tgt ls st sh I L R Q) (kf : 0 < x → zE X M k w nx ls st sh I L R Q) : zE X M k w pc ls (zI x :: st) sh I L R Q := by
  subst hn
  intro G p l e Rm s m args below meth c H locs cells slots Qf arr F S hl kend
  exact lv_if_le F.1 F.2.1 hd ht (fun h => kt ((zn_le0 hx).mp h) G p l e Rm s m args below meth c H locs cells slots Qf arr F S hl kend) (fun h => kf (Int.not_le.mp (fun q => h ((zn_le0 hx).mpr q))) G p l e Rm s m args below meth c H locs cells slots Qf arr F S hl kend)
theorem z_icmp_eq (tgt nx : Nat) {x y off : Int} (hd : decode (zmc M) pc = .ok (.if_icmp .eq off, 3)) (ht : (pc : Int) + off = (tgt : Int)) (hn : pc + 3 = nx) (hx : -2147483648 ≤ x ∧ x ≤ 2147483647) (hy : -2147483648 ≤ y ∧ y ≤ 2147483647) (kt : x = y → zE X M k w tgt ls st sh I L R Q) (kf : ¬ x = y → zE X M k w nx ls st sh I L R Q) : zE X M k w pc ls (zI y :: zI x :: st) sh I L R Q := by
  subst hn
  intro G p l e Rm s m args below meth c H locs cells slots Qf arr F S hl kend
  exact lv_icmp_eq F.1 F.2.1 hd ht (fun h => kt ((zn_eq hx hy).mp h) G p l e Rm s m args below meth c H locs cells slots Qf arr F S hl kend) (fun h => kf (fun q => h ((zn_eq hx hy).mpr q)) G p l e Rm s m args below meth c H locs cells slots Qf arr F S hl kend)
theorem z_icmp_ne (tgt nx : Nat) {x y off : Int} (hd : decode (zmc M) pc = .ok (.if_icmp .ne off, 3)) (ht : (pc : Int) + off = (tgt : Int)) (hn : pc + 3 = nx) (hx : -2147483648 ≤ x ∧ x ≤ 2147483647) (hy : -2147483648 ≤ y ∧ y ≤ 2147483647) (kt : ¬ x = y → zE X M k w tgt ls st sh I L R Q) (kf : x = y → zE X M k w nx ls st sh I L R Q) : zE X M k w pc ls (zI y :: zI x :: st) sh I L R Q := by
  subst hn
  intro G p l e Rm s m args below meth c H locs cells slots Qf arr F S hl kend
  exact lv_icmp_ne F.1 F.2.1 hd ht (fun h => kt (fun q => h ((zn_eq hx hy).mpr q)) G p l e Rm s m args below meth c H locs cells slots Qf arr F S hl kend) (fun h => kf ((zn_eq hx hy).mp h) G p l e Rm s m args below meth c H locs cells slots Qf arr F S hl kend)
theorem z_icmp_lt (tgt nx : Nat) {x y off : Int} (hd : decode (zmc M) pc = .ok (.if_icmp .lt off, 3)) (ht : (pc : Int) + off = (tgt : Int)) (hn : pc + 3 = nx) (hx : -2147483648 ≤ x ∧ x ≤ 2147483647) (hy : -2147483648 ≤ y ∧ y ≤ 2147483647) (kt : x < y → zE X M k w tgt ls st sh I L R Q) (kf : y ≤ x → zE X M k w nx ls st sh I L R Q) : zE X M k w pc ls (zI y :: zI x :: st) sh I L R Q := by
  subst hn
  intro G p l e Rm s m args below meth c H locs cells slots Qf arr F S hl kend
  exact lv_icmp_lt F.1 F.2.1 hd ht (fun h => kt ((zn_lt hx hy).mp h) G p l e Rm s m args below meth c H locs cells slots Qf arr F S hl kend) (fun h => kf (Int.not_lt.mp (fun q => h ((zn_lt hx hy).mpr q))) G p l e Rm s m args below meth c H locs cells slots Qf arr F S hl kend)
theorem z_icmp_ge (tgt nx : Nat) {x y off : Int} (hd : decode (zmc M) pc = .ok (.if_icmp .ge off, 3)) (ht : (pc : Int) + off = (tgt : Int)) (hn : pc + 3 = nx) (hx : -2147483648 ≤ x ∧ x ≤ 2147483647) (hy : -2147483648 ≤ y ∧ y ≤ 2147483647) (kt : y ≤ x → zE X M k w tgt ls st sh I L R Q) (kf : x < y → zE X M k w nx ls st sh I L R Q) : zE X M k w pc ls (zI y :: zI x :: st) sh I L R Q := by
  subst hn
  intro G p l e Rm s m args below meth c H locs cells slots Qf arr F S hl kend
  exact lv_icmp_ge F.1 F.2.1 hd ht (fun h => kt ((zn_le hy hx).mp h) G p l e Rm s m args below meth c H locs cells slots Qf arr F S hl kend) (fun h => kf (Int.not_le.mp (fun q => h ((zn_le hy hx).mpr q))) G p l e Rm s m args below meth c H locs cells slots Qf arr F S hl kend)
theorem z_icmp_gt (tgt nx : Nat) {x y off : Int} (hd : decode (zmc M) pc = .ok (.if_icmp .gt off, 3)) (ht : (pc : Int) + off = (tgt : Int)) (hn : pc + 3 = nx) (hx : -2147483648 ≤ x ∧ x ≤ 2147483647) (hy : -2147483648 ≤ y ∧ y ≤ 2147483647) (kt : y < x → zE X M k w tgt ls st sh I L R Q) (kf : x ≤ y → zE X M k w nx ls st sh I L R Q) : zE X M k w pc ls (zI y :: zI x :: st) sh I L R Q := by
  subst hn
  intro G p l e Rm s m args below meth c H locs cells slots Qf arr F S hl kend
  exact lv_icmp_gt F.1 F.2.1 hd ht (fun h => kt ((zn_lt hy hx).mp h) G p l e Rm s m args below meth c H locs cells slots Qf arr F S hl kend) (fun h => kf (Int.not_lt.mp (fun q => h ((zn_lt hy hx).mpr q))) G p l e Rm s m args below meth c H locs cells slots Qf arr F S hl kend)
theorem z_icmp_le (tgt nx : Nat) {x y off : Int} (hd : decode (zmc M) pc = .ok (.if_icmp .le off, 3)) (ht : (pc : Int) + off = (tgt : Int)) (hn : pc + 3 = nx) (hx : -2147483648 ≤ x ∧ x ≤ 2147483647) (hy : -2147483648 ≤ y ∧ y ≤ 2147483647) (kt : x ≤ y → zE X M k w tgt ls st sh I L R Q) (kf : y < x → zE X M k w nx ls st sh I L R Q) : zE X M k w pc ls (zI y :: zI x :: st) sh I L R Q := by
  subst hn
  intro G p l e Rm s m args below meth c H locs cells slots Qf arr F S hl kend
  exact lv_icmp_le F.1 F.2.1 hd ht (fun h => kt ((zn_le hx hy).mp h) G p l e Rm s m args below meth c H locs cells slots Qf arr F S hl kend) (fun h => kf (Int.not_le.mp (fun q => h ((zn_le hx hy).mpr q))) G p l e Rm s m args below meth c H locs cells slots Qf arr F S hl kend)
theorem z_swIn (tgt : Nat) {x dflt lo hi off : Int} {offs : Array Int} {len : Nat} (hd : decode (zmc M) pc = .ok (.tableswitch dflt lo hi offs, len)) (hx : -2147483648 ≤ x ∧ x ≤ 2147483647) (h1 : lo ≤ x ∧ x ≤ hi) (ho : offs[(x - lo).toNat]? = some off) (ht : (pc : Int) + off = (tgt : Int)) (kk : zE X M k w tgt ls st sh I L R Q) : zE X M k w pc ls (zI x :: st) sh I L R Q :=
  zE_step (fun G p l e Rm s m args below meth c H locs cells slots Qf arr F hl kk => lv_tableIn (off := off) F.1 F.2.1 hd (by rw [zn_T hx]; omega) (by rw [zn_T hx]; omega) (by rw [zn_T hx]; exact ho) ht (kk arr hl)) kk
theorem z_swOut (tgt : Nat) {x dflt lo hi : Int} {offs : Array Int} {len : Nat} (hd : decode (zmc M) pc = .ok (.tableswitch dflt lo hi offs, len)) (hx : -2147483648 ≤ x ∧ x ≤ 2147483647) (h1 : x < lo ∨ hi < x) (ht : (pc : Int) + dflt = (tgt : Int)) (kk : zE X M k w tgt ls st sh I L R Q) : zE X M k w pc ls (zI x :: st) sh I L R Q :=
  zE_step (fun G p l e Rm s m args below meth c H locs cells slots Qf arr F hl kk => lv_tableOut F.1 F.2.1 hd (by rw [zn_T hx]; exact h1) ht (kk arr hl)) kk
theorem z_lksw (tgt : Nat) {x dflt off : Int} {ps : Array (Int × Int)} {len : Nat} (hd : decode (zmc M) pc = .ok (.lookupswitch dflt ps, len)) (hx : -2147483648 ≤ x ∧ x ≤ 2147483647) (hp : (ps.toList.zip (ps.toList.drop 1)).all (fun (a, next) => a.1 < next.1) = true) (ho : Op.lookupswitch.offset ps.toList dflt x = off) (ht : (pc : Int) + off = (tgt : Int)) (kk : zE X M k w tgt ls st sh I L R Q) : zE X M k w pc ls (zI x :: st) sh I L R Q :=
  zE_step (fun G p l e Rm s m args below meth c H locs cells slots Qf arr F hl kk => lv_lookup F.1 F.2.1 hd hp (by rw [zn_T hx]; exact ho) ht (kk arr hl)) kk
/-- returning -/
theorem z_ireturn {x : Int} (hd : decode (zmc M) pc = .ok (.ireturn, 1)) (hr : zmr M = some .int) (hq : Q [zI x] sh I L R) : zE X M 0 w pc ls [zI x] sh I L R Q := by
  intro G p l e Rm s m args below meth c H locs cells slots Qf arr F S hl kend
  exact kend [zI x] sh I L R H locs cells slots w pc arr hq (Or.inl ⟨x, .int, rfl, hr, rfl, hd⟩) S
theorem z_zreturn {x : Int} (hd : decode (zmc M) pc = .ok (.ireturn, 1)) (hr : zmr M = some .boolean) (hx : x = 0 ∨ x = 1) (hq : Q [zI x] sh I L R) : zE X M 0 w pc ls [zI x] sh I L R Q := by
  intro G p l e Rm s m args below meth c H locs cells slots Qf arr F S hl kend
  exact kend [zI x] sh I L R H locs cells slots w pc arr hq (Or.inl ⟨x, .boolean, rfl, hr, (by rcases hx with h | h <;> subst h <;> rfl), hd⟩) S
theorem z_lreturn {x : Int} (hd : decode (zmc M) pc = .ok (.lreturn, 1)) (hr : zmr M = some .long) (hq : Q [zL x] sh I L R) : zE X M 0 w pc ls [zL x] sh I L R Q := by
  intro G p l e Rm s m args below meth c H locs cells slots Qf arr F S hl kend
  exact kend [zL x] sh I L R H locs cells slots w pc arr hq (Or.inr (Or.inl ⟨x, rfl, hr, hd⟩)) S
theorem z_return (hd : decode (zmc M) pc = .ok (.return_, 1)) (hr : zmr M = none) (hq : Q [] sh I L R) : zE X M 0 w pc ls [] sh I L R Q := by
  intro G p l e Rm s m args below meth c H locs cells slots Qf arr F S hl kend
  exact kend [] sh I L R H locs cells slots w pc arr hq (Or.inr (Or.inr ⟨rfl, hr, hd⟩)) S
end ZROWS
