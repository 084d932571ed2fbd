/-! ===== making objects and arrays ===== -/
section ZNEW
variable {X : zXs} {M : zM} {k w pc : Nat} {ls st : List zV} {sh : zH} {I L : zI2} {R : zR2} {Q : zQ}
theorem zSt.lt {G : zG} {Rm : Room} {s : State} {H : Heap} {locs : List Loc} {cells slots k w : Nat} {sh : zH} {I L : zI2} {R : zR2} (S : zSt G Rm s H locs cells slots k w sh I L R) (hz : G.1 ≤ s.heap.size) : G.1 + sh.length ≤ H.size := by
  cases hl : sh.length with
  | zero => exact Nat.le_trans hz S.2.1.1
  | succ n =>
    obtain ⟨t, ht⟩ : ∃ t, sh[n]? = some t := ⟨sh[n], List.getElem?_eq_getElem (by omega)⟩
    have h1 := (S.1 n _ (zw_get ht)).lt
    have h2 : G.1 + n < H.size := h1
    omega
/-- the heap's size is known where the machine stands -/
theorem zW_size {p : Program} {l : Launch} {e : Env} {Rm : Room} {s : State} {m : MethodId} {args : Array Value} {below : List Frame} {meth : Method} {c : Code} {H : Heap} {locs : List Loc} {cells slots : Nat} {Qf : State → Prop} {g : JFrame} {n : Nat} (h1 : n ≤ H.size) (h2 : s.heap.size + cells = n) (kk : H.size = n → W p l e Rm s m args below meth c H locs cells slots Qf g) : W p l e Rm s m args below meth c H locs cells slots Qf g := by
  intro T hT Xs
  have h3 := Xs.heapSize
  rw [hT] at h3
  exact kk (by omega) T hT Xs
theorem zw_row_push {G : zG} {sh : zH} {I L : zI2} {R : zR2} {ci n : Nat} {e : va_E} (he : e = zcell G (zrow I sh.length fun _ => 0) L (zrowR R sh.length fun _ => none) sh.length (ci, n)) : zw G sh I L R ++ [(G.1 + sh.length, e)] = zw G (sh ++ [(ci, n)]) (zrow I sh.length fun _ => 0) L (zrowR R sh.length fun _ => none) :=
  zw_push he (fun a u ha => by rw [zcell_row u (by omega), zcell_rowR u (by omega)])
theorem z_new (nx : Nat) {idx ci n : Nat} {C : String} {T : u_T} (hd : decode (zmc M) pc = .ok (.new idx, 3)) (hc : vwCl[ci]? = some (C, T, n)) (h1 : Jvm.Cond.classLink (zmo M) idx C ∈ zgood) (h2 : Jvm.Cond.instantiable C n ∈ zgood) (h3 : Jvm.Cond.initialized C ∈ zgood) (hdf : ∀ j, j < n → defaultValue (zty ci j) = if zfk ci j = true then .null else .int 0) (hn : pc + 3 = nx)
    (kk : zE X M k w nx ls (zR sh.length :: st) (sh ++ [(ci, n)]) (zrow I sh.length fun _ => 0) L (zrowR R sh.length fun _ => none) Q) : zE X M (k + 1) (w + n) pc ls st sh I L R Q := by
  subst hn
  intro G p l e Rm s m args below meth c H locs cells slots Qf arr F S hl kend
  have hz := F.2.2.2.2.2.2.2.2.2.1
  have hcl := zcl_lt ci _ hc
  refine zW_size (S.lt hz) S.2.2.1 (fun hsz => ?_)
  have hKn := F.2.2.2.2.2.1.1.1 ci _ hc
  refine W.newcK F.1 F.2.1 F.2.2.2.1 (F.2.2.2.2.1 _ h1) (F.2.2.2.2.1 _ h2) (F.2.2.2.2.1 _ h3) rfl hd (by have := S.2.2.2.1; omega) (by have := S.2.2.2.2; omega) hKn.2.1 hsz fun H1 kC hkC e1 z1 o1 => ?_
  have hkp : ∀ (q : Nat) (x : Nat × va_E), (zw G sh I L R)[q]? = some x → H1[x.1]? = H[x.1]? := fun q x hx => o1 x.1 (by rw [← hsz]; exact (S.1 q x hx).lt)
  have hnew : va_P G.2.2.2.2.1 vwCl [(G.1 + sh.length, zob G (zrow I sh.length fun _ => 0) (zrowR R sh.length fun _ => none) ci sh.length n)] H1 := by
    intro q x hx
    have hq : q < 1 := (List.getElem?_eq_some_iff.mp hx).1
    rw [show q = 0 by omega] at hx
    cases hx
    refine ⟨_, hc, (u_born (zty ci) F.2.2.2.2.1 (zcl_in ci _ hc) hKn hkC e1 (zcl_ty ci _ hc)).to (fun j hj => ?_)⟩
    rw [hdf j hj]
    show _ = ((List.range n).map (fun j => zfv G (zrow I sh.length fun _ => 0) (zrowR R sh.length fun _ => none) ci sh.length j)).getD j Value.null
    rw [List.getD_eq_getElem?_getD, zob_at hj]
    cases hk : zfk ci j <;> simp [zfv, hk, zrow, zrowR, va_rf]
  have hP2 := (S.1.kept hkp).app hnew
  rw [zw_row_push (by rw [zcell_o hcl])] at hP2
  have h9 := S.2.2
  exact kk G p l e Rm s m args below meth c H1 locs (cells + 1) (slots + n) Qf arr F ⟨hP2, ⟨Nat.le_trans S.2.1.1 (by omega), fun x g1 g2 => (o1 x (by have := S.2.1.1; omega)).trans (S.2.1.2.1 x g1 g2), S.2.1.2.2⟩, by rw [List.length_append]; simp; omega, by omega, by omega⟩ hl kend
theorem z_newa (nx : Nat) {at_ : ArrayType} {t : Nat} {n : Int} (hd : decode (zmc M) pc = .ok (.newarray at_, 2)) (ht : (at_ = .int ∧ t = 20) ∨ (at_ = .long ∧ t = 21)) (h1 : Jvm.Cond.arrayClass (newarray.typeOf at_) ∈ zgood) (hn0 : 0 ≤ n ∧ n ≤ 60000) (hn : pc + 2 = nx)
    (kk : zE X M k w nx ls (zR sh.length :: st) (sh ++ [(t, n.toNat)]) (zrow I sh.length fun _ => 0) (zrow L sh.length fun _ => 0) R Q) : zE X M (k + 1) (w + n.toNat) pc ls (zI n :: st) sh I L R Q := by
  subst hn
  intro G p l e Rm s m args below meth c H locs cells slots Qf arr F S hl kend
  have hz := F.2.2.2.2.2.2.2.2.2.1
  refine zW_size (S.lt hz) S.2.2.1 (fun hsz => ?_)
  have h9 := S.2.2
  refine va_newaK F.1 F.2.1 (F.2.2.2.2.1 _ h1) rfl hd (n := Int32.ofInt n) (N := n.toNat) (rest := st.map (zc G)) rfl (by rw [zn_lt0 (by omega)]; omega) (zn_clamp (by omega) (by omega)) (by rcases ht with ⟨rfl, -⟩ | ⟨rfl, -⟩ <;> simp only [newarray.typeOf, componentBytes] <;> omega) (by omega) (by omega) hsz fun H1 cA e1 z1 o1 hAr hNm => ?_
  have hkp : ∀ (q : Nat) (x : Nat × va_E), (zw G sh I L R)[q]? = some x → H1[x.1]? = H[x.1]? := fun q x hx => o1 x.1 (by rw [← hsz]; exact (S.1 q x hx).lt)
  have hS1 : va_S (fun q => G.1 ≤ q) s.heap H1 locs := ⟨Nat.le_trans S.2.1.1 (by omega), fun x g1 g2 => (o1 x (by have := S.2.1.1; omega)).trans (S.2.1.2.1 x g1 g2), S.2.1.2.2⟩
  have hcell : va_at G.2.2.2.2.1 vwCl (G.1 + sh.length, zcell G (zrow I sh.length fun _ => 0) (zrow L sh.length fun _ => 0) R sh.length (t, n.toNat)) H1 := by
    rcases ht with ⟨rfl, rfl⟩ | ⟨rfl, rfl⟩
    · have hc2 : cA = G.2.2.2.2.2 0 := Option.some.inj (hNm.symm.trans (F.2.2.2.2.2.1.1.2 0 _ rfl).2)
      show H1[_]? = some _
      rw [e1, hc2]
      simp [zcell, zaI, zrow, vp_cell, newarray.typeOf, defaultValue]
    · have hc2 : cA = G.2.2.2.2.2 1 := Option.some.inj (hNm.symm.trans (F.2.2.2.2.2.1.1.2 1 _ rfl).2)
      show H1[_]? = some _
      rw [e1, hc2]
      simp [zcell, zaL, zrow, vp_cell, newarray.typeOf, defaultValue]
  have hnew : va_P G.2.2.2.2.1 vwCl [(G.1 + sh.length, zcell G (zrow I sh.length fun _ => 0) (zrow L sh.length fun _ => 0) R sh.length (t, n.toNat))] H1 := by
    intro q x hx
    have hq : q < 1 := (List.getElem?_eq_some_iff.mp hx).1
    rw [show q = 0 by omega] at hx
    cases hx
    exact hcell
  have hP2 := (S.1.kept hkp).app hnew
  rw [zw_push (I' := zrow I sh.length fun _ => 0) (L' := zrow L sh.length fun _ => 0) (R' := R) rfl (fun a u ha => by rw [zcell_row u (by omega), zcell_rowL u (by omega)])] at hP2
  exact kk G p l e Rm s m args below meth c H1 locs (cells + 1) (slots + n.toNat) Qf arr F ⟨hP2, hS1, by rw [List.length_append]; simp; omega, by omega, by omega⟩ hl kend
theorem z_newq (nx : Nat) {idx t : Nat} {n : Int} {C : String} (hd : decode (zmc M) pc = .ok (.anewarray idx, 3)) (ht : (C = "HelterSlide$Slide" ∧ t = 22) ∨ (C = "HelterSlide$Sheet" ∧ t = 23)) (h1 : Jvm.Cond.classLink (zmo M) idx C ∈ zgood) (hn0 : 0 ≤ n ∧ n ≤ 60000) (hn : pc + 3 = nx)
    (kk : zE X M k w nx ls (zR sh.length :: st) (sh ++ [(t, n.toNat)]) (zrow I sh.length fun _ => 0) L (zrowR R sh.length fun _ => none) Q) : zE X M (k + 1) (w + n.toNat) pc ls (zI n :: st) sh I L R Q := by
  subst hn
  intro G p l e Rm s m args below meth c H locs cells slots Qf arr F S hl kend
  have hz := F.2.2.2.2.2.2.2.2.2.1
  refine zW_size (S.lt hz) S.2.2.1 (fun hsz => ?_)
  have h9 := S.2.2
  have hcl : (Int32.ofInt n).toNatClampNeg = n.toNat := zn_clamp (by omega) (by omega)
  have hAO : va_AO C s := by rcases ht with ⟨rfl, -⟩ | ⟨rfl, -⟩; exact F.2.2.2.2.2.1.2.2.1; exact F.2.2.2.2.2.1.2.2.2
  refine W.anew F.1 F.2.1 F.2.2.2.1 (F.2.2.2.2.1 _ h1) (va_AO.use hAO) rfl hd (n := Int32.ofInt n) (rest := st.map (zc G)) rfl (by rw [zn_lt0 (by omega)]; omega) (by rw [hcl]; omega) (by omega) (by rw [hcl]; omega) fun cA kA comp f1 f2 f3 f4 => ?_
  rw [hcl]
  generalize hH1 : H.push ({ cls := cA, slots := Array.replicate n.toNat .null, vm := .none } : Cell) = H1
  have z1 : H1.size = H.size + 1 := by rw [← hH1, Array.size_push]
  have e1 : H1[H.size]? = some (arrV cA n.toNat (fun _ => .null)) := by rw [← hH1, Array.getElem?_push_size, ← arrV_new]
  have o1 : ∀ q : Nat, q < H.size → H1[q]? = H[q]? := fun q hq => by rw [← hH1, Array.getElem?_push, if_neg (Nat.ne_of_lt hq)]
  have hkp : ∀ (q : Nat) (x : Nat × va_E), (zw G sh I L R)[q]? = some x → H1[x.1]? = H[x.1]? := fun q x hx => o1 x.1 ((S.1 q x hx).lt)
  have hS1 : va_S (fun q => G.1 ≤ q) s.heap H1 locs := ⟨Nat.le_trans S.2.1.1 (by omega), fun x g1 g2 => (o1 x (by have := S.2.1.1; omega)).trans (S.2.1.2.1 x g1 g2), S.2.1.2.2⟩
  have hcell : va_at G.2.2.2.2.1 vwCl (G.1 + sh.length, zcell G (zrow I sh.length fun _ => 0) L (zrowR R sh.length fun _ => none) sh.length (t, n.toNat)) H1 := by
    rcases ht with ⟨rfl, rfl⟩ | ⟨rfl, rfl⟩
    · obtain ⟨kA2, comp2, g1, g2, g3, g4⟩ := (F.2.2.2.2.2.1.1.2 2 _ rfl).2
      have hc2 : cA = G.2.2.2.2.2 2 := Option.some.inj (f1.symm.trans g4)
      show H1[G.1 + sh.length]? = some _
      rw [← hsz, e1, hc2]
      simp [zcell, zaR, zrowR, vp_cell, va_rf]
    · obtain ⟨kA2, comp2, g1, g2, g3, g4⟩ := (F.2.2.2.2.2.1.1.2 3 _ rfl).2
      have hc2 : cA = G.2.2.2.2.2 3 := Option.some.inj (f1.symm.trans g4)
      show H1[G.1 + sh.length]? = some _
      rw [← hsz, e1, hc2]
      simp [zcell, zaR, zrowR, vp_cell, va_rf]
  have hnew : va_P G.2.2.2.2.1 vwCl [(G.1 + sh.length, zcell G (zrow I sh.length fun _ => 0) L (zrowR R sh.length fun _ => none) sh.length (t, n.toNat))] H1 := by
    intro q x hx
    have hq : q < 1 := (List.getElem?_eq_some_iff.mp hx).1
    rw [show q = 0 by omega] at hx
    cases hx
    exact hcell
  have hP2 := (S.1.kept hkp).app hnew
  rw [zw_row_push rfl] at hP2
  rw [hsz]
  exact kk G p l e Rm s m args below meth c H1 locs (cells + 1) (slots + n.toNat) Qf arr F ⟨hP2, hS1, by rw [List.length_append]; simp; omega, by omega, by omega⟩ hl kend
theorem z_objInit (nx : Nat) {idx o : Nat} (hd : decode (zmc M) pc = .ok (.invokespecial idx, 3)) (h1 : Jvm.Cond.methodLink (zmo M) idx objectInit ∈ zgood) (h2 : Jvm.Cond.instanceMethod objectInit ∈ zgood) (h3 : Jvm.Cond.code objectInit ⟨#[0xb1]⟩ 1 none ∈ zgood) (hf : 1 ≤ zmf M) (hlw : zwords st + 12 ≤ zmw M) (hn : pc + 3 = nx) (kk : zE X M k w nx ls st sh I L R Q) : zE X M k w pc ls (zR o :: st) sh I L R Q := by
  subst hn
  intro G p l e Rm s m args below meth c H locs cells slots Qf arr F S hl kend
  refine W.objInit F.1 F.2.1 F.2.2.2.1 (F.2.2.2.2.1 _ h1) (F.2.2.2.2.1 _ h2) (F.2.2.2.2.1 _ h3) rfl (hl.1.trans F.2.2.1.symm) (rest := st.map (zc G)) rfl hd (Nat.le_trans hf F.2.2.2.2.2.2.1) ?_ (kk G p l e Rm s m args below meth c H locs cells slots Qf arr F S hl kend)
  have h5 := F.2.2.2.2.2.2.2.1
  have h6 : ((st.map (zc G)).map fun v => v.category).sum = zwords st := zwords_cat G st
  show 2 * 0 + _ + 12 ≤ _
  omega
/-- what arraycopy leaves in the target's row -/
def zcp (f g : Nat → Int) (sp dp n : Nat) : Nat → Int := fun j => if dp ≤ j ∧ j < dp + n then f (sp + (j - dp)) else g j
theorem z_copyI (nx : Nat) {idx a0 a1 n0 n1 sp dp n : Nat} {xsp xdp xn : Int} (hd : decode (zmc M) pc = .ok (.invokestatic idx, 3)) (h1 : Jvm.Cond.methodLink (zmo M) idx arraycopyName ∈ zgood) (h2 : Jvm.Cond.native arraycopyName ∈ zgood) (h3 : Jvm.Cond.static arraycopyName ∈ zgood) (h4 : Jvm.Cond.initialized "java/lang/System" ∈ zgood) (ha0 : sh[a0]? = some (20, n0)) (ha1 : sh[a1]? = some (20, n1)) (hsp : xsp = (sp : Int)) (hdp : xdp = (dp : Int)) (hxn : xn = (n : Int)) (hs : sp + n ≤ n0 ∧ dp + n ≤ n1 ∧ n0 ≤ 60000 ∧ n1 ≤ 60000) (hf : 1 ≤ zmf M) (hlw : zwords st + 18 ≤ zmw M) (hn : pc + 3 = nx)
    (kk : zE X M k w nx ls st sh (zrow I a1 (zcp (I a0) (I a1) sp dp n)) L R Q) : zE X M k w pc ls (zI xn :: zI xdp :: zR a1 :: zI xsp :: zR a0 :: st) sh I L R Q := by
  subst hn; subst hsp; subst hdp; subst hxn
  intro G p l e Rm s m args below meth c H locs cells slots Qf arr F S hl kend
  have c1 : (Int32.ofInt (sp : Int)).toNatClampNeg = sp := by rw [zn_clamp (by omega) (by omega)]; omega
  have c2 : (Int32.ofInt (dp : Int)).toNatClampNeg = dp := by rw [zn_clamp (by omega) (by omega)]; omega
  have c3 : (Int32.ofInt (n : Int)).toNatClampNeg = n := by rw [zn_clamp (by omega) (by omega)]; omega
  have h5 := F.2.2.2.2.2.2.2.1
  have h6 : ((st.map (zc G)).map fun v => v.category).sum = zwords st := zwords_cat G st
  refine va_copyi F.1 F.2.1 (F.2.2.1.trans hl.1.symm) F.2.2.2.1 (F.2.2.2.2.1 _ h1) (F.2.2.2.2.1 _ h2) (F.2.2.2.2.1 _ h3) (F.2.2.2.2.1 _ h4) F.2.2.2.2.2.1.1 S.1 zw_D S.2.1 a0 a1 0 0 (zw_iI ha0) (zw_iI ha1) (ty := .int) rfl rfl rfl (by rw [zn_lt0 (by omega)]; omega) (by rw [zn_lt0 (by omega)]; omega) (by rw [zn_lt0 (by omega)]; omega) (by rw [c1, c3]; omega) (by rw [c2, c3]; omega) (fun i _ => rfl) (Nat.le_trans hf F.2.2.2.2.2.2.1) (by rw [show nativeFrameWords "java/lang/System" "arraycopy" 5 = 7 from rfl]; omega) hd (fun H1 locs1 hP1 hD1 hS1 => ?_)
  rw [c1, c2, c3] at hP1
  have e5 : (zw G sh I L R).set a1 (G.1 + a1, .inl (G.2.2.2.2.2 0, n1, .inl (va_cpy (fun j => Int32.ofInt (I a0 j)) (fun j => Int32.ofInt (I a1 j)) sp dp n))) = zw G sh (zrow I a1 (zcp (I a0) (I a1) sp dp n)) L R := zw_set ha1 (by
    show _ = zaI G _ a1 n1
    unfold zaI
    congr 3
    congr 1
    funext j
    by_cases hj : dp ≤ j ∧ j < dp + n <;> simp [va_cpy, zcp, zrow, hj]) (fun b u hb => zcell_row u hb)
  rw [e5] at hP1
  exact kk G p l e Rm s m args below meth c H1 locs1 cells slots Qf arr F ⟨hP1, hS1, S.2.2⟩ hl kend
theorem z_copyL (nx : Nat) {idx a0 a1 n0 n1 sp dp n : Nat} {xsp xdp xn : Int} (hd : decode (zmc M) pc = .ok (.invokestatic idx, 3)) (h1 : Jvm.Cond.methodLink (zmo M) idx arraycopyName ∈ zgood) (h2 : Jvm.Cond.native arraycopyName ∈ zgood) (h3 : Jvm.Cond.static arraycopyName ∈ zgood) (h4 : Jvm.Cond.initialized "java/lang/System" ∈ zgood) (ha0 : sh[a0]? = some (21, n0)) (ha1 : sh[a1]? = some (21, n1)) (hsp : xsp = (sp : Int)) (hdp : xdp = (dp : Int)) (hxn : xn = (n : Int)) (hs : sp + n ≤ n0 ∧ dp + n ≤ n1 ∧ n0 ≤ 60000 ∧ n1 ≤ 60000) (hf : 1 ≤ zmf M) (hlw : zwords st + 18 ≤ zmw M) (hn : pc + 3 = nx)
    (kk : zE X M k w nx ls st sh I (zrow L a1 (zcp (L a0) (L a1) sp dp n)) R Q) : zE X M k w pc ls (zI xn :: zI xdp :: zR a1 :: zI xsp :: zR a0 :: st) sh I L R Q := by
  subst hn; subst hsp; subst hdp; subst hxn
  intro G p l e Rm s m args below meth c H locs cells slots Qf arr F S hl kend
  have c1 : (Int32.ofInt (sp : Int)).toNatClampNeg = sp := by rw [zn_clamp (by omega) (by omega)]; omega
  have c2 : (Int32.ofInt (dp : Int)).toNatClampNeg = dp := by rw [zn_clamp (by omega) (by omega)]; omega
  have c3 : (Int32.ofInt (n : Int)).toNatClampNeg = n := by rw [zn_clamp (by omega) (by omega)]; omega
  have h5 := F.2.2.2.2.2.2.2.1
  have h6 : ((st.map (zc G)).map fun v => v.category).sum = zwords st := zwords_cat G st
  refine va_copyl F.1 F.2.1 (F.2.2.1.trans hl.1.symm) F.2.2.2.1 (F.2.2.2.2.1 _ h1) (F.2.2.2.2.1 _ h2) (F.2.2.2.2.1 _ h3) (F.2.2.2.2.1 _ h4) F.2.2.2.2.2.1.1 S.1 zw_D S.2.1 a0 a1 1 1 (zw_iL ha0) (zw_iL ha1) (ty := .long) rfl rfl rfl (by rw [zn_lt0 (by omega)]; omega) (by rw [zn_lt0 (by omega)]; omega) (by rw [zn_lt0 (by omega)]; omega) (by rw [c1, c3]; omega) (by rw [c2, c3]; omega) (fun i _ => rfl) (Nat.le_trans hf F.2.2.2.2.2.2.1) (by rw [show nativeFrameWords "java/lang/System" "arraycopy" 5 = 7 from rfl]; omega) hd (fun H1 locs1 hP1 hD1 hS1 => ?_)
  rw [c1, c2, c3] at hP1
  have e5 : (zw G sh I L R).set a1 (G.1 + a1, .inl (G.2.2.2.2.2 1, n1, .inr (.inl (va_cpy (fun j => Int64.ofInt (L a0 j)) (fun j => Int64.ofInt (L a1 j)) sp dp n)))) = zw G sh I (zrow L a1 (zcp (L a0) (L a1) sp dp n)) R := zw_set ha1 (by
    show _ = zaL G _ a1 n1
    unfold zaL
    congr 4
    congr 1
    funext j
    by_cases hj : dp ≤ j ∧ j < dp + n <;> simp [va_cpy, zcp, zrow, hj]) (fun b u hb => zcell_rowL u hb)
  rw [e5] at hP1
  exact kk G p l e Rm s m args below meth c H1 locs1 cells slots Qf arr F ⟨hP1, hS1, S.2.2⟩ hl kend
end ZNEW
/-! ===== calls ===== -/
/-- what is needed of a method to be called at all -/
def zMok (M : zM) : Prop := Jvm.Cond.code (zmy M) (zmc M) (zml M) (zmr M) ∈ zgood ∧ Jvm.Cond.initialized (zmo M) ∈ zgood ∧ zmo M = (zmy M).cls ∧ plainName (zmy M).cls = true ∧ ((zmy M).cls ≠ "java/lang/invoke/MethodHandle" ∧ (zmy M).cls ≠ "java/lang/invoke/VarHandle")
/-- room for M' below M, and how many parameters M' has -/
def zMin (M M' : zM) (n : Nat) : Prop := (zmf M' + 1 ≤ zmf M ∧ 8 + (zml M' + 11) + zmw M' ≤ zmw M) ∧ (parseMethodDescriptor (zmy M').desc).map (fun d => d.parameters.length) = some n
def zVL (M : zM) (idx : Nat) (M' : zM) (n : Nat) : Prop := zMok M' ∧ zMin M M' n ∧ Jvm.Cond.methodLink (zmo M) idx (zmy M') ∈ zgood ∧ Jvm.Cond.instanceMethod (zmy M') ∈ zgood ∧ Jvm.Cond.selects (zmo M') (zmy M') (zmy M') ∈ zgood
def zSL (M : zM) (idx : Nat) (M' : zM) (n : Nat) : Prop := zMok M' ∧ zMin M M' n ∧ Jvm.Cond.methodLink (zmo M) idx (zmy M') ∈ zgood ∧ Jvm.Cond.static (zmy M') ∈ zgood
def zSN (M : zM) (idx : Nat) (M' : zM) (n : Nat) : Prop := zMok M' ∧ zMin M M' n ∧ (∃ h, (zmo M, idx, zmy M', h) ∈ znest) ∧ Jvm.Cond.static (zmy M') ∈ zgood
def zIL (M : zM) (idx : Nat) (M' : zM) (n : Nat) : Prop := zMok M' ∧ zMin M M' n ∧ Jvm.Cond.methodLink (zmo M) idx (zmy M') ∈ zgood ∧ Jvm.Cond.instanceMethod (zmy M') ∈ zgood ∧ (zmy M').name = "<init>" ∧ zmr M' = none
def zIN (M : zM) (idx : Nat) (M' : zM) (n : Nat) : Prop := zMok M' ∧ zMin M M' n ∧ (∃ h, (zmo M, idx, zmy M', h) ∈ znest) ∧ Jvm.Cond.instanceMethod (zmy M') ∈ zgood ∧ (zmy M').name = "<init>" ∧ zmr M' = none
def zws (M : zM) : List Jvm.Cond := Jvm.Cond.code (zmy M) (zmc M) (zml M) (zmr M) :: zgood
def zrm (M : zM) (k w : Nat) : Room := { frames := zmf M, cells := k, slots := w, locals := zmw M }
/-- a callee's start -/
def zPc (X : zXs) (G : zG) (av : List zV) (sh : zH) (I L : zI2) (R : zR2) : Array Value → State → Prop := fun v U => v = (av.map (zc G)).toArray ∧ zCx G U ∧ va_P G.2.2.2.2.1 vwCl (zw G sh I L R) U.heap ∧ U.heap.size = G.1 + sh.length ∧ va_X G.2.1 G.2.2.1 G.2.2.2.1 U U.heap ∧ G.2.1 < G.1 ∧ G.2.2.1 = X.1 ∧ ∀ j : Nat, j < X.1 → G.2.2.2.1 j = Int32.ofInt (X.2 j)
/-- .. and its end -/
def zQc (G : zG) (mc : Nat) (Q : zQ) : Array Value → State → Outcome → State → Prop := fun _ st oc t => ∃ (r : List zV) (sh' : zH) (I' L' : zI2) (R' : zR2), Q r sh' I' L' R' ∧ (r = [] ∧ oc = .returned none ∨ ∃ v, r = [v] ∧ oc = .returned (some (zc G v))) ∧ va_P G.2.2.2.2.1 vwCl (zw G sh' I' L' R') t.heap ∧ st.heap.size + mc = G.1 + sh'.length ∧ va_F (fun q => G.1 ≤ q) st t
theorem z_met {X : zXs} {M : zM} {k w : Nat} {av ls : List zV} {sh : zH} {I L : zI2} {R : zR2} {Q : zQ} (hM : zMok M) (hent : zent (zml M) av = ls) (hwd : zwords av ≤ zml M) (hE : zE X M k w 0 ls [] sh I L R Q) (G : zG) (l : Launch) :
    Met l (zmy M) (zws M) (zrm M k w) (zPc X G av sh I L R) (zQc G k Q) k w (fun q => G.1 ≤ q) := by
  subst hent
  refine Met.ofW (cc := zmc M) (maxL := zml M) (ret := zmr M) hM.2.2.2.1 rfl ?_
  intro p e s m args below meth c s₁ B hml hv
  obtain ⟨rfl, hC, hP, hsz, hX, hb, hx1, hx2⟩ := hv
  have hts := atoms_spec (ws := zws M) B.pre
  have hown : s.vm.findClass (zmo M) = some m.cls := by rw [hM.2.2.1]; exact findClass_of_methodNamed B.named
  have hlocks := B.notSynchronized
  have hr := B.returns
  rw [lg_entry_eq]
  have hl0 := lv_entry (av.map (zc G)) (n := zml M) (by rw [zwords_sl]; exact hwd)
  have hl1 := lv_mono hl0 (zent_in G av (zml M))
  refine hE G p l e (zrm M k w) s m _ below meth c s.heap [] 0 0 _ _ ⟨B.exec, B.bytes, hml, hown, fun w hw => hts w (List.mem_cons_of_mem _ hw), hC, Nat.le_refl _, Nat.le_refl _, (name_of_methodNamed B.named B.method).1, by omega, hX, hb, hx1, hx2⟩ ⟨hP, va_S.rf, by omega, Nat.zero_add _, by show 0 + w ≤ w; omega⟩ hl1 ?_
  intro r sh' I' L' R' H' locs' cells' slots' w' pc' arr' hq hrt S
  have hcells : cells' = k := S.2.2.2.1
  have hslots : slots' + w' ≤ w := S.2.2.2.2
  subst hcells
  have hpost : ∀ (oc : Outcome), (r = [] ∧ oc = .returned none ∨ ∃ v, r = [v] ∧ oc = .returned (some (zc G v))) → ∀ t : State, t.heap = H' → s.WarmedH t.vm → zQc G cells' Q (av.map (zc G)).toArray s oc t := fun oc ho t ht _ => ⟨r, sh', I', L', R', hq, ho, by rw [ht]; exact S.1, S.2.2.1, S.2.1.F ht⟩
  refine W.widen (k := cells') (n := w) (Nat.le_refl _) (by omega) ?_
  rcases hrt with ⟨x, ty, rfl, h1, h2, h3⟩ | ⟨x, rfl, h1, h3⟩ | ⟨rfl, h1, h3⟩
  · exact W.zret B.exec B.bytes (hr.trans h1) h2 (hpost _ (Or.inr ⟨_, rfl, rfl⟩)) S.2.1.2.2 h3
  · exact W.lret B.exec B.bytes (hr.trans h1) (hpost _ (Or.inr ⟨_, rfl, rfl⟩)) S.2.1.2.2 h3
  · exact W.vret B.exec B.bytes (hr.trans h1) (hpost _ (Or.inl ⟨rfl, rfl⟩)) S.2.1.2.2 h3
theorem zPc_blind {X : zXs} {G : zG} {av : List zV} {sh : zH} {I L : zI2} {R : zR2} : FrameBlind (zPc X G av sh I L R) := fun a U g mk h => ⟨h.1, h.2.1.call g mk a, h.2.2.1, h.2.2.2.1, va_X.moved (u := U) (U := U.calling g mk a) (Vm.Alike.refl U.vm) h.2.2.2.2.1, h.2.2.2.2.2⟩
