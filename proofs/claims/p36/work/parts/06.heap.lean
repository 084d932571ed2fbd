/-! ===== the classes' words ===== -/
theorem zcl_in : ∀ (ci : Nat) (q : vw_C), vwCl[ci]? = some q → ∀ w ∈ u_ws q.1 q.2.1 q.2.2, w ∈ zgood := by
  have key : ∀ q ∈ vwCl, ∀ w ∈ u_ws q.1 q.2.1 q.2.2, w ∈ lw_tbl ∧ goodWord w = true := by decide +kernel
  intro ci q hq w hw
  have h := key q (List.mem_of_getElem? hq) w hw
  exact List.mem_filter.mpr h
theorem zcl_ty : ∀ (ci : Nat) (q : vw_C), vwCl[ci]? = some q → ∀ k, k < q.2.2 → parseFieldDescriptor (q.2.1 k).2.2.1 = some (zty ci k) := by
  intro ci q hq
  match ci, hq with
  | 0, hq => cases hq; exact tyX0_ok
  | 1, hq => cases hq; exact tyX1_ok
  | 2, hq => cases hq; exact tyX2_ok
  | 3, hq => cases hq; exact tyX3_ok
  | 4, hq => cases hq; exact tyX4_ok
  | 5, hq => cases hq; exact tyX5_ok
  | 6, hq => cases hq; exact tyX6_ok
theorem zcl_nm : ∀ (ci : Nat) (q : vw_C), vwCl[ci]? = some q → ∀ a, a < q.2.2 → ∀ b, b < q.2.2 → a ≠ b → (q.2.1 a).2.1 ≠ (q.2.1 b).2.1 := by
  intro ci q hq
  match ci, hq with
  | 0, hq => cases hq; exact nmX0
  | 1, hq => cases hq; exact nmX1
  | 2, hq => cases hq; exact nmX2
  | 3, hq => cases hq; exact nmX3
  | 4, hq => cases hq; exact nmX4
  | 5, hq => cases hq; exact nmX5
  | 6, hq => cases hq; exact nmX6
theorem zcl_lt : ∀ (ci : Nat) (q : vw_C), vwCl[ci]? = some q → ci < 20 := by
  intro ci q hq
  have h := (List.getElem?_eq_some_iff.mp hq).1
  have h2 : vwCl.length = 7 := rfl
  omega
/-- the class own's entry idx names field j of class ci, an object of n fields; it is a reference or not -/
def zFL (own : String) (idx ci n j : Nat) (rf : Bool) : Prop := ∃ (C : String) (T : u_T), vwCl[ci]? = some (C, T, n) ∧ j < n ∧ Jvm.Cond.fieldLink own idx C (T j).2.1 (T j).2.2.1 ∈ zgood ∧ (T j).1 = C ∧ zfk ci j = rf
/-- .. and it may be written by anyone (fin false), or by its constructor alone -/
def zFP (own : String) (idx ci n j : Nat) (rf fin : Bool) (ty : FieldType) : Prop := ∃ (C : String) (T : u_T), vwCl[ci]? = some (C, T, n) ∧ j < n ∧ Jvm.Cond.fieldLink own idx C (T j).2.1 (T j).2.2.1 ∈ zgood ∧ (T j).1 = C ∧ zfk ci j = rf ∧ (T j).2.2.2 = fin ∧ (fin = true → C = own) ∧ zty ci j = ty
theorem zob_at {G : zG} {I : zI2} {R : zR2} {ci k n j : Nat} (hj : j < n) : ((List.range n).map (fun j => zfv G I R ci k j))[j]? = some (zfv G I R ci k j) := by
  rw [List.getElem?_map, List.getElem?_range hj]; rfl
theorem zob_set {G : zG} {I : zI2} {R : zR2} {ci k n j : Nat} {v : Int} (hk : zfk ci j = false) : ((List.range n).map (fun j => zfv G I R ci k j)).set j (.int (Int32.ofInt v)) = (List.range n).map (fun b => zfv G (zup I k j v) R ci k b) := by
  apply List.ext_getElem?
  intro b
  by_cases hb : b < n
  · rw [List.getElem?_map, List.getElem?_range hb]
    by_cases hbj : b = j
    · subst hbj
      rw [List.getElem?_set_self (by simpa using hb)]
      simp [zfv, hk, zup]
    · rw [List.getElem?_set_ne (Ne.symm hbj), zob_at hb]
      simp [zfv, zup, hbj]
  · rw [List.getElem?_eq_none (by simpa using hb), List.getElem?_eq_none (by simpa using hb)]
theorem zob_setR {G : zG} {I : zI2} {R : zR2} {ci k n j : Nat} {v : Nat} (hk : zfk ci j = true) : ((List.range n).map (fun j => zfv G I R ci k j)).set j (.ref (G.1 + v)) = (List.range n).map (fun b => zfv G I (zupR R k j (some v)) ci k b) := by
  apply List.ext_getElem?
  intro b
  by_cases hb : b < n
  · rw [List.getElem?_map, List.getElem?_range hb]
    by_cases hbj : b = j
    · subst hbj
      rw [List.getElem?_set_self (by simpa using hb)]
      simp [zfv, hk, zupR, va_rf]
    · rw [List.getElem?_set_ne (Ne.symm hbj), zob_at hb]
      simp [zfv, zupR, hbj]
  · rw [List.getElem?_eq_none (by simpa using hb), List.getElem?_eq_none (by simpa using hb)]
theorem zn_clamp {i : Int} (h0 : 0 ≤ i) (h1 : i ≤ 2147483647) : (Int32.ofInt i).toNatClampNeg = i.toNat := by
  show (Int32.ofInt i).toInt.toNat = i.toNat
  rw [zn_T (by omega)]
theorem zn_in {i : Int} {n : Nat} (hi : 0 ≤ i ∧ i < (n : Int) ∧ i ≤ 2147483647) : vp_in (Int32.ofInt i) n := by
  rw [vp_in_iff, zn_T (by omega)]
  omega
section ZHEAP
variable {X : zXs} {M : zM} {k w pc : Nat} {ls st : List zV} {sh : zH} {I L : zI2} {R : zR2} {Q : zQ}
theorem z_getI (nx : Nat) {idx ci n j o : Nat} (hd : decode (zmc M) pc = .ok (.getfield idx, 3)) (hf : zFL (zmo M) idx ci n j false) (ho : sh[o]? = some (ci, n)) (hn : pc + 3 = nx) (kk : zE X M k w nx ls (zI (I o j) :: st) sh I L R Q) : zE X M k w pc ls (zR o :: st) sh I L R Q := by
  subst hn
  intro G p l e Rm s m args below meth c H locs cells slots Qf arr F S hl kend
  obtain ⟨C, T, hc, hj, hlk, hC, hk⟩ := hf
  have hv : ((List.range n).map (fun j => zfv G I R ci o j))[j]? = some (.int (Int32.ofInt (I o j))) := by rw [zob_at hj]; simp [zfv, hk]
  exact va_get F.1 F.2.1 F.2.2.2.2.1 (zcl_in ci _ hc) F.2.2.2.1 F.2.2.2.2.2.1.1 S.1 o (zw_io (zcl_lt ci _ hc) ho) hc j hj (F.2.2.2.2.1 _ hlk) (fun x hx => by rw [← hC]; exact hx) hv hd (kk G p l e Rm s m args below meth c H locs cells slots Qf arr F S hl kend)
theorem z_getR (nx : Nat) {idx ci n j o q : Nat} (hd : decode (zmc M) pc = .ok (.getfield idx, 3)) (hf : zFL (zmo M) idx ci n j true) (ho : sh[o]? = some (ci, n)) (hq : R o j = some q) (hn : pc + 3 = nx) (kk : zE X M k w nx ls (zR q :: st) sh I L R Q) : zE X M k w pc ls (zR o :: st) sh I L R Q := by
  subst hn
  intro G p l e Rm s m args below meth c H locs cells slots Qf arr F S hl kend
  obtain ⟨C, T, hc, hj, hlk, hC, hk⟩ := hf
  have hv : ((List.range n).map (fun j => zfv G I R ci o j))[j]? = some (.ref (G.1 + q)) := by rw [zob_at hj]; simp [zfv, hk, hq, va_rf]
  exact va_get F.1 F.2.1 F.2.2.2.2.1 (zcl_in ci _ hc) F.2.2.2.1 F.2.2.2.2.2.1.1 S.1 o (zw_io (zcl_lt ci _ hc) ho) hc j hj (F.2.2.2.2.1 _ hlk) (fun x hx => by rw [← hC]; exact hx) hv hd (kk G p l e Rm s m args below meth c H locs cells slots Qf arr F S hl kend)
theorem z_putI0 (nx : Nat) {idx ci n j o : Nat} {v : Int} {ty : FieldType} (hd : decode (zmc M) pc = .ok (.putfield idx, 3)) (hf : zFP (zmo M) idx ci n j false false ty) (hnr : narrow ty (.int (Int32.ofInt v)) = .int (Int32.ofInt v)) (hft : fits ty (.int (Int32.ofInt v)) = true) (ho : sh[o]? = some (ci, n)) (hn : pc + 3 = nx) (kk : zE X M k w nx ls st sh (zup I o j v) L R Q) : zE X M k w pc ls (zI v :: zR o :: st) sh I L R Q := by
  subst hn
  intro G p l e Rm s m args below meth c H locs cells slots Qf arr F S hl kend
  obtain ⟨C, T, hc, hj, hlk, hC, hk, hfin, -, hty⟩ := hf
  have hci := zcl_lt ci _ hc
  refine va_put F.1 F.2.1 F.2.2.2.2.1 (zcl_in ci _ hc) (zty ci) (zcl_ty ci _ hc) (zcl_nm ci _ hc) F.2.2.2.1 F.2.2.2.2.2.1.1 S.1 zw_D S.2.1 o (zw_io hci ho) hc j hj (F.2.2.2.2.1 _ hlk) (fun x hx => by rw [← hC]; exact hx) hfin (ty := ty) (v := .int (Int32.ofInt v)) (by rw [zcl_ty ci _ hc j hj, hty]) hnr hft (by simpa using hj) hd (fun H1 locs1 hP1 hD1 hS1 => ?_)
  have e5 : (zw G sh I L R).set o (G.1 + o, .inr (ci, ((List.range n).map (fun j => zfv G I R ci o j)).set j (.int (Int32.ofInt v)))) = zw G sh (zup I o j v) L R := zw_set ho (by rw [zcell_o hci, zob_set hk]; rfl) (fun a u ha => zcell_up u ha)
  rw [e5] at hP1
  exact kk G p l e Rm s m args below meth c H1 locs1 cells slots Qf arr F ⟨hP1, hS1, S.2.2⟩ hl kend
theorem z_putI (nx : Nat) {idx ci n j o : Nat} {v : Int} (hd : decode (zmc M) pc = .ok (.putfield idx, 3)) (hf : zFP (zmo M) idx ci n j false false .int) (ho : sh[o]? = some (ci, n)) (hn : pc + 3 = nx) (kk : zE X M k w nx ls st sh (zup I o j v) L R Q) : zE X M k w pc ls (zI v :: zR o :: st) sh I L R Q := z_putI0 nx hd hf rfl rfl ho hn kk
theorem z_putZ (nx : Nat) {idx ci n j o : Nat} {v : Int} (hd : decode (zmc M) pc = .ok (.putfield idx, 3)) (hf : zFP (zmo M) idx ci n j false false .boolean) (hv : v = 0 ∨ v = 1) (ho : sh[o]? = some (ci, n)) (hn : pc + 3 = nx) (kk : zE X M k w nx ls st sh (zup I o j v) L R Q) : zE X M k w pc ls (zI v :: zR o :: st) sh I L R Q := z_putI0 nx hd hf (by rcases hv with h | h <;> subst h <;> rfl) (by rcases hv with h | h <;> subst h <;> rfl) ho hn kk
theorem z_putR (nx : Nat) {idx ci n j o v : Nat} {ty : FieldType} (hd : decode (zmc M) pc = .ok (.putfield idx, 3)) (hf : zFP (zmo M) idx ci n j true true ty) (hin : (zmy M).name = "<init>") (ho : sh[o]? = some (ci, n)) (hn : pc + 3 = nx) (kk : zE X M k w nx ls st sh I L (zupR R o j (some v)) Q) : zE X M k w pc ls (zR v :: zR o :: st) sh I L R Q := by
  subst hn
  intro G p l e Rm s m args below meth c H locs cells slots Qf arr F S hl kend
  obtain ⟨C, T, hc, hj, hlk, hC, hk, hfin, hown, hty⟩ := hf
  have hci := zcl_lt ci _ hc
  have hnr : narrow ty (.ref (G.1 + v)) = .ref (G.1 + v) ∧ fits ty (.ref (G.1 + v)) = true := by
    unfold zfk at hk
    rw [hty] at hk
    cases ty <;> first | exact ⟨rfl, rfl⟩ | cases hk
  refine va_putF F.1 F.2.1 F.2.2.2.2.1 (zcl_in ci _ hc) (zty ci) (zcl_ty ci _ hc) (zcl_nm ci _ hc) F.2.2.2.1 F.2.2.2.2.2.1.1 S.1 zw_D S.2.1 o (zw_io hci ho) hc j hj (F.2.2.2.2.1 _ hlk) (fun x hx => by rw [← hC]; exact hx) hfin (by rw [F.2.2.2.2.2.2.2.2.1]; exact hin) (hC.trans (hown rfl)) (ty := ty) (v := .ref (G.1 + v)) (by rw [zcl_ty ci _ hc j hj, hty]) hnr.1 hnr.2 (by simpa using hj) hd (fun H1 locs1 hP1 hD1 hS1 => ?_)
  have e5 : (zw G sh I L R).set o (G.1 + o, .inr (ci, ((List.range n).map (fun j => zfv G I R ci o j)).set j (.ref (G.1 + v)))) = zw G sh I L (zupR R o j (some v)) := zw_set ho (by rw [zcell_o hci, zob_setR hk]; rfl) (fun a u ha => zcell_upR u ha)
  rw [e5] at hP1
  exact kk G p l e Rm s m args below meth c H1 locs1 cells slots Qf arr F ⟨hP1, hS1, S.2.2⟩ hl kend
/-! arrays -/
theorem z_iald (nx : Nat) {a n : Nat} {i : Int} (hd : decode (zmc M) pc = .ok (.iaload, 1)) (ha : sh[a]? = some (20, n)) (hi : 0 ≤ i ∧ i < (n : Int) ∧ i ≤ 2147483647) (hn : pc + 1 = nx) (kk : zE X M k w nx ls (zI (I a i.toNat) :: st) sh I L R Q) : zE X M k w pc ls (zI i :: zR a :: st) sh I L R Q := by
  subst hn
  intro G p l e Rm s m args below meth c H locs cells slots Qf arr F S hl kend
  have hcl : (Int32.ofInt i).toNatClampNeg = i.toNat := zn_clamp hi.1 hi.2.2
  refine va_iald F.1 F.2.1 F.2.2.2.2.2.1.1 S.1 a 0 (zw_iI ha) rfl (zn_in hi) hd ?_
  rw [hcl]
  exact kk G p l e Rm s m args below meth c H locs cells slots Qf arr F S hl kend
theorem z_lald (nx : Nat) {a n : Nat} {i : Int} (hd : decode (zmc M) pc = .ok (.laload, 1)) (ha : sh[a]? = some (21, n)) (hi : 0 ≤ i ∧ i < (n : Int) ∧ i ≤ 2147483647) (hn : pc + 1 = nx) (kk : zE X M k w nx ls (zL (L a i.toNat) :: st) sh I L R Q) : zE X M k w pc ls (zI i :: zR a :: st) sh I L R Q := by
  subst hn
  intro G p l e Rm s m args below meth c H locs cells slots Qf arr F S hl kend
  have hcl : (Int32.ofInt i).toNatClampNeg = i.toNat := zn_clamp hi.1 hi.2.2
  refine va_lald F.1 F.2.1 F.2.2.2.2.2.1.1 S.1 a 1 (zw_iL ha) rfl (zn_in hi) hd ?_
  rw [hcl]
  exact kk G p l e Rm s m args below meth c H locs cells slots Qf arr F S hl kend
theorem z_aald (nx : Nat) {a n q : Nat} {i : Int} (hd : decode (zmc M) pc = .ok (.aaload, 1)) (ha : sh[a]? = some (22, n)) (hi : 0 ≤ i ∧ i < (n : Int) ∧ i ≤ 2147483647) (hq : R a i.toNat = some q) (hn : pc + 1 = nx) (kk : zE X M k w nx ls (zR q :: st) sh I L R Q) : zE X M k w pc ls (zI i :: zR a :: st) sh I L R Q := by
  subst hn
  intro G p l e Rm s m args below meth c H locs cells slots Qf arr F S hl kend
  have hcl : (Int32.ofInt i).toNatClampNeg = i.toNat := zn_clamp hi.1 hi.2.2
  refine va_aldq F.1 F.2.1 F.2.2.2.2.2.1.1 S.1 a 2 (zw_iR ha) rfl (zn_in hi) hd ?_
  rw [hcl, hq]
  exact kk G p l e Rm s m args below meth c H locs cells slots Qf arr F S hl kend
theorem z_aald3 (nx : Nat) {a n q : Nat} {i : Int} (hd : decode (zmc M) pc = .ok (.aaload, 1)) (ha : sh[a]? = some (23, n)) (hi : 0 ≤ i ∧ i < (n : Int) ∧ i ≤ 2147483647) (hq : R a i.toNat = some q) (hn : pc + 1 = nx) (kk : zE X M k w nx ls (zR q :: st) sh I L R Q) : zE X M k w pc ls (zI i :: zR a :: st) sh I L R Q := by
  subst hn
  intro G p l e Rm s m args below meth c H locs cells slots Qf arr F S hl kend
  have hcl : (Int32.ofInt i).toNatClampNeg = i.toNat := zn_clamp hi.1 hi.2.2
  refine va_aldq F.1 F.2.1 F.2.2.2.2.2.1.1 S.1 a 3 (zw_iR3 ha) rfl (zn_in hi) hd ?_
  rw [hcl, hq]
  exact kk G p l e Rm s m args below meth c H locs cells slots Qf arr F S hl kend
theorem z_iast (nx : Nat) {a n : Nat} {i v : Int} (hd : decode (zmc M) pc = .ok (.iastore, 1)) (ha : sh[a]? = some (20, n)) (hi : 0 ≤ i ∧ i < (n : Int) ∧ i ≤ 2147483647) (hn : pc + 1 = nx) (kk : zE X M k w nx ls st sh (zup I a i.toNat v) L R Q) : zE X M k w pc ls (zI v :: zI i :: zR a :: st) sh I L R Q := by
  subst hn
  intro G p l e Rm s m args below meth c H locs cells slots Qf arr F S hl kend
  have hcl : (Int32.ofInt i).toNatClampNeg = i.toNat := zn_clamp hi.1 hi.2.2
  refine va_iast F.1 F.2.1 F.2.2.2.2.2.1.1 S.1 zw_D S.2.1 a 0 (zw_iI ha) rfl (zn_in hi) hd (fun H1 locs1 hP1 hD1 hS1 => ?_)
  rw [hcl] at hP1
  have e5 : (zw G sh I L R).set a (G.1 + a, .inl (G.2.2.2.2.2 0, n, .inl (upd (fun j => Int32.ofInt (I a j)) i.toNat (Int32.ofInt v)))) = zw G sh (zup I a i.toNat v) L R := zw_set ha (by
    show _ = zaI G _ a n
    unfold zaI
    congr 3
    congr 1
    funext j
    by_cases hj : j = i.toNat <;> simp [upd, zup, hj]) (fun b u hb => zcell_up u hb)
  rw [e5] at hP1
  exact kk G p l e Rm s m args below meth c H1 locs1 cells slots Qf arr F ⟨hP1, hS1, S.2.2⟩ hl kend
theorem z_last (nx : Nat) {a n : Nat} {i v : Int} (hd : decode (zmc M) pc = .ok (.lastore, 1)) (ha : sh[a]? = some (21, n)) (hi : 0 ≤ i ∧ i < (n : Int) ∧ i ≤ 2147483647) (hn : pc + 1 = nx) (kk : zE X M k w nx ls st sh I (zup L a i.toNat v) R Q) : zE X M k w pc ls (zL v :: zI i :: zR a :: st) sh I L R Q := by
  subst hn
  intro G p l e Rm s m args below meth c H locs cells slots Qf arr F S hl kend
  have hcl : (Int32.ofInt i).toNatClampNeg = i.toNat := zn_clamp hi.1 hi.2.2
  refine va_last F.1 F.2.1 F.2.2.2.2.2.1.1 S.1 zw_D S.2.1 a 1 (zw_iL ha) rfl (zn_in hi) hd (fun H1 locs1 hP1 hD1 hS1 => ?_)
  rw [hcl] at hP1
  have e5 : (zw G sh I L R).set a (G.1 + a, .inl (G.2.2.2.2.2 1, n, .inr (.inl (vp_updL (fun j => Int64.ofInt (L a j)) i.toNat (Int64.ofInt v))))) = zw G sh I (zup L a i.toNat v) R := zw_set ha (by
    show _ = zaL G _ a n
    unfold zaL
    congr 4
    congr 1
    funext j
    by_cases hj : j = i.toNat <;> simp [vp_updL, zup, hj]) (fun b u hb => zcell_upL u hb)
  rw [e5] at hP1
  exact kk G p l e Rm s m args below meth c H1 locs1 cells slots Qf arr F ⟨hP1, hS1, S.2.2⟩ hl kend
theorem z_aast (nx : Nat) {a n v : Nat} {i : Int} (hd : decode (zmc M) pc = .ok (.aastore, 1)) (ha : sh[a]? = some (22, n)) (hv : sh[v]? = some (4, 9)) (hi : 0 ≤ i ∧ i < (n : Int) ∧ i ≤ 2147483647) (hn : pc + 1 = nx) (kk : zE X M k w nx ls st sh I L (zupR R a i.toNat (some v)) Q) : zE X M k w pc ls (zR v :: zI i :: zR a :: st) sh I L R Q := by
  subst hn
  intro G p l e Rm s m args below meth c H locs cells slots Qf arr F S hl kend
  have hcl : (Int32.ofInt i).toNatClampNeg = i.toNat := zn_clamp hi.1 hi.2.2
  refine va_astq F.1 F.2.1 F.2.2.2.2.2.1.1 S.1 zw_D S.2.1 a 2 v 4 (r := (RX4, TX4, 9)) (zw_iR ha) rfl (zw_io (by decide) hv) rfl (zn_in hi) hd (fun H1 locs1 hP1 hD1 hS1 => ?_)
  rw [hcl] at hP1
  have e5 : (zw G sh I L R).set a (G.1 + a, .inl (G.2.2.2.2.2 2, n, .inr (.inr (.inr (.inr (va_up (fun j => (R a j).map (G.1 + ·)) i.toNat (some (G.1 + v)))))))) = zw G sh I L (zupR R a i.toNat (some v)) := zw_set ha (by
    show _ = zaR G _ 2 a n
    unfold zaR
    congr 7
    funext j
    by_cases hj : j = i.toNat <;> simp [va_up, zupR, hj]) (fun b u hb => zcell_upR u hb)
  rw [e5] at hP1
  exact kk G p l e Rm s m args below meth c H1 locs1 cells slots Qf arr F ⟨hP1, hS1, S.2.2⟩ hl kend
theorem z_aast3 (nx : Nat) {a n v : Nat} {i : Int} (hd : decode (zmc M) pc = .ok (.aastore, 1)) (ha : sh[a]? = some (23, n)) (hv : sh[v]? = some (3, 3)) (hi : 0 ≤ i ∧ i < (n : Int) ∧ i ≤ 2147483647) (hn : pc + 1 = nx) (kk : zE X M k w nx ls st sh I L (zupR R a i.toNat (some v)) Q) : zE X M k w pc ls (zR v :: zI i :: zR a :: st) sh I L R Q := by
  subst hn
  intro G p l e Rm s m args below meth c H locs cells slots Qf arr F S hl kend
  have hcl : (Int32.ofInt i).toNatClampNeg = i.toNat := zn_clamp hi.1 hi.2.2
  refine va_astq F.1 F.2.1 F.2.2.2.2.2.1.1 S.1 zw_D S.2.1 a 3 v 3 (r := (RX3, TX3, 3)) (zw_iR3 ha) rfl (zw_io (by decide) hv) rfl (zn_in hi) hd (fun H1 locs1 hP1 hD1 hS1 => ?_)
  rw [hcl] at hP1
  have e5 : (zw G sh I L R).set a (G.1 + a, .inl (G.2.2.2.2.2 3, n, .inr (.inr (.inr (.inr (va_up (fun j => (R a j).map (G.1 + ·)) i.toNat (some (G.1 + v)))))))) = zw G sh I L (zupR R a i.toNat (some v)) := zw_set ha (by
    show _ = zaR G _ 3 a n
    unfold zaR
    congr 7
    funext j
    by_cases hj : j = i.toNat <;> simp [va_up, zupR, hj]) (fun b u hb => zcell_upR u hb)
  rw [e5] at hP1
  exact kk G p l e Rm s m args below meth c H1 locs1 cells slots Qf arr F ⟨hP1, hS1, S.2.2⟩ hl kend
theorem z_alen (nx : Nat) {a t n : Nat} (hd : decode (zmc M) pc = .ok (.arraylength, 1)) (ha : sh[a]? = some (t, n)) (ht : t = 20 ∨ t = 21 ∨ t = 22 ∨ t = 23) (hn : pc + 1 = nx) (kk : zE X M k w nx ls (zI (n : Int) :: st) sh I L R Q) : zE X M k w pc ls (zR a :: st) sh I L R Q := by
  subst hn
  intro G p l e Rm s m args below meth c H locs cells slots Qf arr F S hl kend
  have key := kk G p l e Rm s m args below meth c H locs cells slots Qf arr F S hl kend
  have hv : Int32.ofNat n = Int32.ofInt (n : Int) := rfl
  rcases ht with h | h | h | h <;> subst h
  · exact va_alen F.1 F.2.1 F.2.2.2.2.2.1.1 S.1 a 0 (zw_iI ha) (ty := .int) rfl hv hd key
  · exact va_alen F.1 F.2.1 F.2.2.2.2.2.1.1 S.1 a 1 (zw_iL ha) (ty := .long) rfl hv hd key
  · exact va_alen F.1 F.2.1 F.2.2.2.2.2.1.1 S.1 a 2 (zw_iR ha) (ty := .object "HelterSlide$Slide") rfl hv hd key
  · exact va_alen F.1 F.2.1 F.2.2.2.2.2.1.1 S.1 a 3 (zw_iR3 ha) (ty := .object "HelterSlide$Sheet") rfl hv hd key
/-- the script -/
theorem z_sld (nx : Nat) {i : Int} (hd : decode (zmc M) pc = .ok (.iaload, 1)) (hi : 0 ≤ i ∧ i < (X.1 : Int) ∧ i ≤ 2147483647) (hn : pc + 1 = nx) (kk : zE X M k w nx ls (zI (X.2 i.toNat) :: st) sh I L R Q) : zE X M k w pc ls (zI i :: zS :: st) sh I L R Q := by
  subst hn
  intro G p l e Rm s m args below meth c H locs cells slots Qf arr F S hl kend
  have hcl : (Int32.ofInt i).toNatClampNeg = i.toNat := zn_clamp hi.1 hi.2.2
  obtain ⟨_, _, _, _, _, _, _, _, _, hz, hX, hb, hL, hx⟩ := id F
  refine va_sld F.1 F.2.1 hX (by omega) (by omega) S.2.1 (by rw [hL]; exact zn_in hi) hd ?_
  rw [hcl, hx _ (by omega)]
  exact kk G p l e Rm s m args below meth c H locs cells slots Qf arr F S hl kend
theorem z_slen (nx : Nat) (hd : decode (zmc M) pc = .ok (.arraylength, 1)) (hn : pc + 1 = nx) (kk : zE X M k w nx ls (zI (X.1 : Int) :: st) sh I L R Q) : zE X M k w pc ls (zS :: st) sh I L R Q := by
  subst hn
  intro G p l e Rm s m args below meth c H locs cells slots Qf arr F S hl kend
  obtain ⟨_, _, _, _, _, _, _, _, _, hz, hX, hb, hL, hx⟩ := id F
  refine va_slen F.1 F.2.1 hX (by omega) (by omega) S.2.1 hd ?_
  rw [hL]
  exact kk G p l e Rm s m args below meth c H locs cells slots Qf arr F S hl kend
end ZHEAP
