/-! ===== memory: shapes (kind, size) of our cells; what ints, longs, references they hold ===== -/
abbrev zH : Type := List (Nat × Nat)
abbrev zI2 : Type := Nat → Nat → Int
abbrev zR2 : Type := Nat → Nat → Option Nat
def zup (I : zI2) (k j : Nat) (v : Int) : zI2 := fun a b => if a = k ∧ b = j then v else I a b
def zupR (R : zR2) (k j : Nat) (v : Option Nat) : zR2 := fun a b => if a = k ∧ b = j then v else R a b
def zrow (I : zI2) (k : Nat) (f : Nat → Int) : zI2 := fun a b => if a = k then f b else I a b
def zrowR (R : zR2) (k : Nat) (f : Nat → Option Nat) : zR2 := fun a b => if a = k then f b else R a b
def zty : Nat → Nat → FieldType := fun ci => match ci with
  | 0 => tyX0
  | 1 => tyX1
  | 2 => tyX2
  | 3 => tyX3
  | 4 => tyX4
  | 5 => tyX5
  | 6 => tyX6
  | _ => tyX7
def zfk (ci j : Nat) : Bool := match zty ci j with
  | .object _ => true
  | .array _ => true
  | _ => false
def zfv (G : zG) (I : zI2) (R : zR2) (ci k j : Nat) : Value := if zfk ci j = true then va_rf ((R k j).map (G.1 + ·)) else .int (Int32.ofInt (I k j))
def zaI (G : zG) (I : zI2) (k n : Nat) : va_E := .inl (G.2.2.2.2.2 0, n, .inl (fun j => Int32.ofInt (I k j)))
def zaL (G : zG) (L : zI2) (k n : Nat) : va_E := .inl (G.2.2.2.2.2 1, n, .inr (.inl (fun j => Int64.ofInt (L k j))))
def zaR (G : zG) (R : zR2) (c k n : Nat) : va_E := .inl (G.2.2.2.2.2 c, n, .inr (.inr (.inr (.inr (fun j => (R k j).map (G.1 + ·))))))
def zob (G : zG) (I : zI2) (R : zR2) (ci k n : Nat) : va_E := .inr (ci, (List.range n).map (fun j => zfv G I R ci k j))
def zcell (G : zG) (I L : zI2) (R : zR2) (k : Nat) (t : Nat × Nat) : va_E :=
  if t.1 = 20 then zaI G I k t.2 else if t.1 = 21 then zaL G L k t.2 else if t.1 = 22 then zaR G R 2 k t.2 else if t.1 = 23 then zaR G R 3 k t.2 else zob G I R t.1 k t.2
def zw (G : zG) (sh : zH) (I L : zI2) (R : zR2) : va_W := sh.mapIdx fun k t => (G.1 + k, zcell G I L R k t)
theorem zw_get {G : zG} {sh : zH} {I L : zI2} {R : zR2} {k : Nat} {t : Nat × Nat} (h : sh[k]? = some t) : (zw G sh I L R)[k]? = some (G.1 + k, zcell G I L R k t) := by
  simp [zw, List.getElem?_mapIdx, h]
theorem zw_of {G : zG} {sh : zH} {I L : zI2} {R : zR2} {k : Nat} {q : Nat × va_E} (h : (zw G sh I L R)[k]? = some q) : ∃ t, sh[k]? = some t ∧ q = (G.1 + k, zcell G I L R k t) := by
  simp only [zw, List.getElem?_mapIdx, Option.map_eq_some_iff] at h
  obtain ⟨t, h1, h2⟩ := h
  exact ⟨t, h1, h2.symm⟩
theorem zw_iI {G : zG} {sh : zH} {I L : zI2} {R : zR2} {k n : Nat} (h : sh[k]? = some (20, n)) : (zw G sh I L R)[k]? = some (G.1 + k, zaI G I k n) := zw_get h
theorem zw_iL {G : zG} {sh : zH} {I L : zI2} {R : zR2} {k n : Nat} (h : sh[k]? = some (21, n)) : (zw G sh I L R)[k]? = some (G.1 + k, zaL G L k n) := zw_get h
theorem zw_iR {G : zG} {sh : zH} {I L : zI2} {R : zR2} {k n : Nat} (h : sh[k]? = some (22, n)) : (zw G sh I L R)[k]? = some (G.1 + k, zaR G R 2 k n) := zw_get h
theorem zw_iR3 {G : zG} {sh : zH} {I L : zI2} {R : zR2} {k n : Nat} (h : sh[k]? = some (23, n)) : (zw G sh I L R)[k]? = some (G.1 + k, zaR G R 3 k n) := zw_get h
theorem zcell_o {G : zG} {I L : zI2} {R : zR2} {k ci n : Nat} (hc : ci < 20) : zcell G I L R k (ci, n) = zob G I R ci k n := by
  have h0 : ¬ ci = 20 := by omega
  have h1 : ¬ ci = 21 := by omega
  have h2 : ¬ ci = 22 := by omega
  have h3 : ¬ ci = 23 := by omega
  simp [zcell, h0, h1, h2, h3]
theorem zw_io {G : zG} {sh : zH} {I L : zI2} {R : zR2} {k ci n : Nat} (hc : ci < 20) (h : sh[k]? = some (ci, n)) : (zw G sh I L R)[k]? = some (G.1 + k, zob G I R ci k n) := by
  rw [zw_get h, zcell_o hc]
theorem zw_set {G : zG} {sh : zH} {I L I' L' : zI2} {R R' : zR2} {k : Nat} {t : Nat × Nat} {e : va_E} (h : sh[k]? = some t) (he : e = zcell G I' L' R' k t) (ho : ∀ (a : Nat) (u : Nat × Nat), a ≠ k → zcell G I' L' R' a u = zcell G I L R a u) : (zw G sh I L R).set k (G.1 + k, e) = zw G sh I' L' R' := by
  apply List.ext_getElem?
  intro a
  have hk : k < (zw G sh I L R).length := by
    have := (List.getElem?_eq_some_iff.mp (zw_get (G := G) (I := I) (L := L) (R := R) h)).1
    exact this
  by_cases ha : a = k
  · subst ha
    rw [List.getElem?_set_self hk, zw_get h, he]
  · rw [List.getElem?_set_ne (Ne.symm ha)]
    cases hs : sh[a]? with
    | none => simp [zw, List.getElem?_mapIdx, hs]
    | some u => rw [zw_get hs, zw_get hs, ho a u ha]
theorem zw_push {G : zG} {sh : zH} {I L I' L' : zI2} {R R' : zR2} {t : Nat × Nat} {e : va_E} (he : e = zcell G I' L' R' sh.length t) (ho : ∀ (a : Nat) (u : Nat × Nat), a < sh.length → zcell G I' L' R' a u = zcell G I L R a u) : zw G sh I L R ++ [(G.1 + sh.length, e)] = zw G (sh ++ [t]) I' L' R' := by
  have hlen : (zw G sh I L R).length = sh.length := by simp [zw]
  apply List.ext_getElem?
  intro a
  by_cases ha : a < sh.length
  · rw [List.getElem?_append_left (by omega)]
    have h1 : sh[a]? = some sh[a] := List.getElem?_eq_getElem ha
    have h2 : (sh ++ [t])[a]? = some sh[a] := by rw [List.getElem?_append_left ha, h1]
    rw [zw_get h1, zw_get h2, ho a _ ha]
  · by_cases hb : a = sh.length
    · subst hb
      rw [List.getElem?_append_right (by omega), hlen, Nat.sub_self]
      have h2 : (sh ++ [t])[sh.length]? = some t := by simp
      rw [zw_get h2, he]
      rfl
    · rw [List.getElem?_eq_none (by simp [hlen]; omega), List.getElem?_eq_none (by simp [zw]; omega)]
theorem zw_D {G : zG} {sh : zH} {I L : zI2} {R : zR2} : va_D (fun q => G.1 ≤ q) (zw G sh I L R) := by
  refine ⟨fun i j p q hi hj hpq => ?_, fun k q hk => ?_⟩
  · obtain ⟨t, -, rfl⟩ := zw_of hi
    obtain ⟨u, -, rfl⟩ := zw_of hj
    have : G.1 + i = G.1 + j := hpq
    omega
  · obtain ⟨t, -, rfl⟩ := zw_of hk
    exact Nat.le_add_right _ _
theorem zcell_up {G : zG} {I L : zI2} {R : zR2} {k j : Nat} {v : Int} {a : Nat} (u : Nat × Nat) (ha : a ≠ k) : zcell G (zup I k j v) L R a u = zcell G I L R a u := by
  have h : ∀ b, zup I k j v a b = I a b := fun b => by simp [zup, ha]
  simp only [zcell, zaI, zob, zfv, h]
theorem zcell_upL {G : zG} {I L : zI2} {R : zR2} {k j : Nat} {v : Int} {a : Nat} (u : Nat × Nat) (ha : a ≠ k) : zcell G I (zup L k j v) R a u = zcell G I L R a u := by
  have h : ∀ b, zup L k j v a b = L a b := fun b => by simp [zup, ha]
  simp only [zcell, zaL, h]
theorem zcell_upR {G : zG} {I L : zI2} {R : zR2} {k j : Nat} {v : Option Nat} {a : Nat} (u : Nat × Nat) (ha : a ≠ k) : zcell G I L (zupR R k j v) a u = zcell G I L R a u := by
  have h : ∀ b, zupR R k j v a b = R a b := fun b => by simp [zupR, ha]
  simp only [zcell, zaR, zob, zfv, h]
theorem zcell_row {G : zG} {I L : zI2} {R : zR2} {k : Nat} {f : Nat → Int} {a : Nat} (u : Nat × Nat) (ha : a ≠ k) : zcell G (zrow I k f) L R a u = zcell G I L R a u := by
  have h : ∀ b, zrow I k f a b = I a b := fun b => by simp [zrow, ha]
  simp only [zcell, zaI, zob, zfv, h]
theorem zcell_rowL {G : zG} {I L : zI2} {R : zR2} {k : Nat} {f : Nat → Int} {a : Nat} (u : Nat × Nat) (ha : a ≠ k) : zcell G I (zrow L k f) R a u = zcell G I L R a u := by
  have h : ∀ b, zrow L k f a b = L a b := fun b => by simp [zrow, ha]
  simp only [zcell, zaL, h]
theorem zcell_rowR {G : zG} {I L : zI2} {R : zR2} {k : Nat} {f : Nat → Option Nat} {a : Nat} (u : Nat × Nat) (ha : a ≠ k) : zcell G I L (zrowR R k f) a u = zcell G I L R a u := by
  have h : ∀ b, zrowR R k f a b = R a b := fun b => by simp [zrowR, ha]
  simp only [zcell, zaR, zob, zfv, h]
/-! ===== what stays in every frame ===== -/
def zgood : List Cond := lw_tbl.filter goodWord
theorem zgood_ok : ∀ w ∈ zgood, goodWord w = true := fun _ h => (List.mem_filter.mp h).2
theorem zgood_GI {ws : List Cond} (h : ∀ w ∈ ws, w ∈ zgood) : GoodIn zgood ws := fun w hw => ⟨h w hw, good_of_word (zgood_ok w (h w hw))⟩
def ztys (G : zG) : List (ClassId × FieldType) := [(G.2.2.2.2.2 0, .int), (G.2.2.2.2.2 1, .long), (G.2.2.2.2.2 2, .object "HelterSlide$Slide"), (G.2.2.2.2.2 3, .object "HelterSlide$Sheet")]
def znest : List (String × Nat × MethodName × String) := tables_1.filterMap fun w => match w with
  | .methodLinkNest a i y h => some (a, i, y, h)
  | _ => none
def zCx (G : zG) (U : State) : Prop := va_K G.2.2.2.2.1 vwCl (ztys G) U ∧ (∀ q ∈ znest, va_Nw (.methodLinkNest q.1 q.2.1 q.2.2.1 q.2.2.2) U) ∧ va_AO "HelterSlide$Slide" U ∧ va_AO "HelterSlide$Sheet" U
theorem zCx.warm {G : zG} {s U : State} (hW : s.WarmedH U.vm) (h : zCx G s) : zCx G U := ⟨va_K.moved hW.alike h.1, fun q hq => va_Nw.warmM hW (h.2.1 q hq), va_AO.moved hW.alike h.2.2.1, va_AO.moved hW.alike h.2.2.2⟩
theorem zCx.call {G : zG} {U : State} (h : zCx G U) (g : JFrame) (mk : MethodId) (a : Array Value) : zCx G (U.calling g mk a) := ⟨va_K.moved (u := U) (U := U.calling g mk a) (Vm.Alike.refl U.vm) h.1, fun q hq => va_Nw.same (u := U) rfl rfl (h.2.1 q hq), va_AO.moved (u := U) (U := U.calling g mk a) (Vm.Alike.refl U.vm) h.2.2.1, va_AO.moved (u := U) (U := U.calling g mk a) (Vm.Alike.refl U.vm) h.2.2.2⟩
/-- a method: its class, its name, its code, how many locals, what it answers, how many frames and words its calls need -/
abbrev zM : Type := String × MethodName × ByteArray × Nat × Option FieldType × Nat × Nat
abbrev zmo (M : zM) : String := M.1
abbrev zmy (M : zM) : MethodName := M.2.1
abbrev zmc (M : zM) : ByteArray := M.2.2.1
abbrev zml (M : zM) : Nat := M.2.2.2.1
abbrev zmr (M : zM) : Option FieldType := M.2.2.2.2.1
abbrev zmf (M : zM) : Nat := M.2.2.2.2.2.1
abbrev zmw (M : zM) : Nat := M.2.2.2.2.2.2
/-- the script: its length, its ints -/
abbrev zXs : Type := Nat × (Nat → Int)
def zFr (X : zXs) (M : zM) (G : zG) (p : Program) (Rm : Room) (s : State) (m : MethodId) (args : Array Value) (meth : Method) (c : Code) : Prop :=
  p.tables.exec = Jvm.exec ∧ c.code = zmc M ∧ c.maxLocals = zml M ∧ s.vm.findClass (zmo M) = some m.cls ∧ (∀ w ∈ zgood, w.before args s = true) ∧ zCx G s ∧ zmf M ≤ Rm.frames ∧ zmw M ≤ Rm.locals ∧ meth.name = (zmy M).name ∧ G.1 ≤ s.heap.size ∧ va_X G.2.1 G.2.2.1 G.2.2.2.1 s s.heap ∧ G.2.1 < G.1 ∧ G.2.2.1 = X.1 ∧ ∀ j : Nat, j < X.1 → G.2.2.2.1 j = Int32.ofInt (X.2 j)
def zSt (G : zG) (Rm : Room) (s : State) (H : Heap) (locs : List Loc) (cells slots k w : Nat) (sh : zH) (I L : zI2) (R : zR2) : Prop :=
  va_P G.2.2.2.2.1 vwCl (zw G sh I L R) H ∧ va_S (fun q => G.1 ≤ q) s.heap H locs ∧ s.heap.size + cells = G.1 + sh.length ∧ cells + k = Rm.cells ∧ slots + w ≤ Rm.slots
/-- a returning instruction at pc, for the answer r -/
def zRt (M : zM) (pc : Nat) (r : List zV) : Prop :=
  (∃ x ty, r = [zI x] ∧ zmr M = some ty ∧ narrow ty (.int (Int32.ofInt x)) = .int (Int32.ofInt x) ∧ decode (zmc M) pc = .ok (.ireturn, 1)) ∨ (∃ x, r = [zL x] ∧ zmr M = some .long ∧ decode (zmc M) pc = .ok (.lreturn, 1)) ∨ (r = [] ∧ zmr M = none ∧ decode (zmc M) pc = .ok (.return_, 1))
abbrev zQ : Type := List zV → zH → zI2 → zI2 → zR2 → Prop
/-- from pc on, with these locals, this stack and this memory, the method comes to its end with an answer and a memory of Q -/
def zE (X : zXs) (M : zM) (k w pc : Nat) (ls st : List zV) (sh : zH) (I L : zI2) (R : zR2) (Q : zQ) : Prop :=
  ∀ (G : zG) (p : Program) (l : Launch) (e : Env) (Rm : Room) (s : State) (m : MethodId) (args : Array Value) (below : List Frame) (meth : Method) (c : Code) (H : Heap) (locs : List Loc) (cells slots : Nat) (Qf : State → Prop) (arr : Array Slot),
    zFr X M G p Rm s m args meth c → zSt G Rm s H locs cells slots k w sh I L R → lv_has arr (zml M) (zlp G 0 ls) →
    (∀ (r : List zV) (sh' : zH) (I' L' : zI2) (R' : zR2) (H' : Heap) (locs' : List Loc) (cells' slots' w' pc' : Nat) (arr' : Array Slot), Q r sh' I' L' R' → zRt M pc' r → zSt G Rm s H' locs' cells' slots' 0 w' sh' I' L' R' →
      W p l e Rm s m args below meth c H' locs' cells' slots' Qf (F0 m pc' arr' (r.map (zc G)))) →
    W p l e Rm s m args below meth c H locs cells slots Qf (F0 m pc arr (st.map (zc G)))
/-- the answer and the memory are just these -/
def zEq (r : List zV) (sh : zH) (I L : zI2) (R : zR2) : zQ := fun r' sh' I' L' R' => r' = r ∧ sh' = sh ∧ I' = I ∧ L' = L ∧ R' = R
/-- an instruction that touches locals and stack alone -/
theorem zE_step {X : zXs} {M : zM} {k w pc nx : Nat} {ls st ls' st' : List zV} {sh : zH} {I L : zI2} {R : zR2} {Q : zQ}
    (h : ∀ (G : zG) (p : Program) (l : Launch) (e : Env) (Rm : Room) (s : State) (m : MethodId) (args : Array Value) (below : List Frame) (meth : Method) (c : Code) (H : Heap) (locs : List Loc) (cells slots : Nat) (Qf : State → Prop) (arr : Array Slot),
      zFr X M G p Rm s m args meth c → lv_has arr (zml M) (zlp G 0 ls) → (∀ arr', lv_has arr' (zml M) (zlp G 0 ls') → W p l e Rm s m args below meth c H locs cells slots Qf (F0 m nx arr' (st'.map (zc G)))) → W p l e Rm s m args below meth c H locs cells slots Qf (F0 m pc arr (st.map (zc G))))
    (kk : zE X M k w nx ls' st' sh I L R Q) : zE X M k w pc ls st sh I L R Q := by
  intro G p l e Rm s m args below meth c H locs cells slots Qf arr F S hl kend
  exact h G p l e Rm s m args below meth c H locs cells slots Qf arr F hl (fun arr' hl' => kk G p l e Rm s m args below meth c H locs cells slots Qf arr' F S hl' kend)
