section ZCALL
variable {X : zXs} {M M' : zM} {k w k' w' pc : Nat} {ls st : List zV} {sh : zH} {I L : zI2} {R : zR2} {Q Q' : zQ}
theorem z_cont {nx : Nat} {G : zG} {p : Program} {l : Launch} {e : Env} {Rm : Room} {s : State} {m : MethodId} {args : Array Value} {below : List Frame} {meth : Method} {c : Code} {H : Heap} {locs : List Loc} {cells slots : Nat} {Qf : State → Prop} {arr : Array Slot} {st0 : List Value} {rest : List zV} {a : Array Value}
    (F : zFr X M G p Rm s m args meth c) (S : zSt G Rm s H locs cells slots (k + k') (w + w') sh I L R) (hl : lv_has arr (zml M) (zlp G 0 ls)) (hsz : H.size = G.1 + sh.length) (hn : pc + 3 = nx)
    (hr : va_Run p l e Rm s m args below meth c H locs cells slots k' w' (F0 m pc arr st0) (rest.map (zc G)) (zQc G k' Q' a) (fun q => G.1 ≤ q))
    (kk : ∀ (r : List zV) (sh' : zH) (I' L' : zI2) (R' : zR2), Q' r sh' I' L' R' → zE X M k w nx ls (r ++ rest) sh' I' L' R' Q)
    (kend : ∀ (r : List zV) (sh' : zH) (I' L' : zI2) (R' : zR2) (H' : Heap) (locs' : List Loc) (cells' slots' w' pc' : Nat) (arr' : Array Slot), Q r sh' I' L' R' → zRt M pc' r → zSt G Rm s H' locs' cells' slots' 0 w' sh' I' L' R' → W p l e Rm s m args below meth c H' locs' cells' slots' Qf (F0 m pc' arr' (r.map (zc G)))) :
    W p l e Rm s m args below meth c H locs cells slots Qf (F0 m pc arr st0) := by
  subst hn
  intro T hT Xs
  obtain ⟨v, st₀, t, T', Lc, h0, X', hL, e1, e2, ⟨r, sh', I', L', R', hq, ho, hP, hz, hF⟩, st5⟩ := hr T hT Xs
  have h9 := S.2.2
  rw [h0] at hz
  have hF1 := hF.1
  have hF2 := hF.2
  rw [h0] at hF1 hF2
  have S' : zSt G Rm s T'.heap (locs ++ Lc) (cells + k') (slots + w') k w sh' I' L' R' := by
    refine ⟨by rw [e1]; exact hP, ⟨Nat.le_trans S.2.1.1 (by rw [e1]; exact hF1), fun q g1 g2 => ?_, fun q hq2 => ?_⟩, by omega, by omega, by omega⟩
    · rw [e1, hF2 q (Nat.lt_of_lt_of_le g1 S.2.1.1) g2]
      exact S.2.1.2.1 q g1 g2
    · rcases List.mem_append.mp hq2 with h | h
      · exact S.2.1.2.2 q h
      · exact hL q h
  have K := kk r sh' I' L' R' hq G p l e Rm s m args below meth c T'.heap (locs ++ Lc) (cells + k') (slots + w') Qf arr F S' hl kend
  have hv : v.toList ++ rest.map (zc G) = (r ++ rest).map (zc G) := by
    rcases ho with ⟨rfl, ho⟩ | ⟨x, rfl, ho⟩
    · cases ho
      rfl
    · cases ho
      rfl
  obtain ⟨t2, a1, b1⟩ := K T' rfl X'
  rw [← hv] at a1
  exact ⟨t2, st5 t2 a1, b1⟩
theorem z_PcAt {G : zG} {p : Program} {Rm : Room} {s : State} {m : MethodId} {args : Array Value} {meth : Method} {c : Code} {H : Heap} {locs : List Loc} {cells slots : Nat} {av : List zV} (F : zFr X M G p Rm s m args meth c) (S : zSt G Rm s H locs cells slots k w sh I L R) (hsz : H.size = G.1 + sh.length) :
    ∀ U : State, U.heap = H → s.WarmedH U.vm → zPc X G av sh I L R (av.map (zc G)).toArray U := by
  intro U hU hW
  obtain ⟨_, _, _, _, _, hC, _, _, _, hz, hX, hb, hx1, hx2⟩ := F
  refine ⟨rfl, hC.warm hW, by rw [hU]; exact S.1, by rw [hU]; exact hsz, ?_, hb, hx1, hx2⟩
  rw [hU]
  exact (va_X.moved hW.alike hX).kept (S.2.1.2.1 _ (by omega) (by omega))
theorem z_cwB {G : zG} {p : Program} {Rm : Room} {s : State} {m : MethodId} {args : Array Value} {meth : Method} {c : Code} {idx n : Nat} (F : zFr X M G p Rm s m args meth c) (hM : zMok M') (hR : zMin M M' n) (hlk : Jvm.Cond.methodLink (zmo M) idx (zmy M') ∈ zgood) : CallB Rm s args (zmo M) idx (zmy M') (zmc M') (zml M') (zmr M') (zws M') (zrm M' k' w') k' w' n := by
  have h1 := F.2.2.2.2.2.2.1
  have h2 := F.2.2.2.2.2.2.2.1
  refine callB_of (ws' := zgood) n F.2.2.2.2.1 (fun w hw => ?_) rfl rfl rfl (by rw [← hM.2.2.1]; exact F.2.2.2.2.1 _ hM.2.1) (F.2.2.2.2.1 _ hlk) ⟨hM.2.2.2.2.1, hM.2.2.2.2.2, hR.2⟩ ⟨Nat.le_trans hR.1.1 h1, Nat.le_trans hR.1.2 h2⟩
  have hw2 : w ∈ zgood := by
    rcases List.mem_cons.mp hw with h | h
    · rw [h]; exact hM.1
    · exact h
  exact zgood_GI (fun w h => h) w hw2
theorem z_cnB {G : zG} {p : Program} {Rm : Room} {s : State} {m : MethodId} {args : Array Value} {meth : Method} {c : Code} {idx n : Nat} {host : String} (F : zFr X M G p Rm s m args meth c) (hM : zMok M') (hR : zMin M M' n) (hlk : (zmo M, idx, zmy M', host) ∈ znest) : va_CN Rm s args (zmo M) idx (zmy M') host (zmc M') (zml M') (zmr M') (zws M') (zrm M' k' w') k' w' n := by
  have h1 := F.2.2.2.2.2.2.1
  have h2 := F.2.2.2.2.2.2.2.1
  refine va_cnB (ws' := zgood) n F.2.2.2.2.1 (fun w hw => ?_) rfl rfl rfl (F.2.2.2.2.2.1.2.1 _ hlk) (by rw [← hM.2.2.1]; exact F.2.2.2.2.1 _ hM.2.1) ⟨hM.2.2.2.2.1, hM.2.2.2.2.2, hR.2⟩ ⟨Nat.le_trans hR.1.1 h1, Nat.le_trans hR.1.2 h2⟩
  have hw2 : w ∈ zgood := by
    rcases List.mem_cons.mp hw with h | h
    · rw [h]; exact hM.1
    · exact h
  exact zgood_GI (fun w h => h) w hw2
theorem z_invV (nx : Nat) {idx ci n nf o : Nat} {as rest ls' : List zV} (hd : decode (zmc M) pc = .ok (.invokevirtual idx, 3)) (hL : zVL M idx M' n) (hcal : zE X M' k' w' 0 ls' [] sh I L R Q') (hent : zent (zml M') (zR o :: as) = ls') (hwd : zwords (zR o :: as) ≤ zml M') (hst : st = as.reverse ++ zR o :: rest) (hlen : as.length = n) (hrest : zwords rest ≤ 8) (ho : sh[o]? = some (ci, nf)) (hci : (vwCl[ci]?).map (·.1) = some (zmo M')) (hn : pc + 3 = nx)
    (kk : ∀ (r : List zV) (sh' : zH) (I' L' : zI2) (R' : zR2), Q' r sh' I' L' R' → zE X M k w nx ls (r ++ rest) sh' I' L' R' Q) : zE X M (k + k') (w + w') pc ls st sh I L R Q := by
  intro G p l e Rm s m args below meth c H locs cells slots Qf arr F S hl kend
  have hz := F.2.2.2.2.2.2.2.2.2.1
  refine zW_size (S.lt hz) S.2.2.1 (fun hsz => ?_)
  obtain ⟨q, hq, hq1⟩ := Option.map_eq_some_iff.mp hci
  have hMet := z_met hL.1 hent hwd hcal G l
  have hrun := va_runV (e := e) (below := below) (meth := meth) (H := H) (g := F0 m pc arr (st.map (zc G))) (As := as.map (zc G)) (rest := rest.map (zc G)) (C := zmo M') (locs := locs) (cells := cells) (slots := slots) ⟨F.1, F.2.1, F.2.2.1, F.2.2.2.1, F.2.2.2.2.1⟩ hMet ⟨z_cwB F hL.1 hL.2.1 hL.2.2.1, F.2.2.2.2.1 _ hL.2.2.2.1, F.2.2.2.2.1 _ hL.2.2.2.2⟩
    ⟨zPc_blind, (by rw [← hq1]; exact va_recv F.2.2.2.2.2.1.1 S.1 hq (zw_io (zcl_lt ci _ hq) ho)), z_PcAt (av := zR o :: as) F S hsz⟩ rfl (by rw [List.length_map]; exact hlen) hl.1 (by rw [hst]; simp [zc_R]) (by
      have h6 : ((rest.map (zc G)).map fun v => v.category).sum = zwords rest := zwords_cat G rest
      show 2 * 0 + _ ≤ 8
      omega) hd (by have := S.2.2.2; omega)
  exact z_cont F S hl hsz hn hrun kk kend
theorem z_invS (nx : Nat) {idx n : Nat} {as rest ls' : List zV} (hd : decode (zmc M) pc = .ok (.invokestatic idx, 3)) (hL : zSL M idx M' n) (hcal : zE X M' k' w' 0 ls' [] sh I L R Q') (hent : zent (zml M') as = ls') (hwd : zwords as ≤ zml M') (hst : st = as.reverse ++ rest) (hlen : as.length = n) (hrest : zwords rest ≤ 8) (hn : pc + 3 = nx)
    (kk : ∀ (r : List zV) (sh' : zH) (I' L' : zI2) (R' : zR2), Q' r sh' I' L' R' → zE X M k w nx ls (r ++ rest) sh' I' L' R' Q) : zE X M (k + k') (w + w') pc ls st sh I L R Q := by
  intro G p l e Rm s m args below meth c H locs cells slots Qf arr F S hl kend
  have hz := F.2.2.2.2.2.2.2.2.2.1
  refine zW_size (S.lt hz) S.2.2.1 (fun hsz => ?_)
  have hMet := z_met hL.1 hent hwd hcal G l
  have hrun := va_runS (e := e) (below := below) (meth := meth) (H := H) (g := F0 m pc arr (st.map (zc G))) (As := as.map (zc G)) (rest := rest.map (zc G)) (locs := locs) (cells := cells) (slots := slots) ⟨F.1, F.2.1, F.2.2.1, F.2.2.2.1, F.2.2.2.2.1⟩ hMet ⟨z_cwB F hL.1 hL.2.1 hL.2.2.1, F.2.2.2.2.1 _ hL.2.2.2⟩
    ⟨zPc_blind, z_PcAt (av := as) F S hsz⟩ rfl (by rw [List.length_map]; exact hlen) hl.1 (by rw [hst]; simp) (by
      have h6 : ((rest.map (zc G)).map fun v => v.category).sum = zwords rest := zwords_cat G rest
      show 2 * 0 + _ ≤ 8
      omega) hd (by have := S.2.2.2; omega)
  exact z_cont F S hl hsz hn hrun kk kend
theorem z_invSN (nx : Nat) {idx n : Nat} {as rest ls' : List zV} (hd : decode (zmc M) pc = .ok (.invokestatic idx, 3)) (hL : zSN M idx M' n) (hcal : zE X M' k' w' 0 ls' [] sh I L R Q') (hent : zent (zml M') as = ls') (hwd : zwords as ≤ zml M') (hst : st = as.reverse ++ rest) (hlen : as.length = n) (hrest : zwords rest ≤ 8) (hn : pc + 3 = nx)
    (kk : ∀ (r : List zV) (sh' : zH) (I' L' : zI2) (R' : zR2), Q' r sh' I' L' R' → zE X M k w nx ls (r ++ rest) sh' I' L' R' Q) : zE X M (k + k') (w + w') pc ls st sh I L R Q := by
  intro G p l e Rm s m args below meth c H locs cells slots Qf arr F S hl kend
  have hz := F.2.2.2.2.2.2.2.2.2.1
  refine zW_size (S.lt hz) S.2.2.1 (fun hsz => ?_)
  have hMet := z_met hL.1 hent hwd hcal G l
  obtain ⟨host, hnest⟩ := hL.2.2.1
  have hrun := va_runSN (e := e) (below := below) (meth := meth) (H := H) (g := F0 m pc arr (st.map (zc G))) (As := as.map (zc G)) (rest := rest.map (zc G)) (locs := locs) (cells := cells) (slots := slots) ⟨F.1, F.2.1, F.2.2.1, F.2.2.2.1, F.2.2.2.2.1⟩ hMet ⟨z_cnB F hL.1 hL.2.1 hnest, F.2.2.2.2.1 _ hL.2.2.2, trivial⟩
    ⟨zPc_blind, z_PcAt (av := as) F S hsz⟩ rfl (by rw [List.length_map]; exact hlen) hl.1 (by rw [hst]; simp) (by
      have h6 : ((rest.map (zc G)).map fun v => v.category).sum = zwords rest := zwords_cat G rest
      show 2 * 0 + _ ≤ 8
      omega) hd (by have := S.2.2.2; omega)
  exact z_cont F S hl hsz hn hrun kk kend
theorem z_invI (nx : Nat) {idx n o : Nat} {as rest ls' : List zV} (hd : decode (zmc M) pc = .ok (.invokespecial idx, 3)) (hL : zIL M idx M' n) (hcal : zE X M' k' w' 0 ls' [] sh I L R Q') (hent : zent (zml M') (zR o :: as) = ls') (hwd : zwords (zR o :: as) ≤ zml M') (hst : st = as.reverse ++ zR o :: rest) (hlen : as.length = n) (hrest : zwords rest ≤ 8) (hn : pc + 3 = nx)
    (kk : ∀ (r : List zV) (sh' : zH) (I' L' : zI2) (R' : zR2), Q' r sh' I' L' R' → zE X M k w nx ls (r ++ rest) sh' I' L' R' Q) : zE X M (k + k') (w + w') pc ls st sh I L R Q := by
  intro G p l e Rm s m args below meth c H locs cells slots Qf arr F S hl kend
  have hz := F.2.2.2.2.2.2.2.2.2.1
  refine zW_size (S.lt hz) S.2.2.1 (fun hsz => ?_)
  have hMet := z_met hL.1 hent hwd hcal G l
  have hcb := z_cwB (k' := k') (w' := w') F hL.1 hL.2.1 hL.2.2.1
  rw [hL.2.2.2.2.2] at hcb
  have hrun := va_runI (e := e) (below := below) (meth := meth) (H := H) (g := F0 m pc arr (st.map (zc G))) (b := G.1 + o) (As := as.map (zc G)) (rest := rest.map (zc G)) (locs := locs) (cells := cells) (slots := slots) ⟨F.1, F.2.1, F.2.2.1, F.2.2.2.1, F.2.2.2.2.1⟩ hMet ⟨hcb, hL.2.2.2.2.1, F.2.2.2.2.1 _ hL.2.2.2.1⟩
    ⟨zPc_blind, z_PcAt (av := zR o :: as) F S hsz⟩ rfl (by rw [List.length_map]; exact hlen) hl.1 (by rw [hst]; simp [zc_R]) (by
      have h6 : ((rest.map (zc G)).map fun v => v.category).sum = zwords rest := zwords_cat G rest
      show 2 * 0 + _ ≤ 8
      omega) hd (by have := S.2.2.2; omega)
  exact z_cont F S hl hsz hn hrun kk kend
theorem z_invIN (nx : Nat) {idx n o : Nat} {as rest ls' : List zV} (hd : decode (zmc M) pc = .ok (.invokespecial idx, 3)) (hL : zIN M idx M' n) (hcal : zE X M' k' w' 0 ls' [] sh I L R Q') (hent : zent (zml M') (zR o :: as) = ls') (hwd : zwords (zR o :: as) ≤ zml M') (hst : st = as.reverse ++ zR o :: rest) (hlen : as.length = n) (hrest : zwords rest ≤ 8) (hn : pc + 3 = nx)
    (kk : ∀ (r : List zV) (sh' : zH) (I' L' : zI2) (R' : zR2), Q' r sh' I' L' R' → zE X M k w nx ls (r ++ rest) sh' I' L' R' Q) : zE X M (k + k') (w + w') pc ls st sh I L R Q := by
  intro G p l e Rm s m args below meth c H locs cells slots Qf arr F S hl kend
  have hz := F.2.2.2.2.2.2.2.2.2.1
  refine zW_size (S.lt hz) S.2.2.1 (fun hsz => ?_)
  have hMet := z_met hL.1 hent hwd hcal G l
  obtain ⟨host, hnest⟩ := hL.2.2.1
  have hcb := z_cnB (k' := k') (w' := w') F hL.1 hL.2.1 hnest
  rw [hL.2.2.2.2.2] at hcb
  have hrun := va_runIN (e := e) (below := below) (meth := meth) (H := H) (g := F0 m pc arr (st.map (zc G))) (b := G.1 + o) (As := as.map (zc G)) (rest := rest.map (zc G)) (locs := locs) (cells := cells) (slots := slots) ⟨F.1, F.2.1, F.2.2.1, F.2.2.2.1, F.2.2.2.2.1⟩ hMet ⟨hcb, hL.2.2.2.2.1, F.2.2.2.2.1 _ hL.2.2.2.1⟩
    ⟨zPc_blind, z_PcAt (av := zR o :: as) F S hsz⟩ rfl (by rw [List.length_map]; exact hlen) hl.1 (by rw [hst]; simp [zc_R]) (by
      have h6 : ((rest.map (zc G)).map fun v => v.category).sum = zwords rest := zwords_cat G rest
      show 2 * 0 + _ ≤ 8
      omega) hd (by have := S.2.2.2; omega)
  exact z_cont F S hl hsz hn hrun kk kend
theorem z_mmax (nx : Nat) {idx : Nat} {x y : Int} (hd : decode (zmc M) pc = .ok (.invokestatic idx, 3)) (h1 : Jvm.Cond.methodLink (zmo M) idx Lib.Math.max.name ∈ zgood) (h2 : Jvm.Cond.static Lib.Math.max.name ∈ zgood) (h3 : Jvm.Cond.initialized "java/lang/Math" ∈ zgood) (h4 : Jvm.Cond.code Lib.Math.max.name Lib.Math.max.code 2 (some .int) ∈ zgood) (hf : 1 ≤ zmf M) (hlw : zwords st + 13 ≤ zmw M) (hx : -2147483648 ≤ x ∧ x ≤ 2147483647) (hy : -2147483648 ≤ y ∧ y ≤ 2147483647) (hn : pc + 3 = nx) (kk : zE X M k w nx ls (zI (if x < y then y else x) :: st) sh I L R Q) : zE X M k w pc ls (zI y :: zI x :: st) sh I L R Q := by
  subst hn
  intro G p l e Rm s m args below meth c H locs cells slots Qf arr F S hl kend
  have h5 := F.2.2.2.2.2.2.2.1
  have h6 : ((st.map (zc G)).map fun v => v.category).sum = zwords st := zwords_cat G st
  refine va_mmax F.1 F.2.1 (F.2.2.1.trans hl.1.symm) F.2.2.2.1 (F.2.2.2.2.1 _ h1) (F.2.2.2.2.1 _ h2) (F.2.2.2.2.1 _ h3) (F.2.2.2.2.1 _ h4) (Nat.le_trans hf F.2.2.2.2.2.2.1) (by omega) (by have := S.2.2.2; omega) (by have := S.2.2.2; omega) hd ?_
  have K := kk G p l e Rm s m args below meth c H locs cells slots Qf arr F S hl kend
  have e5 : (if Int32.ofInt x < Int32.ofInt y then Int32.ofInt y else Int32.ofInt x) = Int32.ofInt (if x < y then y else x) := by
    by_cases h : x < y
    · rw [if_pos h, if_pos ((zn_lt hx hy).mpr h)]
    · rw [if_neg h, if_neg (fun q => h ((zn_lt hx hy).mp q))]
  rw [e5]
  exact K
theorem z_mmin (nx : Nat) {idx : Nat} {x y : Int} (hd : decode (zmc M) pc = .ok (.invokestatic idx, 3)) (h1 : Jvm.Cond.methodLink (zmo M) idx Lib.Math.min.name ∈ zgood) (h2 : Jvm.Cond.static Lib.Math.min.name ∈ zgood) (h3 : Jvm.Cond.initialized "java/lang/Math" ∈ zgood) (h4 : Jvm.Cond.code Lib.Math.min.name Lib.Math.min.code 2 (some .int) ∈ zgood) (hf : 1 ≤ zmf M) (hlw : zwords st + 13 ≤ zmw M) (hx : -2147483648 ≤ x ∧ x ≤ 2147483647) (hy : -2147483648 ≤ y ∧ y ≤ 2147483647) (hn : pc + 3 = nx) (kk : zE X M k w nx ls (zI (if y < x then y else x) :: st) sh I L R Q) : zE X M k w pc ls (zI y :: zI x :: st) sh I L R Q := by
  subst hn
  intro G p l e Rm s m args below meth c H locs cells slots Qf arr F S hl kend
  have h5 := F.2.2.2.2.2.2.2.1
  have h6 : ((st.map (zc G)).map fun v => v.category).sum = zwords st := zwords_cat G st
  refine va_mmin F.1 F.2.1 (F.2.2.1.trans hl.1.symm) F.2.2.2.1 (F.2.2.2.2.1 _ h1) (F.2.2.2.2.1 _ h2) (F.2.2.2.2.1 _ h3) (F.2.2.2.2.1 _ h4) (Nat.le_trans hf F.2.2.2.2.2.2.1) (by omega) (by have := S.2.2.2; omega) (by have := S.2.2.2; omega) hd ?_
  have K := kk G p l e Rm s m args below meth c H locs cells slots Qf arr F S hl kend
  have e5 : (if Int32.ofInt y < Int32.ofInt x then Int32.ofInt y else Int32.ofInt x) = Int32.ofInt (if y < x then y else x) := by
    by_cases h : y < x
    · rw [if_pos h, if_pos ((zn_lt hy hx).mpr h)]
    · rw [if_neg h, if_neg (fun q => h ((zn_lt hy hx).mp q))]
  rw [e5]
  exact K
end ZCALL
