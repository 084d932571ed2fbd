/-! ===== lays, walked ===== -/
theorem stk_eq {X : zXs} {M : zM} {k w pc : Nat} {v v' : Int} {ls st : List zV} {sh : zH} {I L : zI2} {R : zR2} {Q : zQ} (e : v = v') (h : zE X M k w pc ls (zI v' :: st) sh I L R Q) : zE X M k w pc ls (zI v :: st) sh I L R Q := by subst e; exact h
def rhd (r : Nat) : Int := if r = 0 then 59 else 44
theorem wpk_8 (N : Nat → Int) (V : zT) (d : Int) : wpk N (zup V 0 8 d) = wpk N V := by
  have e6 : zup V 0 8 d 0 6 = V 0 6 := zup_ne _ _ (by omega)
  have e7 : zup V 0 8 d 0 7 = V 0 7 := zup_ne _ _ (by omega)
  have er : ∀ a, a ≠ 0 → zup V 0 8 d a = V a := fun a ha => zup_row _ _ ha
  funext c
  unfold wpk
  rw [e6, e7, er 1 (by decide), er 2 (by decide), er (3 + (c - 23) % 4) (by omega)]
theorem slide_e {V S0 : zT} {tp : List Int} {shs : Nat → Int × (Int × (Nat → Int))} {r : Nat} (hV : vI V r) (hr : 1 ≤ r ∧ r ≤ 5) (htp : tp = ttx V 10 0 ++ rts V r 0) : ∃ S', oSlide (tA S0 tp shs) = ((r : Int), (S', ([], (none, ([], shs))))) ∧ zQe S' (zup V 0 8 (S0 0 8)) := by
  obtain ⟨h1, h2, h3, h4⟩ := hV
  obtain ⟨n, rfl⟩ : ∃ n, r = n + 1 := ⟨r - 1, by omega⟩
  obtain ⟨k', e⟩ := par_all (L := tp) (V := V) (n := n) h1 (by omega) (fun q hq => (h4 q hq).1) htp
  obtain ⟨u1, u2⟩ := sup_s V 10 0 (zup (zup zz 0 6 0) 0 7 0)
  have u06 : sup V 10 0 (zup (zup zz 0 6 0) 0 7 0) 0 6 = ((0 : Nat) : Int) := by
    rw [u1 0 (by decide) (by decide), zup_ne _ _ (by omega), zup_at]
    rfl
  have u07 : sup V 10 0 (zup (zup zz 0 6 0) 0 7 0) 0 7 = 0 := by rw [u1 0 (by decide) (by decide), zup_at]
  obtain ⟨s1, s2, s3, s4⟩ := sur_s V (n + 1) 0 (sup V 10 0 (zup (zup zz 0 6 0) 0 7 0)) u06
  generalize sur V (n + 1) 0 (sup V 10 0 (zup (zup zz 0 6 0) 0 7 0)) = T at e s1 s2 s3 s4
  have eo : oSlide (tA S0 tp shs) = (T 0 6, (zup T 0 8 (S0 0 8), ([], (none, ([], shs))))) := by
    unfold oSlide
    show (if (tsl (tlst tp) tp.length zz).1 = 0 then _ else ((tsl (tlst tp) tp.length zz).2.2 0 6, (zup (tsl (tlst tp) tp.length zz).2.2 0 8 (S0 0 8), ([], (none, ([], shs)))))) = _
    rw [e, if_neg (by show ¬ (1 : Int) = 0; omega)]
  refine ⟨zup T 0 8 (S0 0 8), by rw [eo, s2]; congr 1; omega, ⟨?_, ?_, ?_⟩, fun t ht => ?_, fun q hq => ?_⟩
  · rw [zup_ne _ _ (by omega), zup_ne _ _ (by omega), s2, h2]
    omega
  · rw [zup_ne _ _ (by omega), zup_ne _ _ (by omega), s3, u07, h3]
  · rw [zup_at, zup_at]
  · rw [zup_row _ _ (by decide), zup_row _ _ (by decide), zup_row _ _ (by decide), zup_row _ _ (by decide), s1 1 (Or.inl rfl), s1 2 (Or.inr rfl)]
    exact (u2 t).1 (by omega)
  · rw [zup_ne _ _ (by omega), s2] at hq
    rw [zup_row _ _ (by decide), zup_row _ _ (by decide), zup_row _ _ (by decide), zup_row _ _ (by decide), zup_row _ _ (by decide), zup_row _ _ (by decide), zup_row _ _ (by decide), zup_row _ _ (by decide)]
    obtain ⟨a, b, c, d⟩ := (s4 q).1 (by omega)
    exact ⟨a, b, c, d.trans (h4 q (by omega)).2.symm⟩
def lyQ (sh : zH) (S0 : zT) (shs : Nat → Int × (Int × (Nat → Int))) (V : zT) : zQ := fun r' sh' I' L' R' => r' = [zI 1] ∧ sh = sh' ∧ ∃ N', lS sh' I' L' R' (zup V 0 8 (S0 0 8), ([], (none, ([], shs)))) N'
section LAYSB
variable {X : zXs} {sh : zH} {S0 : zT} {shs : Nat → Int × (Int × (Nat → Int))}
theorem tl_lays318 {x sm : Int} {V : zT} {N : Nat → Int} {r : Nat} {tp : List Int} {z8 z9 : zV} {I L : zI2} {R : zR2} (hV : vI V r) (hr : 1 ≤ r ∧ r ≤ 5) (htp : tp = ttx V 10 0 ++ rts V r 0) (hl : lT sh I L R (tA S0 tp shs) N V) : zE X mL_lays 0 0 318 [zR 0, zS, zR 157, zI x, zI sm, zI 1, zI (r : Int), zI (r : Int), z8, z9] [] sh I L R (lyQ sh S0 shs V) := by
  have s0 := lT_s0 hl
  have s157 := hl.2.1
  obtain ⟨S', e1, e2⟩ := slide_e (S0 := S0) (shs := shs) hV hr htp
  refine z_aload2 319 dL_lays_318 rfl ?_
  refine z_iconst 320 dL_lays_319 rfl ?_
  refine z_iconst 321 dL_lays_320 rfl ?_
  refine z_iastN 322 (2) dL_lays_321 (by assumption) (by omega) (by omega) rfl ?_
  have hl := lT_2 (v := 1) hl
  obtain ⟨⟨P, hc⟩, k1, k2, k3⟩ := id hl
  have h := pH.rf hc
  refine z_iload5 324 dL_lays_322 rfl ?_
  refine z_if_eq 340 327 dL_lays_324 (by decide) rfl (by omega) (fun hz => absurd hz ((by omega))) (fun h324 => ?_)
  refine z_aload0 328 dL_lays_327 rfl ?_
  refine z_pV0 331 dL_lays_328 lk_L_lays_32 (pc_slide h e1) rfl (Nat.le_of_ble_eq_true rfl) (Nat.le_of_ble_eq_true rfl) (by assumption) rfl rfl (fun r0 sh0 I0 L0 R0 hpq => ?_)
  obtain ⟨rfl, rfl, h⟩ := pO hpq
  refine z_iload6 333 dL_lays_331 rfl ?_
  refine z_icmp_ne 340 336 dL_lays_333 (by decide) rfl (by omega) (by omega) (fun hz => absurd hz ((by omega))) (fun h333 => ?_)
  refine z_iconst 337 dL_lays_336 rfl ?_
  refine z_goto 341 dL_lays_337 (by decide) ?_
  exact z_zreturn dL_lays_341 rfl (by omega) (⟨rfl, rfl, _, (pH.q e2 h).1, k1, k2, (((pH.q e2 h).2 157 (by decide)).1).trans (k3.trans (wpk_8 _ _ _).symm)⟩)
theorem lp_lays126 {x sm : Int} {n : Int} (hX : X.1 ≤ 260) (hj : ∀ j, -2147483648 ≤ X.2 j ∧ X.2 j ≤ 2147483647) (hn : n = vnr X) : ∀ (m r : Nat) (V : zT) (N : Nat → Int) (tp : List Int) (z8 z9 : zV) (I L : zI2) (R : zR2), r + m = (vnr X).toNat → vI V r → tp = ttx V 10 0 ++ rts V r 0 → tp.length ≤ 30 + 6 * r → lT sh I L R (tA S0 tp shs) N V → zE X mL_lays 0 0 126 [zR 0, zS, zR 157, zI x, zI sm, zI 1, zI n, zI (r : Int), z8, z9] [] sh I L R (lyQ sh S0 shs (lvr X m r V))
  | 0, r, V, N, tp, z8, z9, I, L, R, hm, hV, htp, hlen, hl => by
    have hnr := vnr_r X
    have hnn : n = (r : Int) := by omega
    subst hnn
    refine z_iload7 128 dL_lays_126 rfl ?_
    refine z_iload6 130 dL_lays_128 rfl ?_
    refine z_icmp_ge 318 133 dL_lays_130 (by decide) rfl (by omega) (by omega) (fun h130 => ?_) (fun hz => absurd hz (by omega))
    exact tl_lays318 hV (by omega) htp hl
  | m + 1, r, V, N, tp, z8, z9, I, L, R, hm, hV, htp, hlen, hl => by
    have hnr := vnr_r X
    have r5 : r < 5 := by omega
    have s0 := lT_s0 hl
    have s157 := hl.2.1
    obtain ⟨q3, q4, q5⟩ := vr_r X r
    have b7 : 0 ≤ zand (yvr X r) 7 ∧ zand (yvr X r) 7 ≤ 7 := zand_r 7 3 rfl (by omega)
    have b31 : 0 ≤ zand (zshr (yvr X r) 3) 31 ∧ zand (zshr (yvr X r) 3) 31 ≤ 31 := zand_r 31 5 rfl (by omega)
    obtain ⟨p1, p2, p3⟩ := psrt_k q3
    have v3 : vsr0 X r V 3 r = vr3 X r := by unfold vsr0; rw [zup_row _ _ (by decide), zup_row _ _ (by decide), zup_row _ _ (by decide), zup_at]
    have v4 : vsr0 X r V 4 r = vr4 X r := by unfold vsr0; rw [zup_row _ _ (by decide), zup_row _ _ (by decide), zup_at]
    have v5 : vsr0 X r V 5 r = vr5 X r := by unfold vsr0; rw [zup_row _ _ (by decide), zup_at]
    have v06 : vsr0 X r V 0 6 = (r : Int) := by
      unfold vsr0
      rw [zup_row _ _ (by decide), zup_row _ _ (by decide), zup_row _ _ (by decide), zup_row _ _ (by decide)]
      exact hV.2.1
    have hV2 := vI_r X r5 hV
    obtain ⟨y1, y2, y3, y4, y5, y6, y7, y8⟩ := vsr_s X V r
    have hpre : ttx (vsr X r V) 10 0 ++ rts (vsr X r V) (r + 1) 0 = tp ++ rtx (vsr X r V) r := by
      rw [ttx_c y1, rts_sn, Nat.zero_add, rts_c (V := V) r 0 (fun q _ hq => ⟨(y4 q (by omega)).1, (y4 q (by omega)).2.1, (y4 q (by omega)).2.2.1⟩), htp, List.append_assoc]
    have hrx : rtx (vsr X r V) r = rhd r :: psrt (vr3 X r) :: (ntx (vr4 X r) ++ (if vr5 X r = 0 then [] else [60, 48 + vr5 X r])) := by
      unfold rtx rhd
      rw [y5, y6, y7]
    have l1 : ∀ (l : List Int) (x : Int), (l ++ [x]).length = l.length + 1 := fun l x => by rw [List.length_append]; rfl
    have hnl := ntx_len (v := vr4 X r)
    have c1 := l1 tp (rhd r)
    have c2 := l1 (tp ++ [rhd r]) (psrt (vr3 X r))
    have c3 : (((tp ++ [rhd r]) ++ [psrt (vr3 X r)]) ++ ntx (vr4 X r)).length = ((tp ++ [rhd r]) ++ [psrt (vr3 X r)]).length + (ntx (vr4 X r)).length := List.length_append
    have c4 := l1 (((tp ++ [rhd r]) ++ [psrt (vr3 X r)]) ++ ntx (vr4 X r)) 60
    have c5 := l1 ((((tp ++ [rhd r]) ++ [psrt (vr3 X r)]) ++ ntx (vr4 X r)) ++ [60]) (48 + vr5 X r)
    have hrh : 32 ≤ rhd r ∧ rhd r ≤ 126 := by unfold rhd; split <;> omega
    have hfin : lvr X (m + 1) r V = lvr X m (r + 1) (vsr X r V) := rfl
    rw [hfin]
    by_cases h5 : vr5 X r = 0
    · have et : ((tp ++ [rhd r]) ++ [psrt (vr3 X r)]) ++ ntx (vr4 X r) = ttx (vsr X r V) 10 0 ++ rts (vsr X r V) (r + 1) 0 := by
        rw [hpre, hrx, if_pos h5, List.append_nil, List.append_assoc, List.append_assoc]
        rfl
      have kr := fun N z8 z9 I L R => lp_lays126 (x := x) (sm := sm) hX hj hn m (r + 1) (vsr X r V) N (((tp ++ [rhd r]) ++ [psrt (vr3 X r)]) ++ ntx (vr4 X r)) z8 z9 I L R (by omega) hV2 et (by omega)
      clear hpre hrx et y1 y2 y3 y4 y5 y6 y7 y8 htp
      refine z_iload7 128 dL_lays_126 rfl ?_
      refine z_iload6 130 dL_lays_128 rfl ?_
      refine z_icmp_ge 318 133 dL_lays_130 (by decide) rfl (by omega) (by omega) (fun hz => absurd hz (by omega)) (fun h130 => ?_)
      refine z_iload5 135 dL_lays_133 rfl ?_
      refine z_if_eq 318 138 dL_lays_135 (by decide) rfl (by omega) (fun hz => absurd hz ((by omega))) (fun h135 => ?_)
      refine z_aloadS1 139 dL_lays_138 rfl ?_
      refine z_iconst 140 dL_lays_139 rfl ?_
      refine z_iload7 142 dL_lays_140 rfl ?_
      refine z_iconst 143 dL_lays_142 rfl ?_
      refine z_idiv 144 dL_lays_143 (by omega) (by omega) rfl ?_
      refine z_iadd 145 dL_lays_144 rfl ?_
      rw [show 4 + (r : Int) / 2 = ((4 + r / 2 : Nat) : Int) by omega]
      refine z_xS2 148 dL_lays_145 lk_L_lays_15 (ct_L_cell hX hj (by omega)) rfl (Nat.le_of_ble_eq_true rfl) (Nat.le_of_ble_eq_true rfl) rfl ?_
      refine z_bipush 150 dL_lays_148 (by decide) rfl ?_
      refine z_iload7 152 dL_lays_150 rfl ?_
      refine z_iconst 153 dL_lays_152 rfl ?_
      refine z_irem 154 dL_lays_153 (by omega) (by omega) rfl ?_
      refine z_imul 155 dL_lays_154 rfl ?_
      refine z_ishr 156 dL_lays_155 rfl ?_
      rw [show zshr (pcl X (4 + r / 2)) (15 * ((r : Int) % 2)) = yvr X r from rfl]
      refine z_istore8 158 dL_lays_156 (Nat.le_of_ble_eq_true rfl) rfl rfl ?_
      refine z_bipush 160 dL_lays_158 (by decide) rfl ?_
      refine z_iconst 161 dL_lays_160 rfl ?_
      refine z_iload7 163 dL_lays_161 rfl ?_
      refine z_imul 164 dL_lays_163 rfl ?_
      refine z_iadd 165 dL_lays_164 rfl ?_
      refine z_istore9 167 dL_lays_165 (Nat.le_of_ble_eq_true rfl) rfl rfl ?_
      refine z_aload2 168 dL_lays_167 rfl ?_
      refine z_iload9 170 dL_lays_168 rfl ?_
      refine z_iload8 172 dL_lays_170 rfl ?_
      refine z_bipush 174 dL_lays_172 (by decide) rfl ?_
      refine z_iand 175 dL_lays_174 rfl ?_
      refine z_iconst 176 dL_lays_175 rfl ?_
      refine z_irem 177 dL_lays_176 (by omega) (by omega) rfl ?_
      rw [show zand (yvr X r) 7 % 5 = vr3 X r from rfl]
      refine z_iastN 178 (23 + 4 * r) dL_lays_177 (by assumption) (by omega) (by omega) rfl ?_
      have hl := lT_up (v := vr3 X r) (k := 23 + 4 * r) (i := 3) (j := r) hl (by unfold wix; omega)
      refine z_aload2 179 dL_lays_178 rfl ?_
      refine z_iload9 181 dL_lays_179 rfl ?_
      refine z_iconst 182 dL_lays_181 rfl ?_
      refine z_iadd 183 dL_lays_182 rfl ?_
      refine z_iconst 184 dL_lays_183 rfl ?_
      refine z_iload8 186 dL_lays_184 rfl ?_
      refine z_iconst 187 dL_lays_186 rfl ?_
      refine z_ishr 188 dL_lays_187 rfl ?_
      refine z_bipush 190 dL_lays_188 (by decide) rfl ?_
      refine z_iand 191 dL_lays_190 rfl ?_
      refine z_bipush 193 dL_lays_191 (by decide) rfl ?_
      refine z_irem 194 dL_lays_193 (by omega) (by omega) rfl ?_
      refine z_iadd 195 dL_lays_194 rfl ?_
      rw [show 1 + zand (zshr (yvr X r) 3) 31 % 20 = vr4 X r from rfl]
      refine z_iastN 196 (24 + 4 * r) dL_lays_195 (by assumption) (by omega) (by omega) rfl ?_
      have hl := lT_up (v := vr4 X r) (k := 24 + 4 * r) (i := 4) (j := r) hl (by unfold wix; omega)
      refine z_aload2 197 dL_lays_196 rfl ?_
      refine z_iload9 199 dL_lays_197 rfl ?_
      refine z_iconst 200 dL_lays_199 rfl ?_
      refine z_iadd 201 dL_lays_200 rfl ?_
      refine z_iload8 203 dL_lays_201 rfl ?_
      refine z_bipush 205 dL_lays_203 (by decide) rfl ?_
      refine z_ishr 206 dL_lays_205 rfl ?_
      refine z_bipush 208 dL_lays_206 (by decide) rfl ?_
      refine z_iand 209 dL_lays_208 rfl ?_
      rw [show zand (zshr (yvr X r) 8) 7 = vr5 X r from rfl]
      refine z_iastN 210 (25 + 4 * r) dL_lays_209 (by assumption) (by omega) (by omega) rfl ?_
      have hl := lT_up (v := vr5 X r) (k := 25 + 4 * r) (i := 5) (j := r) hl (by unfold wix; omega)
      refine z_aload2 211 dL_lays_210 rfl ?_
      refine z_iload9 213 dL_lays_211 rfl ?_
      refine z_iconst 214 dL_lays_213 rfl ?_
      refine z_iadd 215 dL_lays_214 rfl ?_
      refine z_bipush 217 dL_lays_215 (by decide) rfl ?_
      refine z_iastN 218 (26 + 4 * r) dL_lays_217 (by assumption) (by omega) (by omega) rfl ?_
      have hl := lT_up (v := 30) (k := 26 + 4 * r) (i := 6) (j := r) hl (by unfold wix; omega)
      have hl : lT _ _ _ _ _ _ (vsr0 X r V) := hl
      refine z_aload0 219 dL_lays_218 rfl ?_
      refine z_iload7 221 dL_lays_219 rfl ?_
      refine z_if_ne 229 224 dL_lays_221 (by decide) rfl (by omega) (fun h221 => ?_) (fun h221 => ?_)
      · refine z_bipush 231 dL_lays_229 (by decide) rfl ?_
        refine stk_eq (v' := rhd r) (by unfold rhd; first | rw [if_pos (by omega)] | rw [if_neg (by omega)]) ?_
        refine z_pV1 234 dL_lays_231 lk_L_lays_9 (pt_type hl hrh (by omega)) rfl (Nat.le_of_ble_eq_true rfl) (Nat.le_of_ble_eq_true rfl) (by assumption) rfl rfl (fun r0 sh0 I0 L0 R0 hpq => ?_)
        obtain ⟨rfl, rfl, hl⟩ := hpq
        refine z_if_le 302 237 dL_lays_234 (by decide) rfl (by omega) (fun hz => absurd hz (by omega)) (fun h234 => ?_)
        refine z_aload0 238 dL_lays_237 rfl ?_
        refine z_aload2 239 dL_lays_238 rfl ?_
        refine z_iload9 241 dL_lays_239 rfl ?_
        refine z_ialdx 242 (23 + 4 * r) dL_lays_241 (by assumption) (by omega) (by omega) ((lT_r23 hl r5).trans v3) rfl ?_
        refine z_xS1 245 dL_lays_242 lk_L_lays_25 (ct_L_sort q3) rfl (Nat.le_of_ble_eq_true rfl) (Nat.le_of_ble_eq_true rfl) rfl ?_
        refine z_pV1 248 dL_lays_245 lk_L_lays_9 (pt_type hl (by omega) (by omega)) rfl (Nat.le_of_ble_eq_true rfl) (Nat.le_of_ble_eq_true rfl) (by assumption) rfl rfl (fun r0 sh0 I0 L0 R0 hpq => ?_)
        obtain ⟨rfl, rfl, hl⟩ := hpq
        refine z_if_le 302 251 dL_lays_248 (by decide) rfl (by omega) (fun hz => absurd hz (by omega)) (fun h248 => ?_)
        refine z_aload0 252 dL_lays_251 rfl ?_
        refine z_aload2 253 dL_lays_252 rfl ?_
        refine z_iload9 255 dL_lays_253 rfl ?_
        refine z_iconst 256 dL_lays_255 rfl ?_
        refine z_iadd 257 dL_lays_256 rfl ?_
        refine z_ialdx 258 (24 + 4 * r) dL_lays_257 (by assumption) (by omega) (by omega) ((lT_r24 hl r5).trans v4) rfl ?_
        refine z_pS2 261 dL_lays_258 lk_L_lays_28 (ct_L_number q4 hl (by omega)) rfl (Nat.le_of_ble_eq_true rfl) (Nat.le_of_ble_eq_true rfl) rfl (fun r0 sh0 I0 L0 R0 hpq => ?_)
        obtain ⟨rfl, rfl, hl⟩ := hpq
        refine z_if_eq 302 264 dL_lays_261 (by decide) rfl (by omega) (fun hz => absurd hz ((by omega))) (fun h261 => ?_)
        refine z_aload2 265 dL_lays_264 rfl ?_
        refine z_iload9 267 dL_lays_265 rfl ?_
        refine z_iconst 268 dL_lays_267 rfl ?_
        refine z_iadd 269 dL_lays_268 rfl ?_
        refine z_ialdx 270 (25 + 4 * r) dL_lays_269 (by assumption) (by omega) (by omega) ((lT_r25 hl r5).trans v5) rfl ?_
        refine z_if_eq 298 273 dL_lays_270 (by decide) rfl (by omega) (fun h270 => ?_) (fun hz => absurd hz (by omega))
        refine z_iconst 299 dL_lays_298 rfl ?_
        refine z_goto 303 dL_lays_299 (by decide) ?_
        refine z_istore5 305 dL_lays_303 (Nat.le_of_ble_eq_true rfl) rfl rfl ?_
        refine z_aload2 306 dL_lays_305 rfl ?_
        refine z_iconst 307 dL_lays_306 rfl ?_
        refine z_dup2 308 dL_lays_307 rfl rfl rfl ?_
        refine z_ialdx 309 (0) dL_lays_308 (by assumption) (by omega) (by omega) ((lT_at hl 0).trans v06) rfl ?_
        refine z_iconst 310 dL_lays_309 rfl ?_
        refine z_iadd 311 dL_lays_310 rfl ?_
        refine z_iastN 312 (0) dL_lays_311 (by assumption) (by omega) (by omega) rfl ?_
        have hl := lT_up (v := (r : Int) + 1) (k := 0) (i := 0) (j := 6) hl (by unfold wix; omega)
        refine z_iinc7 315 dL_lays_312 (Nat.le_of_ble_eq_true rfl) rfl rfl ?_
        refine z_goto 126 dL_lays_315 (by decide) ?_
        exact kr _ _ _ _ _ _ hl
      · refine z_bipush 226 dL_lays_224 (by decide) rfl ?_
        refine z_goto 231 dL_lays_226 (by decide) ?_
        refine stk_eq (v' := rhd r) (by unfold rhd; first | rw [if_pos (by omega)] | rw [if_neg (by omega)]) ?_
        refine z_pV1 234 dL_lays_231 lk_L_lays_9 (pt_type hl hrh (by omega)) rfl (Nat.le_of_ble_eq_true rfl) (Nat.le_of_ble_eq_true rfl) (by assumption) rfl rfl (fun r0 sh0 I0 L0 R0 hpq => ?_)
        obtain ⟨rfl, rfl, hl⟩ := hpq
        refine z_if_le 302 237 dL_lays_234 (by decide) rfl (by omega) (fun hz => absurd hz (by omega)) (fun h234 => ?_)
        refine z_aload0 238 dL_lays_237 rfl ?_
        refine z_aload2 239 dL_lays_238 rfl ?_
        refine z_iload9 241 dL_lays_239 rfl ?_
        refine z_ialdx 242 (23 + 4 * r) dL_lays_241 (by assumption) (by omega) (by omega) ((lT_r23 hl r5).trans v3) rfl ?_
        refine z_xS1 245 dL_lays_242 lk_L_lays_25 (ct_L_sort q3) rfl (Nat.le_of_ble_eq_true rfl) (Nat.le_of_ble_eq_true rfl) rfl ?_
        refine z_pV1 248 dL_lays_245 lk_L_lays_9 (pt_type hl (by omega) (by omega)) rfl (Nat.le_of_ble_eq_true rfl) (Nat.le_of_ble_eq_true rfl) (by assumption) rfl rfl (fun r0 sh0 I0 L0 R0 hpq => ?_)
        obtain ⟨rfl, rfl, hl⟩ := hpq
        refine z_if_le 302 251 dL_lays_248 (by decide) rfl (by omega) (fun hz => absurd hz (by omega)) (fun h248 => ?_)
        refine z_aload0 252 dL_lays_251 rfl ?_
        refine z_aload2 253 dL_lays_252 rfl ?_
        refine z_iload9 255 dL_lays_253 rfl ?_
        refine z_iconst 256 dL_lays_255 rfl ?_
        refine z_iadd 257 dL_lays_256 rfl ?_
        refine z_ialdx 258 (24 + 4 * r) dL_lays_257 (by assumption) (by omega) (by omega) ((lT_r24 hl r5).trans v4) rfl ?_
        refine z_pS2 261 dL_lays_258 lk_L_lays_28 (ct_L_number q4 hl (by omega)) rfl (Nat.le_of_ble_eq_true rfl) (Nat.le_of_ble_eq_true rfl) rfl (fun r0 sh0 I0 L0 R0 hpq => ?_)
        obtain ⟨rfl, rfl, hl⟩ := hpq
        refine z_if_eq 302 264 dL_lays_261 (by decide) rfl (by omega) (fun hz => absurd hz ((by omega))) (fun h261 => ?_)
        refine z_aload2 265 dL_lays_264 rfl ?_
        refine z_iload9 267 dL_lays_265 rfl ?_
        refine z_iconst 268 dL_lays_267 rfl ?_
        refine z_iadd 269 dL_lays_268 rfl ?_
        refine z_ialdx 270 (25 + 4 * r) dL_lays_269 (by assumption) (by omega) (by omega) ((lT_r25 hl r5).trans v5) rfl ?_
        refine z_if_eq 298 273 dL_lays_270 (by decide) rfl (by omega) (fun h270 => ?_) (fun hz => absurd hz (by omega))
        refine z_iconst 299 dL_lays_298 rfl ?_
        refine z_goto 303 dL_lays_299 (by decide) ?_
        refine z_istore5 305 dL_lays_303 (Nat.le_of_ble_eq_true rfl) rfl rfl ?_
        refine z_aload2 306 dL_lays_305 rfl ?_
        refine z_iconst 307 dL_lays_306 rfl ?_
        refine z_dup2 308 dL_lays_307 rfl rfl rfl ?_
        refine z_ialdx 309 (0) dL_lays_308 (by assumption) (by omega) (by omega) ((lT_at hl 0).trans v06) rfl ?_
        refine z_iconst 310 dL_lays_309 rfl ?_
        refine z_iadd 311 dL_lays_310 rfl ?_
        refine z_iastN 312 (0) dL_lays_311 (by assumption) (by omega) (by omega) rfl ?_
        have hl := lT_up (v := (r : Int) + 1) (k := 0) (i := 0) (j := 6) hl (by unfold wix; omega)
        refine z_iinc7 315 dL_lays_312 (Nat.le_of_ble_eq_true rfl) rfl rfl ?_
        refine z_goto 126 dL_lays_315 (by decide) ?_
        exact kr _ _ _ _ _ _ hl
    · have et : ((((tp ++ [rhd r]) ++ [psrt (vr3 X r)]) ++ ntx (vr4 X r)) ++ [60]) ++ [48 + vr5 X r] = ttx (vsr X r V) 10 0 ++ rts (vsr X r V) (r + 1) 0 := by
        rw [hpre, hrx, if_neg h5, List.append_assoc, List.append_assoc, List.append_assoc, List.append_assoc]
        rfl
      have kr := fun N z8 z9 I L R => lp_lays126 (x := x) (sm := sm) hX hj hn m (r + 1) (vsr X r V) N (((((tp ++ [rhd r]) ++ [psrt (vr3 X r)]) ++ ntx (vr4 X r)) ++ [60]) ++ [48 + vr5 X r]) z8 z9 I L R (by omega) hV2 et (by omega)
      clear hpre hrx et y1 y2 y3 y4 y5 y6 y7 y8 htp
      refine z_iload7 128 dL_lays_126 rfl ?_
      refine z_iload6 130 dL_lays_128 rfl ?_
      refine z_icmp_ge 318 133 dL_lays_130 (by decide) rfl (by omega) (by omega) (fun hz => absurd hz (by omega)) (fun h130 => ?_)
      refine z_iload5 135 dL_lays_133 rfl ?_
      refine z_if_eq 318 138 dL_lays_135 (by decide) rfl (by omega) (fun hz => absurd hz ((by omega))) (fun h135 => ?_)
      refine z_aloadS1 139 dL_lays_138 rfl ?_
      refine z_iconst 140 dL_lays_139 rfl ?_
      refine z_iload7 142 dL_lays_140 rfl ?_
      refine z_iconst 143 dL_lays_142 rfl ?_
      refine z_idiv 144 dL_lays_143 (by omega) (by omega) rfl ?_
      refine z_iadd 145 dL_lays_144 rfl ?_
      rw [show 4 + (r : Int) / 2 = ((4 + r / 2 : Nat) : Int) by omega]
      refine z_xS2 148 dL_lays_145 lk_L_lays_15 (ct_L_cell hX hj (by omega)) rfl (Nat.le_of_ble_eq_true rfl) (Nat.le_of_ble_eq_true rfl) rfl ?_
      refine z_bipush 150 dL_lays_148 (by decide) rfl ?_
      refine z_iload7 152 dL_lays_150 rfl ?_
      refine z_iconst 153 dL_lays_152 rfl ?_
      refine z_irem 154 dL_lays_153 (by omega) (by omega) rfl ?_
      refine z_imul 155 dL_lays_154 rfl ?_
      refine z_ishr 156 dL_lays_155 rfl ?_
      rw [show zshr (pcl X (4 + r / 2)) (15 * ((r : Int) % 2)) = yvr X r from rfl]
      refine z_istore8 158 dL_lays_156 (Nat.le_of_ble_eq_true rfl) rfl rfl ?_
      refine z_bipush 160 dL_lays_158 (by decide) rfl ?_
      refine z_iconst 161 dL_lays_160 rfl ?_
      refine z_iload7 163 dL_lays_161 rfl ?_
      refine z_imul 164 dL_lays_163 rfl ?_
      refine z_iadd 165 dL_lays_164 rfl ?_
      refine z_istore9 167 dL_lays_165 (Nat.le_of_ble_eq_true rfl) rfl rfl ?_
      refine z_aload2 168 dL_lays_167 rfl ?_
      refine z_iload9 170 dL_lays_168 rfl ?_
      refine z_iload8 172 dL_lays_170 rfl ?_
      refine z_bipush 174 dL_lays_172 (by decide) rfl ?_
      refine z_iand 175 dL_lays_174 rfl ?_
      refine z_iconst 176 dL_lays_175 rfl ?_
      refine z_irem 177 dL_lays_176 (by omega) (by omega) rfl ?_
      rw [show zand (yvr X r) 7 % 5 = vr3 X r from rfl]
      refine z_iastN 178 (23 + 4 * r) dL_lays_177 (by assumption) (by omega) (by omega) rfl ?_
      have hl := lT_up (v := vr3 X r) (k := 23 + 4 * r) (i := 3) (j := r) hl (by unfold wix; omega)
      refine z_aload2 179 dL_lays_178 rfl ?_
      refine z_iload9 181 dL_lays_179 rfl ?_
      refine z_iconst 182 dL_lays_181 rfl ?_
      refine z_iadd 183 dL_lays_182 rfl ?_
      refine z_iconst 184 dL_lays_183 rfl ?_
      refine z_iload8 186 dL_lays_184 rfl ?_
      refine z_iconst 187 dL_lays_186 rfl ?_
      refine z_ishr 188 dL_lays_187 rfl ?_
      refine z_bipush 190 dL_lays_188 (by decide) rfl ?_
      refine z_iand 191 dL_lays_190 rfl ?_
      refine z_bipush 193 dL_lays_191 (by decide) rfl ?_
      refine z_irem 194 dL_lays_193 (by omega) (by omega) rfl ?_
      refine z_iadd 195 dL_lays_194 rfl ?_
      rw [show 1 + zand (zshr (yvr X r) 3) 31 % 20 = vr4 X r from rfl]
      refine z_iastN 196 (24 + 4 * r) dL_lays_195 (by assumption) (by omega) (by omega) rfl ?_
      have hl := lT_up (v := vr4 X r) (k := 24 + 4 * r) (i := 4) (j := r) hl (by unfold wix; omega)
      refine z_aload2 197 dL_lays_196 rfl ?_
      refine z_iload9 199 dL_lays_197 rfl ?_
      refine z_iconst 200 dL_lays_199 rfl ?_
      refine z_iadd 201 dL_lays_200 rfl ?_
      refine z_iload8 203 dL_lays_201 rfl ?_
      refine z_bipush 205 dL_lays_203 (by decide) rfl ?_
      refine z_ishr 206 dL_lays_205 rfl ?_
      refine z_bipush 208 dL_lays_206 (by decide) rfl ?_
      refine z_iand 209 dL_lays_208 rfl ?_
      rw [show zand (zshr (yvr X r) 8) 7 = vr5 X r from rfl]
      refine z_iastN 210 (25 + 4 * r) dL_lays_209 (by assumption) (by omega) (by omega) rfl ?_
      have hl := lT_up (v := vr5 X r) (k := 25 + 4 * r) (i := 5) (j := r) hl (by unfold wix; omega)
      refine z_aload2 211 dL_lays_210 rfl ?_
      refine z_iload9 213 dL_lays_211 rfl ?_
      refine z_iconst 214 dL_lays_213 rfl ?_
      refine z_iadd 215 dL_lays_214 rfl ?_
      refine z_bipush 217 dL_lays_215 (by decide) rfl ?_
      refine z_iastN 218 (26 + 4 * r) dL_lays_217 (by assumption) (by omega) (by omega) rfl ?_
      have hl := lT_up (v := 30) (k := 26 + 4 * r) (i := 6) (j := r) hl (by unfold wix; omega)
      have hl : lT _ _ _ _ _ _ (vsr0 X r V) := hl
      refine z_aload0 219 dL_lays_218 rfl ?_
      refine z_iload7 221 dL_lays_219 rfl ?_
      refine z_if_ne 229 224 dL_lays_221 (by decide) rfl (by omega) (fun h221 => ?_) (fun h221 => ?_)
      · refine z_bipush 231 dL_lays_229 (by decide) rfl ?_
        refine stk_eq (v' := rhd r) (by unfold rhd; first | rw [if_pos (by omega)] | rw [if_neg (by omega)]) ?_
        refine z_pV1 234 dL_lays_231 lk_L_lays_9 (pt_type hl hrh (by omega)) rfl (Nat.le_of_ble_eq_true rfl) (Nat.le_of_ble_eq_true rfl) (by assumption) rfl rfl (fun r0 sh0 I0 L0 R0 hpq => ?_)
        obtain ⟨rfl, rfl, hl⟩ := hpq
        refine z_if_le 302 237 dL_lays_234 (by decide) rfl (by omega) (fun hz => absurd hz (by omega)) (fun h234 => ?_)
        refine z_aload0 238 dL_lays_237 rfl ?_
        refine z_aload2 239 dL_lays_238 rfl ?_
        refine z_iload9 241 dL_lays_239 rfl ?_
        refine z_ialdx 242 (23 + 4 * r) dL_lays_241 (by assumption) (by omega) (by omega) ((lT_r23 hl r5).trans v3) rfl ?_
        refine z_xS1 245 dL_lays_242 lk_L_lays_25 (ct_L_sort q3) rfl (Nat.le_of_ble_eq_true rfl) (Nat.le_of_ble_eq_true rfl) rfl ?_
        refine z_pV1 248 dL_lays_245 lk_L_lays_9 (pt_type hl (by omega) (by omega)) rfl (Nat.le_of_ble_eq_true rfl) (Nat.le_of_ble_eq_true rfl) (by assumption) rfl rfl (fun r0 sh0 I0 L0 R0 hpq => ?_)
        obtain ⟨rfl, rfl, hl⟩ := hpq
        refine z_if_le 302 251 dL_lays_248 (by decide) rfl (by omega) (fun hz => absurd hz (by omega)) (fun h248 => ?_)
        refine z_aload0 252 dL_lays_251 rfl ?_
        refine z_aload2 253 dL_lays_252 rfl ?_
        refine z_iload9 255 dL_lays_253 rfl ?_
        refine z_iconst 256 dL_lays_255 rfl ?_
        refine z_iadd 257 dL_lays_256 rfl ?_
        refine z_ialdx 258 (24 + 4 * r) dL_lays_257 (by assumption) (by omega) (by omega) ((lT_r24 hl r5).trans v4) rfl ?_
        refine z_pS2 261 dL_lays_258 lk_L_lays_28 (ct_L_number q4 hl (by omega)) rfl (Nat.le_of_ble_eq_true rfl) (Nat.le_of_ble_eq_true rfl) rfl (fun r0 sh0 I0 L0 R0 hpq => ?_)
        obtain ⟨rfl, rfl, hl⟩ := hpq
        refine z_if_eq 302 264 dL_lays_261 (by decide) rfl (by omega) (fun hz => absurd hz ((by omega))) (fun h261 => ?_)
        refine z_aload2 265 dL_lays_264 rfl ?_
        refine z_iload9 267 dL_lays_265 rfl ?_
        refine z_iconst 268 dL_lays_267 rfl ?_
        refine z_iadd 269 dL_lays_268 rfl ?_
        refine z_ialdx 270 (25 + 4 * r) dL_lays_269 (by assumption) (by omega) (by omega) ((lT_r25 hl r5).trans v5) rfl ?_
        refine z_if_eq 298 273 dL_lays_270 (by decide) rfl (by omega) (fun hz => absurd hz (h5)) (fun h270 => ?_)
        refine z_aload0 274 dL_lays_273 rfl ?_
        refine z_bipush 276 dL_lays_274 (by decide) rfl ?_
        refine z_pV1 279 dL_lays_276 lk_L_lays_9 (pt_type hl (by omega) (by omega)) rfl (Nat.le_of_ble_eq_true rfl) (Nat.le_of_ble_eq_true rfl) (by assumption) rfl rfl (fun r0 sh0 I0 L0 R0 hpq => ?_)
        obtain ⟨rfl, rfl, hl⟩ := hpq
        refine z_if_le 302 282 dL_lays_279 (by decide) rfl (by omega) (fun hz => absurd hz (by omega)) (fun h279 => ?_)
        refine z_aload0 283 dL_lays_282 rfl ?_
        refine z_bipush 285 dL_lays_283 (by decide) rfl ?_
        refine z_aload2 286 dL_lays_285 rfl ?_
        refine z_iload9 288 dL_lays_286 rfl ?_
        refine z_iconst 289 dL_lays_288 rfl ?_
        refine z_iadd 290 dL_lays_289 rfl ?_
        refine z_ialdx 291 (25 + 4 * r) dL_lays_290 (by assumption) (by omega) (by omega) ((lT_r25 hl r5).trans v5) rfl ?_
        refine z_iadd 292 dL_lays_291 rfl ?_
        refine z_pV1 295 dL_lays_292 lk_L_lays_9 (pt_type hl (by omega) (by omega)) rfl (Nat.le_of_ble_eq_true rfl) (Nat.le_of_ble_eq_true rfl) (by assumption) rfl rfl (fun r0 sh0 I0 L0 R0 hpq => ?_)
        obtain ⟨rfl, rfl, hl⟩ := hpq
        refine z_if_le 302 298 dL_lays_295 (by decide) rfl (by omega) (fun hz => absurd hz (by omega)) (fun h295 => ?_)
        refine z_iconst 299 dL_lays_298 rfl ?_
        refine z_goto 303 dL_lays_299 (by decide) ?_
        refine z_istore5 305 dL_lays_303 (Nat.le_of_ble_eq_true rfl) rfl rfl ?_
        refine z_aload2 306 dL_lays_305 rfl ?_
        refine z_iconst 307 dL_lays_306 rfl ?_
        refine z_dup2 308 dL_lays_307 rfl rfl rfl ?_
        refine z_ialdx 309 (0) dL_lays_308 (by assumption) (by omega) (by omega) ((lT_at hl 0).trans v06) rfl ?_
        refine z_iconst 310 dL_lays_309 rfl ?_
        refine z_iadd 311 dL_lays_310 rfl ?_
        refine z_iastN 312 (0) dL_lays_311 (by assumption) (by omega) (by omega) rfl ?_
        have hl := lT_up (v := (r : Int) + 1) (k := 0) (i := 0) (j := 6) hl (by unfold wix; omega)
        refine z_iinc7 315 dL_lays_312 (Nat.le_of_ble_eq_true rfl) rfl rfl ?_
        refine z_goto 126 dL_lays_315 (by decide) ?_
        exact kr _ _ _ _ _ _ hl
      · refine z_bipush 226 dL_lays_224 (by decide) rfl ?_
        refine z_goto 231 dL_lays_226 (by decide) ?_
        refine stk_eq (v' := rhd r) (by unfold rhd; first | rw [if_pos (by omega)] | rw [if_neg (by omega)]) ?_
        refine z_pV1 234 dL_lays_231 lk_L_lays_9 (pt_type hl hrh (by omega)) rfl (Nat.le_of_ble_eq_true rfl) (Nat.le_of_ble_eq_true rfl) (by assumption) rfl rfl (fun r0 sh0 I0 L0 R0 hpq => ?_)
        obtain ⟨rfl, rfl, hl⟩ := hpq
        refine z_if_le 302 237 dL_lays_234 (by decide) rfl (by omega) (fun hz => absurd hz (by omega)) (fun h234 => ?_)
        refine z_aload0 238 dL_lays_237 rfl ?_
        refine z_aload2 239 dL_lays_238 rfl ?_
        refine z_iload9 241 dL_lays_239 rfl ?_
        refine z_ialdx 242 (23 + 4 * r) dL_lays_241 (by assumption) (by omega) (by omega) ((lT_r23 hl r5).trans v3) rfl ?_
        refine z_xS1 245 dL_lays_242 lk_L_lays_25 (ct_L_sort q3) rfl (Nat.le_of_ble_eq_true rfl) (Nat.le_of_ble_eq_true rfl) rfl ?_
        refine z_pV1 248 dL_lays_245 lk_L_lays_9 (pt_type hl (by omega) (by omega)) rfl (Nat.le_of_ble_eq_true rfl) (Nat.le_of_ble_eq_true rfl) (by assumption) rfl rfl (fun r0 sh0 I0 L0 R0 hpq => ?_)
        obtain ⟨rfl, rfl, hl⟩ := hpq
        refine z_if_le 302 251 dL_lays_248 (by decide) rfl (by omega) (fun hz => absurd hz (by omega)) (fun h248 => ?_)
        refine z_aload0 252 dL_lays_251 rfl ?_
        refine z_aload2 253 dL_lays_252 rfl ?_
        refine z_iload9 255 dL_lays_253 rfl ?_
        refine z_iconst 256 dL_lays_255 rfl ?_
        refine z_iadd 257 dL_lays_256 rfl ?_
        refine z_ialdx 258 (24 + 4 * r) dL_lays_257 (by assumption) (by omega) (by omega) ((lT_r24 hl r5).trans v4) rfl ?_
        refine z_pS2 261 dL_lays_258 lk_L_lays_28 (ct_L_number q4 hl (by omega)) rfl (Nat.le_of_ble_eq_true rfl) (Nat.le_of_ble_eq_true rfl) rfl (fun r0 sh0 I0 L0 R0 hpq => ?_)
        obtain ⟨rfl, rfl, hl⟩ := hpq
        refine z_if_eq 302 264 dL_lays_261 (by decide) rfl (by omega) (fun hz => absurd hz ((by omega))) (fun h261 => ?_)
        refine z_aload2 265 dL_lays_264 rfl ?_
        refine z_iload9 267 dL_lays_265 rfl ?_
        refine z_iconst 268 dL_lays_267 rfl ?_
        refine z_iadd 269 dL_lays_268 rfl ?_
        refine z_ialdx 270 (25 + 4 * r) dL_lays_269 (by assumption) (by omega) (by omega) ((lT_r25 hl r5).trans v5) rfl ?_
        refine z_if_eq 298 273 dL_lays_270 (by decide) rfl (by omega) (fun hz => absurd hz (h5)) (fun h270 => ?_)
        refine z_aload0 274 dL_lays_273 rfl ?_
        refine z_bipush 276 dL_lays_274 (by decide) rfl ?_
        refine z_pV1 279 dL_lays_276 lk_L_lays_9 (pt_type hl (by omega) (by omega)) rfl (Nat.le_of_ble_eq_true rfl) (Nat.le_of_ble_eq_true rfl) (by assumption) rfl rfl (fun r0 sh0 I0 L0 R0 hpq => ?_)
        obtain ⟨rfl, rfl, hl⟩ := hpq
        refine z_if_le 302 282 dL_lays_279 (by decide) rfl (by omega) (fun hz => absurd hz (by omega)) (fun h279 => ?_)
        refine z_aload0 283 dL_lays_282 rfl ?_
        refine z_bipush 285 dL_lays_283 (by decide) rfl ?_
        refine z_aload2 286 dL_lays_285 rfl ?_
        refine z_iload9 288 dL_lays_286 rfl ?_
        refine z_iconst 289 dL_lays_288 rfl ?_
        refine z_iadd 290 dL_lays_289 rfl ?_
        refine z_ialdx 291 (25 + 4 * r) dL_lays_290 (by assumption) (by omega) (by omega) ((lT_r25 hl r5).trans v5) rfl ?_
        refine z_iadd 292 dL_lays_291 rfl ?_
        refine z_pV1 295 dL_lays_292 lk_L_lays_9 (pt_type hl (by omega) (by omega)) rfl (Nat.le_of_ble_eq_true rfl) (Nat.le_of_ble_eq_true rfl) (by assumption) rfl rfl (fun r0 sh0 I0 L0 R0 hpq => ?_)
        obtain ⟨rfl, rfl, hl⟩ := hpq
        refine z_if_le 302 298 dL_lays_295 (by decide) rfl (by omega) (fun hz => absurd hz (by omega)) (fun h295 => ?_)
        refine z_iconst 299 dL_lays_298 rfl ?_
        refine z_goto 303 dL_lays_299 (by decide) ?_
        refine z_istore5 305 dL_lays_303 (Nat.le_of_ble_eq_true rfl) rfl rfl ?_
        refine z_aload2 306 dL_lays_305 rfl ?_
        refine z_iconst 307 dL_lays_306 rfl ?_
        refine z_dup2 308 dL_lays_307 rfl rfl rfl ?_
        refine z_ialdx 309 (0) dL_lays_308 (by assumption) (by omega) (by omega) ((lT_at hl 0).trans v06) rfl ?_
        refine z_iconst 310 dL_lays_309 rfl ?_
        refine z_iadd 311 dL_lays_310 rfl ?_
        refine z_iastN 312 (0) dL_lays_311 (by assumption) (by omega) (by omega) rfl ?_
        have hl := lT_up (v := (r : Int) + 1) (k := 0) (i := 0) (j := 6) hl (by unfold wix; omega)
        refine z_iinc7 315 dL_lays_312 (Nat.le_of_ble_eq_true rfl) rfl rfl ?_
        refine z_goto 126 dL_lays_315 (by decide) ?_
        exact kr _ _ _ _ _ _ hl
theorem lp_lays16 {N : Nat → Int} (hX : X.1 ≤ 260) (hj : ∀ j, -2147483648 ≤ X.2 j ∧ X.2 j ≤ 2147483647) : ∀ (m t : Nat) (V : zT) (z6 z7 z8 z9 : zV) (I L : zI2) (R : zR2), t + m = 10 → vI V 0 → lT sh I L R (tA S0 [] shs) N V → zE X mL_lays 0 0 16 [zR 0, zS, zR 157, zI (pcl X 0), zI (vsm X), zI (t : Int), z6, z7, z8, z9] [] sh I L R (lyQ sh S0 shs (lvr X (vnr X).toNat 0 (lvt X (vsm X) m t V)))
  | 0, t, V, z6, z7, z8, z9, I, L, R, hm, hV, hl => by
    have s0 := lT_s0 hl
    have hnr := vnr_r X
    have hpx := pcl_r X 0
    have b7 : 0 ≤ zand (zshr (pcl X 0) 2) 7 ∧ zand (zshr (pcl X 0) 2) 7 ≤ 7 := zand_r 7 3 rfl (by omega)
    have tl := ttx_len V 10 0
    have hfin : lvt X (vsm X) 0 t V = V := rfl
    rw [hfin]
    refine z_iload5 18 dL_lays_16 rfl ?_
    refine z_bipush 20 dL_lays_18 (by decide) rfl ?_
    refine z_icmp_ge 104 23 dL_lays_20 (by decide) rfl (by omega) (by omega) (fun h20 => ?_) (fun hz => absurd hz (by omega))
    refine z_aload0 105 dL_lays_104 rfl ?_
    refine z_aload2 106 dL_lays_105 rfl ?_
    refine z_pS2 109 dL_lays_106 lk_L_lays_21 (ct_L_turns hV.1 hl (by show 0 ≤ 30; omega)) rfl (Nat.le_of_ble_eq_true rfl) (Nat.le_of_ble_eq_true rfl) rfl (fun r0 sh0 I0 L0 R0 hpq => ?_)
    obtain ⟨rfl, rfl, hl⟩ := hpq
    refine z_istore5 111 dL_lays_109 (Nat.le_of_ble_eq_true rfl) rfl rfl ?_
    refine z_iconst 112 dL_lays_111 rfl ?_
    refine z_iload3 113 dL_lays_112 rfl ?_
    refine z_iconst 114 dL_lays_113 rfl ?_
    refine z_ishr 115 dL_lays_114 rfl ?_
    refine z_bipush 117 dL_lays_115 (by decide) rfl ?_
    refine z_iand 118 dL_lays_117 rfl ?_
    refine z_iconst 119 dL_lays_118 rfl ?_
    refine z_irem 120 dL_lays_119 (by omega) (by omega) rfl ?_
    refine z_iadd 121 dL_lays_120 rfl ?_
    rw [show 1 + zand (zshr (pcl X 0) 2) 7 % 5 = vnr X from rfl]
    refine z_istore6 123 dL_lays_121 (Nat.le_of_ble_eq_true rfl) rfl rfl ?_
    refine z_iconst 124 dL_lays_123 rfl ?_
    refine z_istore7 126 dL_lays_124 (Nat.le_of_ble_eq_true rfl) rfl rfl ?_
    exact lp_lays126 hX hj rfl (vnr X).toNat 0 V N _ _ _ _ _ _ (by omega) hV (by rw [List.nil_append]; exact (List.append_nil _).symm) (by rw [List.nil_append]; omega) hl
  | m + 1, t, V, z6, z7, z8, z9, I, L, R, hm, hV, hl => by
    have s0 := lT_s0 hl
    have s157 := hl.2.1
    have hsm := vsm_r X
    have hpx := pcl_r X (1 + t / 4)
    have b15 : 0 ≤ zand (yvt X t) 15 ∧ zand (yvt X t) 15 ≤ 15 := zand_r 15 4 rfl (by omega)
    have b7 : 0 ≤ zand (zshr (yvt X t) 4) 7 ∧ zand (zshr (yvt X t) 4) 7 ≤ 7 := zand_r 7 3 rfl (by omega)
    have b31 : 0 ≤ zand (zshr (yvt X t) 2) 31 ∧ zand (zshr (yvt X t) 2) 31 ≤ 31 := zand_r 31 5 rfl (by omega)
    have hV2 := vI_t X hsm.1 t hV
    have kr := fun z6 z7 z8 z9 I L R => lp_lays16 (N := N) hX hj m (t + 1) (vst X (vsm X) t V) z6 z7 z8 z9 I L R (by omega) hV2
    have hfin : lvt X (vsm X) (m + 1) t V = lvt X (vsm X) m (t + 1) (vst X (vsm X) t V) := rfl
    rw [hfin]
    refine z_iload5 18 dL_lays_16 rfl ?_
    refine z_bipush 20 dL_lays_18 (by decide) rfl ?_
    refine z_icmp_ge 104 23 dL_lays_20 (by decide) rfl (by omega) (by omega) (fun hz => absurd hz (by omega)) (fun h20 => ?_)
    refine z_aloadS1 24 dL_lays_23 rfl ?_
    refine z_iconst 25 dL_lays_24 rfl ?_
    refine z_iload5 27 dL_lays_25 rfl ?_
    refine z_iconst 28 dL_lays_27 rfl ?_
    refine z_idiv 29 dL_lays_28 (by omega) (by omega) rfl ?_
    refine z_iadd 30 dL_lays_29 rfl ?_
    rw [show 1 + (t : Int) / 4 = ((1 + t / 4 : Nat) : Int) by omega]
    refine z_xS2 33 dL_lays_30 lk_L_lays_15 (ct_L_cell hX hj (by omega)) rfl (Nat.le_of_ble_eq_true rfl) (Nat.le_of_ble_eq_true rfl) rfl ?_
    refine z_bipush 35 dL_lays_33 (by decide) rfl ?_
    refine z_iload5 37 dL_lays_35 rfl ?_
    refine z_iconst 38 dL_lays_37 rfl ?_
    refine z_irem 39 dL_lays_38 (by omega) (by omega) rfl ?_
    refine z_imul 40 dL_lays_39 rfl ?_
    refine z_ishr 41 dL_lays_40 rfl ?_
    rw [show zshr (pcl X (1 + t / 4)) (7 * ((t : Int) % 4)) = yvt X t from rfl]
    refine z_istore6 43 dL_lays_41 (Nat.le_of_ble_eq_true rfl) rfl rfl ?_
    refine z_aload2 44 dL_lays_43 rfl ?_
    refine z_iconst 45 dL_lays_44 rfl ?_
    refine z_iload5 47 dL_lays_45 rfl ?_
    refine z_iadd 48 dL_lays_47 rfl ?_
    refine z_iload6 50 dL_lays_48 rfl ?_
    refine z_bipush 52 dL_lays_50 (by decide) rfl ?_
    refine z_iand 53 dL_lays_52 rfl ?_
    refine z_bipush 55 dL_lays_53 (by decide) rfl ?_
    refine z_irem 56 dL_lays_55 (by omega) (by omega) rfl ?_
    refine z_iload4 58 dL_lays_56 rfl ?_
    refine z_idiv 59 dL_lays_58 (by omega) (by omega) rfl ?_
    rw [show zand (yvt X t) 15 % 10 / vsm X = ve1 X (vsm X) t from rfl]
    refine z_iastN 60 (3 + t) dL_lays_59 (by assumption) (by omega) (by omega) rfl ?_
    have hl := lT_up (v := ve1 X (vsm X) t) (k := 3 + t) (i := 1) (j := t) hl (by unfold wix; omega)
    refine z_aload2 61 dL_lays_60 rfl ?_
    refine z_bipush 63 dL_lays_61 (by decide) rfl ?_
    refine z_iload5 65 dL_lays_63 rfl ?_
    refine z_iadd 66 dL_lays_65 rfl ?_
    refine z_iload6 68 dL_lays_66 rfl ?_
    refine z_iconst 69 dL_lays_68 rfl ?_
    refine z_ishr 70 dL_lays_69 rfl ?_
    refine z_bipush 72 dL_lays_70 (by decide) rfl ?_
    refine z_iand 73 dL_lays_72 rfl ?_
    refine z_bipush 75 dL_lays_73 (by decide) rfl ?_
    refine z_icmp_ge 82 78 dL_lays_75 (by decide) rfl (by omega) (by omega) (fun h75 => ?_) (fun h75 => ?_)
    · refine z_iconst 83 dL_lays_82 rfl ?_
      refine z_iload6 85 dL_lays_83 rfl ?_
      refine z_iconst 86 dL_lays_85 rfl ?_
      refine z_ishr 87 dL_lays_86 rfl ?_
      refine z_bipush 89 dL_lays_87 (by decide) rfl ?_
      refine z_iand 90 dL_lays_89 rfl ?_
      refine z_bipush 92 dL_lays_90 (by decide) rfl ?_
      refine z_irem 93 dL_lays_92 (by omega) (by omega) rfl ?_
      refine z_iload4 95 dL_lays_93 rfl ?_
      refine z_idiv 96 dL_lays_95 (by omega) (by omega) rfl ?_
      refine z_iadd 97 dL_lays_96 rfl ?_
      refine stk_eq (v' := ve2 X (vsm X) t) (by unfold ve2; first | rw [if_pos (by omega)] | rw [if_neg (by omega)]) ?_
      refine z_iastN 98 (13 + t) dL_lays_97 (by assumption) (by omega) (by omega) rfl ?_
      have hl := lT_up (v := ve2 X (vsm X) t) (k := 13 + t) (i := 2) (j := t) hl (by unfold wix; omega)
      refine z_iinc5 101 dL_lays_98 (Nat.le_of_ble_eq_true rfl) rfl rfl ?_
      refine z_goto 16 dL_lays_101 (by decide) ?_
      exact kr _ _ _ _ _ _ _ hl
    · refine z_iconst 79 dL_lays_78 rfl ?_
      refine z_goto 97 dL_lays_79 (by decide) ?_
      refine stk_eq (v' := ve2 X (vsm X) t) (by unfold ve2; first | rw [if_pos (by omega)] | rw [if_neg (by omega)]) ?_
      refine z_iastN 98 (13 + t) dL_lays_97 (by assumption) (by omega) (by omega) rfl ?_
      have hl := lT_up (v := ve2 X (vsm X) t) (k := 13 + t) (i := 2) (j := t) hl (by unfold wix; omega)
      refine z_iinc5 101 dL_lays_98 (Nat.le_of_ble_eq_true rfl) rfl rfl ?_
      refine z_goto 16 dL_lays_101 (by decide) ?_
      exact kr _ _ _ _ _ _ _ hl
theorem ct_L_lays {N : Nat → Int} {I L : zI2} {R : zR2} (hX : X.1 ≤ 260) (hj : ∀ j, -2147483648 ≤ X.2 j ∧ X.2 j ≤ 2147483647) (hl : lT sh I L R (tA S0 [] shs) N zz) : zE X mL_lays 0 0 0 [zR 0, zS, zR 157, zX, zX, zX, zX, zX, zX, zX] [] sh I L R (lyQ sh S0 shs (vfin X)) := by
  refine z_aloadS1 1 dL_lays_0 rfl ?_
  refine z_iconst 2 dL_lays_1 rfl ?_
  refine z_xS2 5 dL_lays_2 lk_L_lays_15 (ct_L_cell (i := 0) hX hj (by omega)) rfl (Nat.le_of_ble_eq_true rfl) (Nat.le_of_ble_eq_true rfl) rfl ?_
  refine z_istore3 6 dL_lays_5 (Nat.le_of_ble_eq_true rfl) rfl rfl ?_
  refine z_iconst 7 dL_lays_6 rfl ?_
  refine z_iload3 8 dL_lays_7 rfl ?_
  refine z_iconst 9 dL_lays_8 rfl ?_
  refine z_iand 10 dL_lays_9 rfl ?_
  refine z_iadd 11 dL_lays_10 rfl ?_
  rw [show 1 + zand (pcl X 0) 3 = vsm X from rfl]
  refine z_istore4 13 dL_lays_11 (Nat.le_of_ble_eq_true rfl) rfl rfl ?_
  refine z_iconst 14 dL_lays_13 rfl ?_
  refine z_istore5 16 dL_lays_14 (Nat.le_of_ble_eq_true rfl) rfl rfl ?_
  exact lp_lays16 hX hj 10 0 zz _ _ _ _ _ _ _ rfl ⟨zz_sr, rfl, rfl, fun q hq => by omega⟩ hl
end LAYSB
