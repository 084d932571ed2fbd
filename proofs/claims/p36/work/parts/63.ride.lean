/-! ===== the law's own ride ===== -/
theorem rdL_eq {X : zXs} {M : zM} {k w pc : Nat} {a0 a1 a2 a4 a5 a6 a7 : zV} {v v' : Int} {st : List zV} {sh : zH} {I L : zI2} {R : zR2} {Q : zQ} (e : v = v') (h : zE X M k w pc [a0, a1, a2, zI v', a4, a5, a6, a7] st sh I L R Q) : zE X M k w pc [a0, a1, a2, zI v, a4, a5, a6, a7] st sh I L R Q := by subst e; exact h
def lQ (sh : zH) (I L : zI2) (R : zR2) (q : Nat) (N : Nat → Int) (S : zT) : zQ := fun r' sh' I' L' R' => r' = [] ∧ sh' = sh ∧ L' = L ∧ R' = R ∧ ∃ J, (∀ a, a ≠ q → J a = I a) ∧ I' = wN J N S
theorem lq_up {I J : zI2} {q j : Nat} {v : Int} (h : ∀ a, a ≠ q → J a = I a) : ∀ a, a ≠ q → zup J q j v a = I a := fun a ha => (zup_row J v ha).trans (h a ha)
section RIDE
variable {X : zXs} {sh : zH} {I J L : zI2} {R : zR2} {N : Nat → Int} {q r : Nat}
theorem tl_L_ride196 {S : zT} {v e fe : Int} {z2 z5 z6 z7 : zV} (hs : sh[157]? = some (20, 43)) (hS : zSr S) (h5 : r < 5) (hJ : ∀ a, a ≠ q → J a = I a) (he : -1 ≤ e ∧ e ≤ 9) (hv : e < 0 → 0 ≤ v ∧ v ≤ 30) (hf1 : e < 0 → fe = (v + S 5 r) % 8) (hf2 : 0 ≤ e → fe = 10 + e) : zE X mL_ride 0 0 196 [zR 157, zI (r : Int), z2, zI v, zI e, z5, z6, z7] [] sh (wN J N S) L R (lQ sh I L R q N (mf7 (zup S 6 r fe))) := by
  have hl := hS.2.2.2.2.2.1 r h5
  refine z_aload0 197 dL_ride_196 rfl ?_
  refine z_bipush 199 dL_ride_197 (by decide) rfl ?_
  refine z_iconst 200 dL_ride_199 rfl ?_
  refine z_iload1 201 dL_ride_200 rfl ?_
  refine z_imul 202 dL_ride_201 rfl ?_
  refine z_iadd 203 dL_ride_202 rfl ?_
  refine z_iload4 205 dL_ride_203 rfl ?_
  refine z_if_ge 224 208 dL_ride_205 (by decide) rfl (by omega) (fun h205 => ?_) (fun h205 => ?_)
  · have hfe := hf2 (by omega)
    refine z_bipush 226 dL_ride_224 (by decide) rfl ?_
    refine z_iload4 228 dL_ride_226 rfl ?_
    refine z_iadd 229 dL_ride_228 rfl ?_
    rw [← hfe]
    refine z_iastx 230 (26 + 4 * r) dL_ride_229 (by assumption) (by omega) (by omega) (wN_up _ _ _ (i := 6) (j := r) (by unfold wix; omega) _) rfl ?_
    refine z_aload0 231 dL_ride_230 rfl ?_
    refine z_iconst 232 dL_ride_231 rfl ?_
    refine z_dup2 233 dL_ride_232 rfl rfl rfl ?_
    refine z_ialdx 234 (1) dL_ride_233 (by assumption) (by omega) (by omega) (wN_1 _ _ _) rfl ?_
    refine z_iconst 235 dL_ride_234 rfl ?_
    refine z_iadd 236 dL_ride_235 rfl ?_
    refine z_iastx 237 (1) dL_ride_236 (by assumption) (by omega) (by omega) (wN_up _ _ _ (i := 0) (j := 7) (by unfold wix; omega) _) rfl ?_
    exact z_return dL_ride_237 rfl (⟨rfl, rfl, rfl, rfl, J, hJ, rfl⟩)
  · have hfe := hf1 (by omega)
    have hv2 := hv (by omega)
    refine z_iload3 209 dL_ride_208 rfl ?_
    refine z_aload0 210 dL_ride_209 rfl ?_
    refine z_bipush 212 dL_ride_210 (by decide) rfl ?_
    refine z_iconst 213 dL_ride_212 rfl ?_
    refine z_iload1 214 dL_ride_213 rfl ?_
    refine z_imul 215 dL_ride_214 rfl ?_
    refine z_iadd 216 dL_ride_215 rfl ?_
    refine z_ialdx 217 (25 + 4 * r) dL_ride_216 (by assumption) (by omega) (by omega) (wN_5 _ _ _ h5) rfl ?_
    refine z_iadd 218 dL_ride_217 rfl ?_
    refine z_bipush 220 dL_ride_218 (by decide) rfl ?_
    refine z_irem 221 dL_ride_220 (by omega) (by omega) rfl ?_
    refine z_goto 229 dL_ride_221 (by decide) ?_
    rw [← hfe]
    refine z_iastx 230 (26 + 4 * r) dL_ride_229 (by assumption) (by omega) (by omega) (wN_up _ _ _ (i := 6) (j := r) (by unfold wix; omega) _) rfl ?_
    refine z_aload0 231 dL_ride_230 rfl ?_
    refine z_iconst 232 dL_ride_231 rfl ?_
    refine z_dup2 233 dL_ride_232 rfl rfl rfl ?_
    refine z_ialdx 234 (1) dL_ride_233 (by assumption) (by omega) (by omega) (wN_1 _ _ _) rfl ?_
    refine z_iconst 235 dL_ride_234 rfl ?_
    refine z_iadd 236 dL_ride_235 rfl ?_
    refine z_iastx 237 (1) dL_ride_236 (by assumption) (by omega) (by omega) (wN_up _ _ _ (i := 0) (j := 7) (by unfold wix; omega) _) rfl ?_
    exact z_return dL_ride_237 rfl (⟨rfl, rfl, rfl, rfl, J, hJ, rfl⟩)
theorem lp_L_ride149 {v e fe l : Int} {tn : Nat} {z2 z6 z7 : zV} (hs : sh[157]? = some (20, 43)) (h5 : r < 5) (hJ : ∀ a, a ≠ q → J a = I a) (he : (e = -1 ∧ tn = 10) ∨ (e = (tn : Int) ∧ tn < 10)) (hv : e < 0 → 0 ≤ v ∧ v ≤ 30) (hf1 : e < 0 → fe = (v + l) % 8) (hf2 : 0 ≤ e → fe = 10 + e) : ∀ (m t : Nat) (S : zT), t + m = tn → zSr S → S 5 r = l → zE X mL_ride 0 0 149 [zR 157, zI (r : Int), z2, zI v, zI e, zI (t : Int), z6, z7] [] sh (wN J N S) L R (lQ sh I L R q N (mf7 (zup (mdc m t S) 6 r fe)))
  | 0, t, S, h, hS, hl => by
    refine z_iload5 151 dL_ride_149 rfl ?_
    refine z_bipush 153 dL_ride_151 (by decide) rfl ?_
    refine z_icmp_ge 196 156 dL_ride_153 (by decide) rfl (by omega) (by omega) (fun h153 => ?_) (fun h153 => ?_)
    · exact tl_L_ride196 hs hS h5 hJ (by omega) hv (fun z => by rw [hl]; exact hf1 z) hf2
    · refine z_iload5 158 dL_ride_156 rfl ?_
      refine z_iload4 160 dL_ride_158 rfl ?_
      refine z_icmp_eq 196 163 dL_ride_160 (by decide) rfl (by omega) (by omega) (fun h160 => ?_) (fun hz => absurd hz (by omega))
      exact tl_L_ride196 hs hS h5 hJ (by omega) hv (fun z => by rw [hl]; exact hf1 z) hf2
  | m + 1, t, S, h, hS, hl => by
    have h1 := hS.2.1 t (by omega)
    refine z_iload5 151 dL_ride_149 rfl ?_
    refine z_bipush 153 dL_ride_151 (by decide) rfl ?_
    refine z_icmp_ge 196 156 dL_ride_153 (by decide) rfl (by omega) (by omega) (fun hz => absurd hz (by omega)) (fun h153 => ?_)
    refine z_iload5 158 dL_ride_156 rfl ?_
    refine z_iload4 160 dL_ride_158 rfl ?_
    refine z_icmp_eq 196 163 dL_ride_160 (by decide) rfl (by omega) (by omega) (fun hz => absurd hz (by omega)) (fun h160 => ?_)
    refine z_aload0 164 dL_ride_163 rfl ?_
    refine z_iconst 165 dL_ride_164 rfl ?_
    refine z_iload5 167 dL_ride_165 rfl ?_
    refine z_iadd 168 dL_ride_167 rfl ?_
    refine z_aload0 169 dL_ride_168 rfl ?_
    refine z_iconst 170 dL_ride_169 rfl ?_
    refine z_iload5 172 dL_ride_170 rfl ?_
    refine z_iadd 173 dL_ride_172 rfl ?_
    refine z_ialdx 174 (3 + t) dL_ride_173 (by assumption) (by omega) (by omega) (wN_r _ _ _ (by omega)) rfl ?_
    refine z_if_ne 181 177 dL_ride_174 (by decide) rfl (by omega) (fun h174 => ?_) (fun h174 => ?_)
    · refine z_aload0 182 dL_ride_181 rfl ?_
      refine z_iconst 183 dL_ride_182 rfl ?_
      refine z_iload5 185 dL_ride_183 rfl ?_
      refine z_iadd 186 dL_ride_185 rfl ?_
      refine z_ialdx 187 (3 + t) dL_ride_186 (by assumption) (by omega) (by omega) (wN_r _ _ _ (by omega)) rfl ?_
      refine z_iconst 188 dL_ride_187 rfl ?_
      refine z_isub 189 dL_ride_188 rfl ?_
      refine z_iastx 190 (3 + t) dL_ride_189 (by assumption) (by omega) (by omega) (wN_up _ _ _ (i := 1) (j := t) (by unfold wix; omega) _) rfl ?_
      refine z_iinc5 193 dL_ride_190 (Nat.le_of_ble_eq_true rfl) rfl rfl ?_
      refine z_goto 149 dL_ride_193 (by decide) ?_
      first | (rw [show mdc (m + 1) t S = mdc m (t + 1) (zup S 1 t (S 1 t - 1)) by rw [mdc, if_pos (by omega)]]; exact lp_L_ride149 hs h5 hJ he hv hf1 hf2 m (t + 1) _ (by omega) (zSr_up1 hS t (by omega)) (by rw [zup_row S _ (show (5 : Nat) ≠ 1 by decide)]; exact hl)) | (rw [show mdc (m + 1) t S = mdc m (t + 1) (zup S 1 t 0) by rw [mdc, if_neg (by omega), show S 1 t - 0 = 0 by omega]]; exact lp_L_ride149 hs h5 hJ he hv hf1 hf2 m (t + 1) _ (by omega) (zSr_up1 hS t (by omega)) (by rw [zup_row S _ (show (5 : Nat) ≠ 1 by decide)]; exact hl))
    · refine z_iconst 178 dL_ride_177 rfl ?_
      refine z_goto 189 dL_ride_178 (by decide) ?_
      refine z_iastx 190 (3 + t) dL_ride_189 (by assumption) (by omega) (by omega) (wN_up _ _ _ (i := 1) (j := t) (by unfold wix; omega) _) rfl ?_
      refine z_iinc5 193 dL_ride_190 (Nat.le_of_ble_eq_true rfl) rfl rfl ?_
      refine z_goto 149 dL_ride_193 (by decide) ?_
      first | (rw [show mdc (m + 1) t S = mdc m (t + 1) (zup S 1 t (S 1 t - 1)) by rw [mdc, if_pos (by omega)]]; exact lp_L_ride149 hs h5 hJ he hv hf1 hf2 m (t + 1) _ (by omega) (zSr_up1 hS t (by omega)) (by rw [zup_row S _ (show (5 : Nat) ≠ 1 by decide)]; exact hl)) | (rw [show mdc (m + 1) t S = mdc m (t + 1) (zup S 1 t 0) by rw [mdc, if_neg (by omega), show S 1 t - 0 = 0 by omega]]; exact lp_L_ride149 hs h5 hJ he hv hf1 hf2 m (t + 1) _ (by omega) (zSr_up1 hS t (by omega)) (by rw [zup_row S _ (show (5 : Nat) ≠ 1 by decide)]; exact hl))
/-- he has been stopped at e: the rest of the row is none -/
theorem lp_L_rideE {v : Int} {e : Nat} {S : zT} (hs : sh[157]? = some (20, 43)) (hq : sh[q]? = some (20, 10)) (hq7 : q ≠ 157) (h5 : r < 5) (hS : zSr S) (he : e < 10) : ∀ (m t : Nat) (J : zI2) (z6 z7 : zV), t + m = 10 → (∀ a, a ≠ q → J a = I a) → zE X mL_ride 0 0 18 [zR 157, zI (r : Int), zR q, zI v, zI (e : Int), zI (t : Int), z6, z7] [] sh (wN J N S) L R (lQ sh I L R q N (mf7 (zup (mdc e 0 S) 6 r (10 + (e : Int)))))
  | 0, t, J, z6, z7, h, hJ => by
    refine z_iload5 20 dL_ride_18 rfl ?_
    refine z_bipush 22 dL_ride_20 (by decide) rfl ?_
    refine z_icmp_ge 146 25 dL_ride_22 (by decide) rfl (by omega) (by omega) (fun h22 => ?_) (fun hz => absurd hz (by omega))
    refine z_iconst 147 dL_ride_146 rfl ?_
    refine z_istore5 149 dL_ride_147 (Nat.le_of_ble_eq_true rfl) rfl rfl ?_
    exact lp_L_ride149 (l := S 5 r) hs h5 hJ (Or.inr ⟨rfl, he⟩) (fun z => by omega) (fun z => by omega) (fun _ => rfl) e 0 S (by omega) hS rfl
  | m + 1, t, J, z6, z7, h, hJ => by
    refine z_iload5 20 dL_ride_18 rfl ?_
    refine z_bipush 22 dL_ride_20 (by decide) rfl ?_
    refine z_icmp_ge 146 25 dL_ride_22 (by decide) rfl (by omega) (by omega) (fun hz => absurd hz (by omega)) (fun h22 => ?_)
    refine z_aload2 26 dL_ride_25 rfl ?_
    refine z_iload5 28 dL_ride_26 rfl ?_
    refine z_bipush 30 dL_ride_28 (by decide) rfl ?_
    refine z_iastx 31 (t) dL_ride_30 (by assumption) (by omega) (by omega) (wN_upo _ _ _ hq7 _ _) rfl ?_
    refine z_iload4 33 dL_ride_31 rfl ?_
    refine z_if_ge 140 36 dL_ride_33 (by decide) rfl (by omega) (fun h33 => ?_) (fun hz => absurd hz (by omega))
    refine z_iinc5 143 dL_ride_140 (Nat.le_of_ble_eq_true rfl) rfl rfl ?_
    refine z_goto 18 dL_ride_143 (by decide) ?_
    exact lp_L_rideE hs hq hq7 h5 hS he m (t + 1) _ _ _ (by omega) (lq_up hJ)
theorem lp_L_ride (hs : sh[157]? = some (20, 43)) (hq : sh[q]? = some (20, 10)) (hq7 : q ≠ 157) (h5 : r < 5) : ∀ (m t : Nat) (v : Int) (S : zT) (B : Nat → Int) (J : zI2) (z6 z7 : zV), t + m = 10 → zSr S → zuq S → 0 < v ∧ v ≤ 30 → (∀ a, a ≠ q → J a = I a) → zE X mL_ride 0 0 18 [zR 157, zI (r : Int), zR q, zI v, zI (-1), zI (t : Int), z6, z7] [] sh (wN J N S) L R (lQ sh I L R q N (mfs r (mrl r m t v S B)))
  | 0, t, v, S, B, J, z6, z7, h, hS, hu, hv, hJ => by
    have ht : t = 10 := by omega
    subst ht
    have em : mfs r (mrl r 0 10 v S B) = mf7 (zup (mdc 10 0 S) 6 r ((v + S 5 r) % 8)) := by
      unfold mfs mfe mrl
      rw [if_neg (by show ¬ (10 : Nat) < 10; omega), mdc_up6]
    rw [em]
    refine z_iload5 20 dL_ride_18 rfl ?_
    refine z_bipush 22 dL_ride_20 (by decide) rfl ?_
    refine z_icmp_ge 146 25 dL_ride_22 (by decide) rfl (by omega) (by omega) (fun h22 => ?_) (fun hz => absurd hz (by omega))
    refine z_iconst 147 dL_ride_146 rfl ?_
    refine z_istore5 149 dL_ride_147 (Nat.le_of_ble_eq_true rfl) rfl rfl ?_
    exact lp_L_ride149 (l := S 5 r) hs h5 hJ (Or.inl ⟨rfl, rfl⟩) (fun z => by omega) (fun _ => rfl) (fun z => by omega) 10 0 S (by omega) hS rfl
  | m + 1, t, v, S, B, J, z6, z7, h, hS, hu, hv, hJ => by
    have g1 := hS.2.1 t (by omega)
    have g2 := hS.2.2.1 t (by omega)
    have g3 := sgn_r S r t v hS h5 (by omega)
    have hw := mwho_r S t hS.1
    have ews := mwho_s (t := t) hS.1.1 hu (by omega)
    have hxr := mx_r (r := r) (t := t) (v := v) hS h5 (by omega) (by omega)
    have emx : mx S r t v = mhf (mwho S t) (mmn (v + (sgn S r t v - S 1 t - S 2 t))) := rfl
    have elf : mlf S t = if mwho S t = -4 then S else zup S 6 (mwho S t).toNat 30 := rfl
    have hS2 := mlf_sr hS t
    have hu2 : zuq (mlf S t) := by rw [mlf_s hS.1.1 hu (by omega)]; exact zuq_lft hu t
    have kp := fun J z6 z7 => lp_L_ride hs hq hq7 h5 m (t + 1) (mx S r t v) (mlf S t) (fun j => if j = t then mx S r t v else B j) J z6 z7
    have kq := fun J z6 z7 => lp_L_rideE (X := X) (I := I) (L := L) (R := R) (N := N) (v := mx S r t v) (e := t) hs hq hq7 h5 hS2 (by omega) m (t + 1) J z6 z7 (by omega)
    have kr : mrl r (m + 1) t v S B = if 0 < mx S r t v then mrl r m (t + 1) (mx S r t v) (mlf S t) (fun j => if j = t then mx S r t v else B j) else ((t, mx S r t v), (mlf S t, B)) := rfl
    have km : mfs r ((t, mx S r t v), (mlf S t, B)) = mf7 (zup (mdc t 0 (mlf S t)) 6 r (10 + (t : Int))) := by
      unfold mfs mfe
      rw [if_pos (by show t < 10; omega), mdc_up6]
    rw [kr]
    generalize mlf S t = S2 at kp kq km elf hS2 hu2
    generalize mx S r t v = x at kp kq km emx hxr
    unfold mhf mmn at emx
    generalize hwg : mwho S t = w at elf emx hw ews
    refine z_iload5 20 dL_ride_18 rfl ?_
    refine z_bipush 22 dL_ride_20 (by decide) rfl ?_
    refine z_icmp_ge 146 25 dL_ride_22 (by decide) rfl (by omega) (by omega) (fun hz => absurd hz (by omega)) (fun h22 => ?_)
    refine z_aload2 26 dL_ride_25 rfl ?_
    refine z_iload5 28 dL_ride_26 rfl ?_
    refine z_bipush 30 dL_ride_28 (by decide) rfl ?_
    refine z_iastx 31 (t) dL_ride_30 (by assumption) (by omega) (by omega) (wN_upo _ _ _ hq7 _ _) rfl ?_
    refine z_iload4 33 dL_ride_31 rfl ?_
    refine z_if_ge 140 36 dL_ride_33 (by decide) rfl (by omega) (fun hz => absurd hz (by omega)) (fun h33 => ?_)
    refine z_iload3 37 dL_ride_36 rfl ?_
    refine z_aload0 38 dL_ride_37 rfl ?_
    refine z_iload1 39 dL_ride_38 rfl ?_
    refine z_iload5 41 dL_ride_39 rfl ?_
    refine z_iload3 42 dL_ride_41 rfl ?_
    refine z_xS4 45 dL_ride_42 lk_L_ride_36 (ct_L_gain hs hS h5 (by omega) (by omega)) rfl (Nat.le_of_ble_eq_true rfl) (Nat.le_of_ble_eq_true rfl) rfl ?_
    refine z_iadd 46 dL_ride_45 rfl ?_
    refine z_aload0 47 dL_ride_46 rfl ?_
    refine z_iconst 48 dL_ride_47 rfl ?_
    refine z_iload5 50 dL_ride_48 rfl ?_
    refine z_iadd 51 dL_ride_50 rfl ?_
    refine z_ialdx 52 (3 + t) dL_ride_51 (by assumption) (by omega) (by omega) (wN_r _ _ _ (by omega)) rfl ?_
    refine z_isub 53 dL_ride_52 rfl ?_
    refine z_aload0 54 dL_ride_53 rfl ?_
    refine z_bipush 56 dL_ride_54 (by decide) rfl ?_
    refine z_iload5 58 dL_ride_56 rfl ?_
    refine z_iadd 59 dL_ride_58 rfl ?_
    refine z_ialdx 60 (13 + t) dL_ride_59 (by assumption) (by omega) (by omega) (wN_b _ _ _ (by omega)) rfl ?_
    refine z_isub 61 dL_ride_60 rfl ?_
    refine z_istore6 63 dL_ride_61 (Nat.le_of_ble_eq_true rfl) rfl rfl ?_
    refine z_iload6 65 dL_ride_63 rfl ?_
    refine z_bipush 67 dL_ride_65 (by decide) rfl ?_
    refine z_icmp_ge 75 70 dL_ride_67 (by decide) rfl (by omega) (by omega) (fun h67 => ?_) (fun h67 => ?_)
    · refine z_bipush 77 dL_ride_75 (by decide) rfl ?_
      refine z_istore3 78 dL_ride_77 (Nat.le_of_ble_eq_true rfl) rfl rfl ?_
      refine z_aload0 79 dL_ride_78 rfl ?_
      refine z_iload5 81 dL_ride_79 rfl ?_
      refine z_xS2 84 dL_ride_81 lk_L_ride_40 (ct_L_stuck hs hS (by omega)) rfl (Nat.le_of_ble_eq_true rfl) (Nat.le_of_ble_eq_true rfl) rfl ?_
      rw [← ews]
      refine z_istore7 86 dL_ride_84 (Nat.le_of_ble_eq_true rfl) rfl rfl ?_
      refine z_iload7 88 dL_ride_86 rfl ?_
      refine z_if_lt 114 91 dL_ride_88 (by decide) rfl (by omega) (fun h88 => ?_) (fun h88 => ?_)
      · have e2 : S2 = S := by rw [elf, if_pos (by omega)]
        refine rdL_eq (v' := x) (by rw [emx]; (repeat' split) <;> omega) ?_
        rw [← e2]
        refine z_aload2 115 dL_ride_114 rfl ?_
        refine z_iload5 117 dL_ride_115 rfl ?_
        refine z_iload3 118 dL_ride_117 rfl ?_
        refine z_if_le 125 121 dL_ride_118 (by decide) rfl (by omega) (fun hz => absurd hz (by omega)) (fun h118 => ?_)
        refine z_iload3 122 dL_ride_121 rfl ?_
        refine z_goto 127 dL_ride_122 (by decide) ?_
        refine z_iastx 128 (t) dL_ride_127 (by assumption) (by omega) (by omega) (wN_upo _ _ _ hq7 _ _) rfl ?_
        refine z_iload3 129 dL_ride_128 rfl ?_
        refine z_if_le 136 132 dL_ride_129 (by decide) rfl (by omega) (fun hz => absurd hz (by omega)) (fun h129 => ?_)
        refine z_iconst 133 dL_ride_132 rfl ?_
        refine z_goto 138 dL_ride_133 (by decide) ?_
        refine z_istore4 140 dL_ride_138 (Nat.le_of_ble_eq_true rfl) rfl rfl ?_
        refine z_iinc5 143 dL_ride_140 (Nat.le_of_ble_eq_true rfl) rfl rfl ?_
        refine z_goto 18 dL_ride_143 (by decide) ?_
        first | (rw [if_pos (by omega)]; exact kp _ _ _ (by omega) hS2 hu2 (by omega) (lq_up (lq_up hJ))) | (rw [if_neg (by omega), km]; exact kq _ _ _ (lq_up (lq_up hJ)))
      · obtain ⟨p, hp⟩ : ∃ p : Nat, w = (p : Int) := ⟨w.toNat, by omega⟩
        have e2 : S2 = zup S 6 p 30 := by rw [elf, if_neg (by omega), hp, Int.toNat_natCast]
        rw [hp]
        refine z_aload0 92 dL_ride_91 rfl ?_
        refine z_bipush 94 dL_ride_92 (by decide) rfl ?_
        refine z_iconst 95 dL_ride_94 rfl ?_
        refine z_iload7 97 dL_ride_95 rfl ?_
        refine z_imul 98 dL_ride_97 rfl ?_
        refine z_iadd 99 dL_ride_98 rfl ?_
        refine z_bipush 101 dL_ride_99 (by decide) rfl ?_
        refine z_iastx 102 (26 + 4 * p) dL_ride_101 (by assumption) (by omega) (by omega) (wN_up _ _ _ (i := 6) (j := p) (by unfold wix; omega) _) rfl ?_
        refine z_iload3 103 dL_ride_102 rfl ?_
        refine z_if_le 112 106 dL_ride_103 (by decide) rfl (by omega) (fun hz => absurd hz (by omega)) (fun h103 => ?_)
        refine z_iload3 107 dL_ride_106 rfl ?_
        refine z_iconst 108 dL_ride_107 rfl ?_
        refine z_idiv 109 dL_ride_108 (by omega) (by omega) rfl ?_
        refine z_goto 113 dL_ride_109 (by decide) ?_
        refine z_istore3 114 dL_ride_113 (Nat.le_of_ble_eq_true rfl) rfl rfl ?_
        refine rdL_eq (v' := x) (by rw [emx]; (repeat' split) <;> omega) ?_
        rw [← e2]
        refine z_aload2 115 dL_ride_114 rfl ?_
        refine z_iload5 117 dL_ride_115 rfl ?_
        refine z_iload3 118 dL_ride_117 rfl ?_
        refine z_if_le 125 121 dL_ride_118 (by decide) rfl (by omega) (fun h118 => ?_) (fun h118 => ?_)
        · refine z_bipush 127 dL_ride_125 (by decide) rfl ?_
          refine z_iastx 128 (t) dL_ride_127 (by assumption) (by omega) (by omega) (wN_upo _ _ _ hq7 _ _) rfl ?_
          refine z_iload3 129 dL_ride_128 rfl ?_
          refine z_if_le 136 132 dL_ride_129 (by decide) rfl (by omega) (fun h129 => ?_) (fun h129 => ?_)
          · refine z_iload5 138 dL_ride_136 rfl ?_
            refine z_istore4 140 dL_ride_138 (Nat.le_of_ble_eq_true rfl) rfl rfl ?_
            refine z_iinc5 143 dL_ride_140 (Nat.le_of_ble_eq_true rfl) rfl rfl ?_
            refine z_goto 18 dL_ride_143 (by decide) ?_
            first | (rw [if_pos (by omega)]; exact kp _ _ _ (by omega) hS2 hu2 (by omega) (lq_up (lq_up hJ))) | (rw [if_neg (by omega), km]; exact kq _ _ _ (lq_up (lq_up hJ)))
          · refine z_iconst 133 dL_ride_132 rfl ?_
            refine z_goto 138 dL_ride_133 (by decide) ?_
            refine z_istore4 140 dL_ride_138 (Nat.le_of_ble_eq_true rfl) rfl rfl ?_
            refine z_iinc5 143 dL_ride_140 (Nat.le_of_ble_eq_true rfl) rfl rfl ?_
            refine z_goto 18 dL_ride_143 (by decide) ?_
            first | (rw [if_pos (by omega)]; exact kp _ _ _ (by omega) hS2 hu2 (by omega) (lq_up (lq_up hJ))) | (rw [if_neg (by omega), km]; exact kq _ _ _ (lq_up (lq_up hJ)))
        · refine z_iload3 122 dL_ride_121 rfl ?_
          refine z_goto 127 dL_ride_122 (by decide) ?_
          refine z_iastx 128 (t) dL_ride_127 (by assumption) (by omega) (by omega) (wN_upo _ _ _ hq7 _ _) rfl ?_
          refine z_iload3 129 dL_ride_128 rfl ?_
          refine z_if_le 136 132 dL_ride_129 (by decide) rfl (by omega) (fun h129 => ?_) (fun h129 => ?_)
          · refine z_iload5 138 dL_ride_136 rfl ?_
            refine z_istore4 140 dL_ride_138 (Nat.le_of_ble_eq_true rfl) rfl rfl ?_
            refine z_iinc5 143 dL_ride_140 (Nat.le_of_ble_eq_true rfl) rfl rfl ?_
            refine z_goto 18 dL_ride_143 (by decide) ?_
            first | (rw [if_pos (by omega)]; exact kp _ _ _ (by omega) hS2 hu2 (by omega) (lq_up (lq_up hJ))) | (rw [if_neg (by omega), km]; exact kq _ _ _ (lq_up (lq_up hJ)))
          · refine z_iconst 133 dL_ride_132 rfl ?_
            refine z_goto 138 dL_ride_133 (by decide) ?_
            refine z_istore4 140 dL_ride_138 (Nat.le_of_ble_eq_true rfl) rfl rfl ?_
            refine z_iinc5 143 dL_ride_140 (Nat.le_of_ble_eq_true rfl) rfl rfl ?_
            refine z_goto 18 dL_ride_143 (by decide) ?_
            first | (rw [if_pos (by omega)]; exact kp _ _ _ (by omega) hS2 hu2 (by omega) (lq_up (lq_up hJ))) | (rw [if_neg (by omega), km]; exact kq _ _ _ (lq_up (lq_up hJ)))
    · refine z_iload6 72 dL_ride_70 rfl ?_
      refine z_goto 77 dL_ride_72 (by decide) ?_
      refine z_istore3 78 dL_ride_77 (Nat.le_of_ble_eq_true rfl) rfl rfl ?_
      refine z_aload0 79 dL_ride_78 rfl ?_
      refine z_iload5 81 dL_ride_79 rfl ?_
      refine z_xS2 84 dL_ride_81 lk_L_ride_40 (ct_L_stuck hs hS (by omega)) rfl (Nat.le_of_ble_eq_true rfl) (Nat.le_of_ble_eq_true rfl) rfl ?_
      rw [← ews]
      refine z_istore7 86 dL_ride_84 (Nat.le_of_ble_eq_true rfl) rfl rfl ?_
      refine z_iload7 88 dL_ride_86 rfl ?_
      refine z_if_lt 114 91 dL_ride_88 (by decide) rfl (by omega) (fun h88 => ?_) (fun h88 => ?_)
      · have e2 : S2 = S := by rw [elf, if_pos (by omega)]
        refine rdL_eq (v' := x) (by rw [emx]; (repeat' split) <;> omega) ?_
        rw [← e2]
        refine z_aload2 115 dL_ride_114 rfl ?_
        refine z_iload5 117 dL_ride_115 rfl ?_
        refine z_iload3 118 dL_ride_117 rfl ?_
        refine z_if_le 125 121 dL_ride_118 (by decide) rfl (by omega) (fun h118 => ?_) (fun h118 => ?_)
        · refine z_bipush 127 dL_ride_125 (by decide) rfl ?_
          refine z_iastx 128 (t) dL_ride_127 (by assumption) (by omega) (by omega) (wN_upo _ _ _ hq7 _ _) rfl ?_
          refine z_iload3 129 dL_ride_128 rfl ?_
          refine z_if_le 136 132 dL_ride_129 (by decide) rfl (by omega) (fun h129 => ?_) (fun h129 => ?_)
          · refine z_iload5 138 dL_ride_136 rfl ?_
            refine z_istore4 140 dL_ride_138 (Nat.le_of_ble_eq_true rfl) rfl rfl ?_
            refine z_iinc5 143 dL_ride_140 (Nat.le_of_ble_eq_true rfl) rfl rfl ?_
            refine z_goto 18 dL_ride_143 (by decide) ?_
            first | (rw [if_pos (by omega)]; exact kp _ _ _ (by omega) hS2 hu2 (by omega) (lq_up (lq_up hJ))) | (rw [if_neg (by omega), km]; exact kq _ _ _ (lq_up (lq_up hJ)))
          · refine z_iconst 133 dL_ride_132 rfl ?_
            refine z_goto 138 dL_ride_133 (by decide) ?_
            refine z_istore4 140 dL_ride_138 (Nat.le_of_ble_eq_true rfl) rfl rfl ?_
            refine z_iinc5 143 dL_ride_140 (Nat.le_of_ble_eq_true rfl) rfl rfl ?_
            refine z_goto 18 dL_ride_143 (by decide) ?_
            first | (rw [if_pos (by omega)]; exact kp _ _ _ (by omega) hS2 hu2 (by omega) (lq_up (lq_up hJ))) | (rw [if_neg (by omega), km]; exact kq _ _ _ (lq_up (lq_up hJ)))
        · refine z_iload3 122 dL_ride_121 rfl ?_
          refine z_goto 127 dL_ride_122 (by decide) ?_
          refine z_iastx 128 (t) dL_ride_127 (by assumption) (by omega) (by omega) (wN_upo _ _ _ hq7 _ _) rfl ?_
          refine z_iload3 129 dL_ride_128 rfl ?_
          refine z_if_le 136 132 dL_ride_129 (by decide) rfl (by omega) (fun h129 => ?_) (fun h129 => ?_)
          · refine z_iload5 138 dL_ride_136 rfl ?_
            refine z_istore4 140 dL_ride_138 (Nat.le_of_ble_eq_true rfl) rfl rfl ?_
            refine z_iinc5 143 dL_ride_140 (Nat.le_of_ble_eq_true rfl) rfl rfl ?_
            refine z_goto 18 dL_ride_143 (by decide) ?_
            first | (rw [if_pos (by omega)]; exact kp _ _ _ (by omega) hS2 hu2 (by omega) (lq_up (lq_up hJ))) | (rw [if_neg (by omega), km]; exact kq _ _ _ (lq_up (lq_up hJ)))
          · refine z_iconst 133 dL_ride_132 rfl ?_
            refine z_goto 138 dL_ride_133 (by decide) ?_
            refine z_istore4 140 dL_ride_138 (Nat.le_of_ble_eq_true rfl) rfl rfl ?_
            refine z_iinc5 143 dL_ride_140 (Nat.le_of_ble_eq_true rfl) rfl rfl ?_
            refine z_goto 18 dL_ride_143 (by decide) ?_
            first | (rw [if_pos (by omega)]; exact kp _ _ _ (by omega) hS2 hu2 (by omega) (lq_up (lq_up hJ))) | (rw [if_neg (by omega), km]; exact kq _ _ _ (lq_up (lq_up hJ)))
      · obtain ⟨p, hp⟩ : ∃ p : Nat, w = (p : Int) := ⟨w.toNat, by omega⟩
        have e2 : S2 = zup S 6 p 30 := by rw [elf, if_neg (by omega), hp, Int.toNat_natCast]
        rw [hp]
        refine z_aload0 92 dL_ride_91 rfl ?_
        refine z_bipush 94 dL_ride_92 (by decide) rfl ?_
        refine z_iconst 95 dL_ride_94 rfl ?_
        refine z_iload7 97 dL_ride_95 rfl ?_
        refine z_imul 98 dL_ride_97 rfl ?_
        refine z_iadd 99 dL_ride_98 rfl ?_
        refine z_bipush 101 dL_ride_99 (by decide) rfl ?_
        refine z_iastx 102 (26 + 4 * p) dL_ride_101 (by assumption) (by omega) (by omega) (wN_up _ _ _ (i := 6) (j := p) (by unfold wix; omega) _) rfl ?_
        refine z_iload3 103 dL_ride_102 rfl ?_
        refine z_if_le 112 106 dL_ride_103 (by decide) rfl (by omega) (fun h103 => ?_) (fun h103 => ?_)
        · refine z_iload3 113 dL_ride_112 rfl ?_
          refine z_istore3 114 dL_ride_113 (Nat.le_of_ble_eq_true rfl) rfl rfl ?_
          refine rdL_eq (v' := x) (by rw [emx]; (repeat' split) <;> omega) ?_
          rw [← e2]
          refine z_aload2 115 dL_ride_114 rfl ?_
          refine z_iload5 117 dL_ride_115 rfl ?_
          refine z_iload3 118 dL_ride_117 rfl ?_
          refine z_if_le 125 121 dL_ride_118 (by decide) rfl (by omega) (fun h118 => ?_) (fun h118 => ?_)
          · refine z_bipush 127 dL_ride_125 (by decide) rfl ?_
            refine z_iastx 128 (t) dL_ride_127 (by assumption) (by omega) (by omega) (wN_upo _ _ _ hq7 _ _) rfl ?_
            refine z_iload3 129 dL_ride_128 rfl ?_
            refine z_if_le 136 132 dL_ride_129 (by decide) rfl (by omega) (fun h129 => ?_) (fun h129 => ?_)
            · refine z_iload5 138 dL_ride_136 rfl ?_
              refine z_istore4 140 dL_ride_138 (Nat.le_of_ble_eq_true rfl) rfl rfl ?_
              refine z_iinc5 143 dL_ride_140 (Nat.le_of_ble_eq_true rfl) rfl rfl ?_
              refine z_goto 18 dL_ride_143 (by decide) ?_
              first | (rw [if_pos (by omega)]; exact kp _ _ _ (by omega) hS2 hu2 (by omega) (lq_up (lq_up hJ))) | (rw [if_neg (by omega), km]; exact kq _ _ _ (lq_up (lq_up hJ)))
            · refine z_iconst 133 dL_ride_132 rfl ?_
              refine z_goto 138 dL_ride_133 (by decide) ?_
              refine z_istore4 140 dL_ride_138 (Nat.le_of_ble_eq_true rfl) rfl rfl ?_
              refine z_iinc5 143 dL_ride_140 (Nat.le_of_ble_eq_true rfl) rfl rfl ?_
              refine z_goto 18 dL_ride_143 (by decide) ?_
              first | (rw [if_pos (by omega)]; exact kp _ _ _ (by omega) hS2 hu2 (by omega) (lq_up (lq_up hJ))) | (rw [if_neg (by omega), km]; exact kq _ _ _ (lq_up (lq_up hJ)))
          · refine z_iload3 122 dL_ride_121 rfl ?_
            refine z_goto 127 dL_ride_122 (by decide) ?_
            refine z_iastx 128 (t) dL_ride_127 (by assumption) (by omega) (by omega) (wN_upo _ _ _ hq7 _ _) rfl ?_
            refine z_iload3 129 dL_ride_128 rfl ?_
            refine z_if_le 136 132 dL_ride_129 (by decide) rfl (by omega) (fun h129 => ?_) (fun h129 => ?_)
            · refine z_iload5 138 dL_ride_136 rfl ?_
              refine z_istore4 140 dL_ride_138 (Nat.le_of_ble_eq_true rfl) rfl rfl ?_
              refine z_iinc5 143 dL_ride_140 (Nat.le_of_ble_eq_true rfl) rfl rfl ?_
              refine z_goto 18 dL_ride_143 (by decide) ?_
              first | (rw [if_pos (by omega)]; exact kp _ _ _ (by omega) hS2 hu2 (by omega) (lq_up (lq_up hJ))) | (rw [if_neg (by omega), km]; exact kq _ _ _ (lq_up (lq_up hJ)))
            · refine z_iconst 133 dL_ride_132 rfl ?_
              refine z_goto 138 dL_ride_133 (by decide) ?_
              refine z_istore4 140 dL_ride_138 (Nat.le_of_ble_eq_true rfl) rfl rfl ?_
              refine z_iinc5 143 dL_ride_140 (Nat.le_of_ble_eq_true rfl) rfl rfl ?_
              refine z_goto 18 dL_ride_143 (by decide) ?_
              first | (rw [if_pos (by omega)]; exact kp _ _ _ (by omega) hS2 hu2 (by omega) (lq_up (lq_up hJ))) | (rw [if_neg (by omega), km]; exact kq _ _ _ (lq_up (lq_up hJ)))
        · refine z_iload3 107 dL_ride_106 rfl ?_
          refine z_iconst 108 dL_ride_107 rfl ?_
          refine z_idiv 109 dL_ride_108 (by omega) (by omega) rfl ?_
          refine z_goto 113 dL_ride_109 (by decide) ?_
          refine z_istore3 114 dL_ride_113 (Nat.le_of_ble_eq_true rfl) rfl rfl ?_
          refine rdL_eq (v' := x) (by rw [emx]; (repeat' split) <;> omega) ?_
          rw [← e2]
          refine z_aload2 115 dL_ride_114 rfl ?_
          refine z_iload5 117 dL_ride_115 rfl ?_
          refine z_iload3 118 dL_ride_117 rfl ?_
          refine z_if_le 125 121 dL_ride_118 (by decide) rfl (by omega) (fun h118 => ?_) (fun h118 => ?_)
          · refine z_bipush 127 dL_ride_125 (by decide) rfl ?_
            refine z_iastx 128 (t) dL_ride_127 (by assumption) (by omega) (by omega) (wN_upo _ _ _ hq7 _ _) rfl ?_
            refine z_iload3 129 dL_ride_128 rfl ?_
            refine z_if_le 136 132 dL_ride_129 (by decide) rfl (by omega) (fun h129 => ?_) (fun h129 => ?_)
            · refine z_iload5 138 dL_ride_136 rfl ?_
              refine z_istore4 140 dL_ride_138 (Nat.le_of_ble_eq_true rfl) rfl rfl ?_
              refine z_iinc5 143 dL_ride_140 (Nat.le_of_ble_eq_true rfl) rfl rfl ?_
              refine z_goto 18 dL_ride_143 (by decide) ?_
              first | (rw [if_pos (by omega)]; exact kp _ _ _ (by omega) hS2 hu2 (by omega) (lq_up (lq_up hJ))) | (rw [if_neg (by omega), km]; exact kq _ _ _ (lq_up (lq_up hJ)))
            · refine z_iconst 133 dL_ride_132 rfl ?_
              refine z_goto 138 dL_ride_133 (by decide) ?_
              refine z_istore4 140 dL_ride_138 (Nat.le_of_ble_eq_true rfl) rfl rfl ?_
              refine z_iinc5 143 dL_ride_140 (Nat.le_of_ble_eq_true rfl) rfl rfl ?_
              refine z_goto 18 dL_ride_143 (by decide) ?_
              first | (rw [if_pos (by omega)]; exact kp _ _ _ (by omega) hS2 hu2 (by omega) (lq_up (lq_up hJ))) | (rw [if_neg (by omega), km]; exact kq _ _ _ (lq_up (lq_up hJ)))
          · refine z_iload3 122 dL_ride_121 rfl ?_
            refine z_goto 127 dL_ride_122 (by decide) ?_
            refine z_iastx 128 (t) dL_ride_127 (by assumption) (by omega) (by omega) (wN_upo _ _ _ hq7 _ _) rfl ?_
            refine z_iload3 129 dL_ride_128 rfl ?_
            refine z_if_le 136 132 dL_ride_129 (by decide) rfl (by omega) (fun h129 => ?_) (fun h129 => ?_)
            · refine z_iload5 138 dL_ride_136 rfl ?_
              refine z_istore4 140 dL_ride_138 (Nat.le_of_ble_eq_true rfl) rfl rfl ?_
              refine z_iinc5 143 dL_ride_140 (Nat.le_of_ble_eq_true rfl) rfl rfl ?_
              refine z_goto 18 dL_ride_143 (by decide) ?_
              first | (rw [if_pos (by omega)]; exact kp _ _ _ (by omega) hS2 hu2 (by omega) (lq_up (lq_up hJ))) | (rw [if_neg (by omega), km]; exact kq _ _ _ (lq_up (lq_up hJ)))
            · refine z_iconst 133 dL_ride_132 rfl ?_
              refine z_goto 138 dL_ride_133 (by decide) ?_
              refine z_istore4 140 dL_ride_138 (Nat.le_of_ble_eq_true rfl) rfl rfl ?_
              refine z_iinc5 143 dL_ride_140 (Nat.le_of_ble_eq_true rfl) rfl rfl ?_
              refine z_goto 18 dL_ride_143 (by decide) ?_
              first | (rw [if_pos (by omega)]; exact kp _ _ _ (by omega) hS2 hu2 (by omega) (lq_up (lq_up hJ))) | (rw [if_neg (by omega), km]; exact kq _ _ _ (lq_up (lq_up hJ)))
theorem ct_L_ride {S : zT} (hs : sh[157]? = some (20, 43)) (hq : sh[q]? = some (20, 10)) (hq7 : q ≠ 157) (hS : zSr S) (hu : zuq S) (hr : (r : Int) < S 0 6) (h30 : S 6 r = 30) : zE X mL_ride 0 0 0 [zR 157, zI (r : Int), zR q, zX, zX, zX, zX, zX] [] sh (wN I N S) L R (lQ sh I L R q N (send S r)) := by
  have h6 := hS.1
  have e30 : zup S 6 r 30 = S := by rw [← h30]; exact zup_self S 6 r
  have hm := (mrq_e (r := r) hS hu (fun _ => 0)).2.2
  rw [e30] at hm
  rw [← hm]
  unfold mrq
  rw [e30]
  refine z_iconst 1 dL_ride_0 rfl ?_
  refine z_istore3 2 dL_ride_1 (Nat.le_of_ble_eq_true rfl) rfl rfl ?_
  refine z_iconst 3 dL_ride_2 rfl ?_
  refine z_istore4 5 dL_ride_3 (Nat.le_of_ble_eq_true rfl) rfl rfl ?_
  refine z_aload0 6 dL_ride_5 rfl ?_
  refine z_bipush 8 dL_ride_6 (by decide) rfl ?_
  refine z_iconst 9 dL_ride_8 rfl ?_
  refine z_iload1 10 dL_ride_9 rfl ?_
  refine z_imul 11 dL_ride_10 rfl ?_
  refine z_iadd 12 dL_ride_11 rfl ?_
  refine z_bipush 14 dL_ride_12 (by decide) rfl ?_
  refine z_iastx 15 (26 + 4 * r) dL_ride_14 (by assumption) (by omega) (by omega) ((wN_up _ _ _ (i := 6) (j := r) (by unfold wix; omega) _).trans (congrArg (wN I N) e30)) rfl ?_
  refine z_iconst 16 dL_ride_15 rfl ?_
  refine z_istore5 18 dL_ride_16 (Nat.le_of_ble_eq_true rfl) rfl rfl ?_
  exact lp_L_ride hs hq hq7 (by omega) 10 0 2 S _ I zX zX rfl hS hu (by omega) (fun _ _ => rfl)
end RIDE
