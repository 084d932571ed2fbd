/-! ===== a ride of the reference ===== -/
def mmn (x : Int) : Int := if 30 < x then 30 else x
def mhf (w x : Int) : Int := if w = -4 then x else if 0 < x then x / 2 else x
def mlf (S : zT) (t : Nat) : zT := if mwho S t = -4 then S else zup S 6 (mwho S t).toNat 30
def mx (S : zT) (r t : Nat) (v : Int) : Int := mhf (mwho S t) (mmn (v + (sgn S r t v - S 1 t - S 2 t)))
def mrl (r : Nat) : Nat → Nat → Int → zT → (Nat → Int) → (Nat × Int) × (zT × (Nat → Int))
  | 0, t, v, S, B => ((t, v), (S, B))
  | m + 1, t, v, S, B => if 0 < mx S r t v then mrl r m (t + 1) (mx S r t v) (mlf S t) (fun j => if j = t then mx S r t v else B j) else ((t, mx S r t v), (mlf S t, B))
def mdc : Nat → Nat → zT → zT
  | 0, _, S => S
  | m + 1, t, S => mdc m (t + 1) (zup S 1 t (S 1 t - (if 0 < S 1 t then 1 else 0)))
def mfe (r : Nat) (q : (Nat × Int) × (zT × (Nat → Int))) : Int := if q.1.1 < 10 then 10 + (q.1.1 : Int) else (q.1.2 + q.2.1 5 r) % 8
def mf7 (S : zT) : zT := zup S 0 7 (S 0 7 + 1)
def mfs (r : Nat) (q : (Nat × Int) × (zT × (Nat → Int))) : zT := mf7 (mdc q.1.1 0 (zup q.2.1 6 r (mfe r q)))
def mrq (S : zT) (r : Nat) (B : Nat → Int) : (Nat × Int) × (zT × (Nat → Int)) := mrl r 10 0 2 (zup S 6 r 30) (zfl B 10 (-4))
theorem mlf_sr {S : zT} (h : zSr S) (t : Nat) : zSr (mlf S t) := by
  unfold mlf
  split
  · exact h
  · exact zSr_up6 h _ (by omega)
theorem mlf_5 (S : zT) (t : Nat) : mlf S t 5 = S 5 := by
  unfold mlf
  split
  · rfl
  · exact zup_row _ _ (by decide)
theorem mdc_o (a : Nat) (ha : a ≠ 1) : ∀ (m t : Nat) (S : zT), mdc m t S a = S a
  | 0, _, _ => rfl
  | m + 1, t, S => by
    unfold mdc
    rw [mdc_o a ha m, zup_row _ _ ha]
theorem mdc_sr : ∀ (m t : Nat) (S : zT), t + m ≤ 10 → zSr S → zSr (mdc m t S)
  | 0, _, _, _, h => h
  | m + 1, t, S, ht, h => by
    unfold mdc
    have := h.2.1 t (by omega)
    refine mdc_sr m (t + 1) _ (by omega) (zSr_up1 h t ?_)
    split <;> omega
theorem mx_r {S : zT} {r t : Nat} {v : Int} (h : zSr S) (h5 : r < 5) (ht : t < 10) (hv : -100 ≤ v ∧ v ≤ 100) : -200 ≤ mx S r t v ∧ mx S r t v ≤ 30 := by
  have h1 := sgn_r S r t v h h5 ht
  have h2 := h.2.1 t ht
  have h3 := h.2.2.1 t ht
  unfold mx mhf mmn
  repeat' split
  all_goals omega
theorem rd_eq {X : zXs} {M : zM} {k w pc : Nat} {a0 a1 a3 a4 : zV} {v v' : Int} {st : List zV} {sh : zH} {I L : zI2} {R : zR2} {Q : zQ} (e : v = v') (h : zE X M k w pc [a0, a1, zI v', a3, a4] st sh I L R Q) : zE X M k w pc [a0, a1, zI v, a3, a4] st sh I L R Q := by subst e; exact h
section MODB
variable {X : zXs} {sh : zH} {I L : zI2} {R : zR2} {N : Nat → Int}
theorem tl_X7_rides214 {S : zT} {r : Nat} {z2 z3 z4 : zV} (hM : zMs sh R) (h5 : r < 5) : zE X mX7_rides 0 0 214 [zR 157, zI (r : Int), z2, z3, z4] [] sh (mN I N S) L R (zEq [zI (S 6 r)] sh (mN I N (mf7 S)) L R) := by
  obtain ⟨⟨s0, s1, s2, s3, s4, s5, s6, s7, s8, s9, s10, s11, s12, s13, s14, s15⟩, r0, r1, r2, r3, r4, r5, r6, r7, r8, r9, r10, r11, r12, r13, r14⟩ := id hM
  refine z_aload0 215 dX7_rides_214 rfl ?_
  refine z_getR 218 dX7_rides_215 fl_RX7_7 (by assumption) (by assumption) rfl ?_
  refine z_iconst 219 dX7_rides_218 rfl ?_
  refine z_dup2 220 dX7_rides_219 rfl rfl rfl ?_
  refine z_ialdx 221 (1) dX7_rides_220 (by assumption) (by omega) (by omega) (mN_1 _ _ _) rfl ?_
  refine z_iconst 222 dX7_rides_221 rfl ?_
  refine z_iadd 223 dX7_rides_222 rfl ?_
  refine z_iastx 224 (1) dX7_rides_223 (by assumption) (by omega) (by omega) (mN_up _ _ _ (i := 0) (j := 7) (by unfold nix; omega) _) rfl ?_
  refine z_aload0 225 dX7_rides_224 rfl ?_
  refine z_iload1 226 dX7_rides_225 rfl ?_
  refine z_xV1 229 dX7_rides_226 lk_X7_rides_66 (ct_X7_where hM h5) rfl (Nat.le_of_ble_eq_true rfl) (Nat.le_of_ble_eq_true rfl) (by assumption) rfl rfl ?_
  exact z_ireturn dX7_rides_229 rfl (⟨by rw [zup_row _ _ (by decide)], rfl, rfl, rfl, rfl⟩)
theorem lp_X7_rides173 {r tn : Nat} {z2 : zV} (hM : zMs sh R) (h5 : r < 5) (hn : tn ≤ 10) : ∀ (m t : Nat) (S : zT), t + m = tn → zSr S → zE X mX7_rides 0 0 173 [zR 157, zI (r : Int), z2, zI (tn : Int), zI (t : Int)] [] sh (mN I N S) L R (zEq [zI (S 6 r)] sh (mN I N (mf7 (mdc m t S))) L R)
  | 0, t, S, h, hS => by
    refine z_iload4 175 dX7_rides_173 rfl ?_
    refine z_iload3 176 dX7_rides_175 rfl ?_
    refine z_icmp_ge 214 179 dX7_rides_176 (by decide) rfl (by omega) (by omega) (fun h176 => ?_) (fun hz => absurd hz (by omega))
    exact tl_X7_rides214 hM h5
  | m + 1, t, S, h, hS => by
    obtain ⟨⟨s0, s1, s2, s3, s4, s5, s6, s7, s8, s9, s10, s11, s12, s13, s14, s15⟩, r0, r1, r2, r3, r4, r5, r6, r7, r8, r9, r10, r11, r12, r13, r14⟩ := id hM
    have h1 := hS.2.1 t (by omega)
    refine z_iload4 175 dX7_rides_173 rfl ?_
    refine z_iload3 176 dX7_rides_175 rfl ?_
    refine z_icmp_ge 214 179 dX7_rides_176 (by decide) rfl (by omega) (by omega) (fun hz => absurd hz (by omega)) (fun h176 => ?_)
    refine z_aload0 180 dX7_rides_179 rfl ?_
    refine z_getR 183 dX7_rides_180 fl_RX7_7 (by assumption) (by assumption) rfl ?_
    refine z_iconst 184 dX7_rides_183 rfl ?_
    refine z_iload4 186 dX7_rides_184 rfl ?_
    refine z_iadd 187 dX7_rides_186 rfl ?_
    refine z_dup2 188 dX7_rides_187 rfl rfl rfl ?_
    refine z_ialdx 189 (3 + t) dX7_rides_188 (by assumption) (by omega) (by omega) (mN_r _ _ _ (by omega)) rfl ?_
    refine z_aload0 190 dX7_rides_189 rfl ?_
    refine z_getR 193 dX7_rides_190 fl_RX7_7 (by assumption) (by assumption) rfl ?_
    refine z_iconst 194 dX7_rides_193 rfl ?_
    refine z_iload4 196 dX7_rides_194 rfl ?_
    refine z_iadd 197 dX7_rides_196 rfl ?_
    refine z_ialdx 198 (3 + t) dX7_rides_197 (by assumption) (by omega) (by omega) (mN_r _ _ _ (by omega)) rfl ?_
    refine z_if_le 205 201 dX7_rides_198 (by decide) rfl (by omega) (fun h198 => ?_) (fun h198 => ?_)
    · refine z_iconst 206 dX7_rides_205 rfl ?_
      refine z_isub 207 dX7_rides_206 rfl ?_
      refine z_iastx 208 (3 + t) dX7_rides_207 (by assumption) (by omega) (by omega) (mN_up _ _ _ (i := 1) (j := t) (by unfold nix; omega) _) rfl ?_
      refine z_iinc4 211 dX7_rides_208 (Nat.le_of_ble_eq_true rfl) rfl rfl ?_
      refine z_goto 173 dX7_rides_211 (by decide) ?_
      first | (rw [show mdc (m + 1) t S = mdc m (t + 1) (zup S 1 t (S 1 t - 1)) by rw [mdc, if_pos (by omega)]]; have k := lp_X7_rides173 (z2 := z2) hM h5 hn m (t + 1) (zup S 1 t (S 1 t - 1)) (by omega) (zSr_up1 hS t (by omega)); rw [zup_row S _ (show (6 : Nat) ≠ 1 by decide)] at k; exact k) | (rw [show mdc (m + 1) t S = mdc m (t + 1) (zup S 1 t (S 1 t - 0)) by rw [mdc, if_neg (by omega)]]; have k := lp_X7_rides173 (z2 := z2) hM h5 hn m (t + 1) (zup S 1 t (S 1 t - 0)) (by omega) (zSr_up1 hS t (by omega)); rw [zup_row S _ (show (6 : Nat) ≠ 1 by decide)] at k; exact k)
    · refine z_iconst 202 dX7_rides_201 rfl ?_
      refine z_goto 206 dX7_rides_202 (by decide) ?_
      refine z_isub 207 dX7_rides_206 rfl ?_
      refine z_iastx 208 (3 + t) dX7_rides_207 (by assumption) (by omega) (by omega) (mN_up _ _ _ (i := 1) (j := t) (by unfold nix; omega) _) rfl ?_
      refine z_iinc4 211 dX7_rides_208 (Nat.le_of_ble_eq_true rfl) rfl rfl ?_
      refine z_goto 173 dX7_rides_211 (by decide) ?_
      first | (rw [show mdc (m + 1) t S = mdc m (t + 1) (zup S 1 t (S 1 t - 1)) by rw [mdc, if_pos (by omega)]]; have k := lp_X7_rides173 (z2 := z2) hM h5 hn m (t + 1) (zup S 1 t (S 1 t - 1)) (by omega) (zSr_up1 hS t (by omega)); rw [zup_row S _ (show (6 : Nat) ≠ 1 by decide)] at k; exact k) | (rw [show mdc (m + 1) t S = mdc m (t + 1) (zup S 1 t (S 1 t - 0)) by rw [mdc, if_neg (by omega)]]; have k := lp_X7_rides173 (z2 := z2) hM h5 hn m (t + 1) (zup S 1 t (S 1 t - 0)) (by omega) (zSr_up1 hS t (by omega)); rw [zup_row S _ (show (6 : Nat) ≠ 1 by decide)] at k; exact k)
theorem tl_X7_rides140 {S : zT} {r t : Nat} {v : Int} {z4 : zV} {B : Nat → Int} (hM : zMs sh R) (hS : zSr S) (h5 : r < 5) (ht : t ≤ 10) (hv : t = 10 → 0 ≤ v ∧ v ≤ 30) : zE X mX7_rides 0 0 140 [zR 157, zI (r : Int), zI v, zI (t : Int), z4] [] sh (mN I N S) L R (zEq [zI (mfe r ((t, v), (S, B)))] sh (mN I N (mfs r ((t, v), (S, B)))) L R) := by
  have s0 := hM.1.1
  have hl := hS.2.2.2.2.2.1 r h5
  have hev : t = 10 → (v + S 5 r) % 8 = mfe r ((t, v), (S, B)) := fun h => by unfold mfe; rw [if_neg (by show ¬ t < 10; omega)]
  have he2 : t < 10 → 10 + (t : Int) = mfe r ((t, v), (S, B)) := fun h => by unfold mfe; rw [if_pos (by show t < 10; omega)]
  have hlp := fun e : Int => fun he : 0 ≤ e ∧ e ≤ 30 => lp_X7_rides173 (X := X) (I := I) (L := L) (N := N) (r := r) (tn := t) (z2 := zI v) hM h5 ht t 0 (zup S 6 r e) (by omega) (zSr_up6 hS r he)
  refine z_aload0 141 dX7_rides_140 rfl ?_
  refine z_iload1 142 dX7_rides_141 rfl ?_
  refine z_iconst 143 dX7_rides_142 rfl ?_
  refine z_iload3 144 dX7_rides_143 rfl ?_
  refine z_bipush 146 dX7_rides_144 (by decide) rfl ?_
  refine z_icmp_ge 156 149 dX7_rides_146 (by decide) rfl (by omega) (by omega) (fun h146 => ?_) (fun h146 => ?_)
  · refine z_iload2 157 dX7_rides_156 rfl ?_
    refine z_aload0 158 dX7_rides_157 rfl ?_
    refine z_iload1 159 dX7_rides_158 rfl ?_
    refine z_iconst 160 dX7_rides_159 rfl ?_
    refine z_xV2 163 dX7_rides_160 lk_X7_rides_62 (ct_X7_told (w := 2) (k := 5) hM h5 (by decide) rfl) rfl (Nat.le_of_ble_eq_true rfl) (Nat.le_of_ble_eq_true rfl) (by assumption) rfl rfl ?_
    refine z_iadd 164 dX7_rides_163 rfl ?_
    refine z_bipush 166 dX7_rides_164 (by decide) rfl ?_
    have hv2 := hv (by omega)
    refine z_irem 167 dX7_rides_166 (by omega) (by omega) rfl ?_
    refine z_xVv3 170 dX7_rides_167 lk_X7_rides_70 (ct_X7_tells (w := 3) (k := 6) hM h5 (by decide) rfl) rfl (Nat.le_of_ble_eq_true rfl) (Nat.le_of_ble_eq_true rfl) (by assumption) rfl rfl ?_
    refine z_iconst 171 dX7_rides_170 rfl ?_
    refine z_istore4 173 dX7_rides_171 (Nat.le_of_ble_eq_true rfl) rfl rfl ?_
    first | (have k := hlp (10 + (t : Int)) (by omega); rw [zup_at, he2 (by omega)] at k; rw [he2 (by omega)]; exact k) | (have k := hlp ((v + S 5 r) % 8) (by omega); rw [zup_at, hev (by omega)] at k; rw [hev (by omega)]; exact k)
  · refine z_bipush 151 dX7_rides_149 (by decide) rfl ?_
    refine z_iload3 152 dX7_rides_151 rfl ?_
    refine z_iadd 153 dX7_rides_152 rfl ?_
    refine z_goto 167 dX7_rides_153 (by decide) ?_
    refine z_xVv3 170 dX7_rides_167 lk_X7_rides_70 (ct_X7_tells (w := 3) (k := 6) hM h5 (by decide) rfl) rfl (Nat.le_of_ble_eq_true rfl) (Nat.le_of_ble_eq_true rfl) (by assumption) rfl rfl ?_
    refine z_iconst 171 dX7_rides_170 rfl ?_
    refine z_istore4 173 dX7_rides_171 (Nat.le_of_ble_eq_true rfl) rfl rfl ?_
    first | (have k := hlp (10 + (t : Int)) (by omega); rw [zup_at, he2 (by omega)] at k; rw [he2 (by omega)]; exact k) | (have k := hlp ((v + S 5 r) % 8) (by omega); rw [zup_at, hev (by omega)] at k; rw [hev (by omega)]; exact k)
theorem lp_X7_rides37 {r : Nat} (hM : zMs sh R) (h5 : r < 5) : ∀ (m t : Nat) (v : Int) (S : zT) (B : Nat → Int) (z4 : zV), t + m = 10 → zSr S → 0 < v ∧ v ≤ 30 → zE X mX7_rides 0 0 37 [zR 157, zI (r : Int), zI v, zI (t : Int), z4] [] sh (mN (zrow I 159 B) N S) L R (zEq [zI (mfe r (mrl r m t v S B))] sh (mN (zrow I 159 (mrl r m t v S B).2.2) N (mfs r (mrl r m t v S B))) L R)
  | 0, t, v, S, B, z4, h, hS, hv => by
    refine z_iload3 38 dX7_rides_37 rfl ?_
    refine z_bipush 40 dX7_rides_38 (by decide) rfl ?_
    refine z_icmp_ge 140 43 dX7_rides_40 (by decide) rfl (by omega) (by omega) (fun h40 => ?_) (fun hz => absurd hz (by omega))
    exact tl_X7_rides140 hM hS h5 (by omega) (fun _ => by omega)
  | m + 1, t, v, S, B, z4, h, hS, hv => by
    obtain ⟨⟨s0, s1, s2, s3, s4, s5, s6, s7, s8, s9, s10, s11, s12, s13, s14, s15⟩, r0, r1, r2, r3, r4, r5, r6, r7, r8, r9, r10, r11, r12, r13, r14⟩ := id hM
    have g1 := hS.2.1 t (by omega)
    have g2 := hS.2.2.1 t (by omega)
    have g3 := sgn_r S r t v hS h5 (by omega)
    have hw := mwho_r S t hS.1
    have hxr := mx_r (r := r) (t := t) (v := v) hS h5 (by omega) (by omega)
    have emx : mx S r t v = mhf (mwho S t) (mmn (v + (sgn S r t v - S 1 t - S 2 t))) := rfl
    have elf : mlf S t = if mwho S t = -4 then S else zup S 6 (mwho S t).toNat 30 := rfl
    have hS2 := mlf_sr hS t
    have kp := lp_X7_rides37 hM h5 m (t + 1) (mx S r t v) (mlf S t) (fun j => if j = t then mx S r t v else B j)
    have kq := fun z4 => tl_X7_rides140 (X := X) (I := zrow I 159 B) (L := L) (N := N) (r := r) (t := t) (v := mx S r t v) (z4 := z4) (B := B) hM hS2 h5 (by omega) (fun _ => by omega)
    have kr : mrl r (m + 1) t v S B = if 0 < mx S r t v then mrl r m (t + 1) (mx S r t v) (mlf S t) (fun j => if j = t then mx S r t v else B j) else ((t, mx S r t v), (mlf S t, B)) := rfl
    rw [kr]
    generalize mlf S t = S2 at kp kq elf hS2
    generalize mx S r t v = x at kp kq emx hxr
    unfold mhf mmn at emx
    generalize hwg : mwho S t = w at elf emx hw
    refine z_iload3 38 dX7_rides_37 rfl ?_
    refine z_bipush 40 dX7_rides_38 (by decide) rfl ?_
    refine z_icmp_ge 140 43 dX7_rides_40 (by decide) rfl (by omega) (by omega) (fun hz => absurd hz (by omega)) (fun h40 => ?_)
    refine z_iload2 44 dX7_rides_43 rfl ?_
    refine z_aload0 45 dX7_rides_44 rfl ?_
    refine z_iload1 46 dX7_rides_45 rfl ?_
    refine z_iload3 47 dX7_rides_46 rfl ?_
    refine z_iload2 48 dX7_rides_47 rfl ?_
    refine z_xV3 51 dX7_rides_48 lk_X7_rides_74 (ct_X7_gain hM hS h5 (by omega) (by omega)) rfl (Nat.le_of_ble_eq_true rfl) (Nat.le_of_ble_eq_true rfl) (by assumption) rfl rfl ?_
    refine z_aload0 52 dX7_rides_51 rfl ?_
    refine z_getR 55 dX7_rides_52 fl_RX7_7 (by assumption) (by assumption) rfl ?_
    refine z_iconst 56 dX7_rides_55 rfl ?_
    refine z_iload3 57 dX7_rides_56 rfl ?_
    refine z_iadd 58 dX7_rides_57 rfl ?_
    refine z_ialdx 59 (3 + t) dX7_rides_58 (by assumption) (by omega) (by omega) (mN_r _ _ _ (by omega)) rfl ?_
    refine z_isub 60 dX7_rides_59 rfl ?_
    refine z_aload0 61 dX7_rides_60 rfl ?_
    refine z_getR 64 dX7_rides_61 fl_RX7_7 (by assumption) (by assumption) rfl ?_
    refine z_bipush 66 dX7_rides_64 (by decide) rfl ?_
    refine z_iload3 67 dX7_rides_66 rfl ?_
    refine z_iadd 68 dX7_rides_67 rfl ?_
    refine z_ialdx 69 (13 + t) dX7_rides_68 (by assumption) (by omega) (by omega) (mN_b _ _ _ (by omega)) rfl ?_
    refine z_isub 70 dX7_rides_69 rfl ?_
    refine z_iadd 71 dX7_rides_70 rfl ?_
    refine z_istore2 72 dX7_rides_71 (Nat.le_of_ble_eq_true rfl) rfl rfl ?_
    refine z_iload2 73 dX7_rides_72 rfl ?_
    refine z_bipush 75 dX7_rides_73 (by decide) rfl ?_
    refine z_icmp_le 83 78 dX7_rides_75 (by decide) rfl (by omega) (by omega) (fun h75 => ?_) (fun h75 => ?_)
    · refine z_iload2 84 dX7_rides_83 rfl ?_
      refine z_istore2 85 dX7_rides_84 (Nat.le_of_ble_eq_true rfl) rfl rfl ?_
      refine z_aload0 86 dX7_rides_85 rfl ?_
      refine z_iload3 87 dX7_rides_86 rfl ?_
      refine z_xV1 90 dX7_rides_87 lk_X7_rides_78 (ct_X7_whoStuck hM hS (by omega)) rfl (Nat.le_of_ble_eq_true rfl) (Nat.le_of_ble_eq_true rfl) (by assumption) rfl rfl ?_
      rw [hwg]
      refine z_istore4 92 dX7_rides_90 (Nat.le_of_ble_eq_true rfl) rfl rfl ?_
      refine z_iload4 94 dX7_rides_92 rfl ?_
      refine z_bipush 96 dX7_rides_94 (by decide) rfl ?_
      refine z_icmp_eq 120 99 dX7_rides_96 (by decide) rfl (by omega) (by omega) (fun h96 => ?_) (fun h96 => ?_)
      · have e2 : S2 = S := by rw [elf, if_pos (by omega)]
        refine rd_eq (v' := x) (by rw [emx]; (repeat' split) <;> omega) ?_
        rw [← e2]
        refine z_iload2 121 dX7_rides_120 rfl ?_
        refine z_if_gt 127 124 dX7_rides_121 (by decide) rfl (by omega) (fun h121 => ?_) (fun h121 => ?_)
        · refine z_aload0 128 dX7_rides_127 rfl ?_
          refine z_getR 131 dX7_rides_128 fl_RX7_13 (by assumption) (by assumption) rfl ?_
          refine z_iload3 132 dX7_rides_131 rfl ?_
          refine z_iload2 133 dX7_rides_132 rfl ?_
          refine z_iastx 134 (t) dX7_rides_133 (by assumption) (by omega) (by omega) ((mN_upo _ _ _ (by decide) _ _).trans (congrArg (fun J => mN J N _) (zrow_up _ _ _ _ _))) rfl ?_
          refine z_iinc3 137 dX7_rides_134 (Nat.le_of_ble_eq_true rfl) rfl rfl ?_
          refine z_goto 37 dX7_rides_137 (by decide) ?_
          rw [if_pos (by omega)]
          exact kp _ (by omega) hS2 (by omega)
        · refine z_goto 140 dX7_rides_124 (by decide) ?_
          rw [if_neg (by omega)]
          exact kq _
      · obtain ⟨p, hp⟩ : ∃ p : Nat, w = (p : Int) := ⟨w.toNat, by omega⟩
        have e2 : S2 = zup S 6 p 30 := by rw [elf, if_neg (by omega), hp, Int.toNat_natCast]
        rw [hp]
        refine z_aload0 100 dX7_rides_99 rfl ?_
        refine z_iload4 102 dX7_rides_100 rfl ?_
        refine z_iconst 103 dX7_rides_102 rfl ?_
        refine z_bipush 105 dX7_rides_103 (by decide) rfl ?_
        refine z_xVv3 108 dX7_rides_105 lk_X7_rides_70 (ct_X7_tells (w := 3) (k := 6) hM (by omega) (by decide) rfl) rfl (Nat.le_of_ble_eq_true rfl) (Nat.le_of_ble_eq_true rfl) (by assumption) rfl rfl ?_
        refine z_iload2 109 dX7_rides_108 rfl ?_
        refine z_if_le 118 112 dX7_rides_109 (by decide) rfl (by omega) (fun h109 => ?_) (fun h109 => ?_)
        · refine z_iload2 119 dX7_rides_118 rfl ?_
          refine z_istore2 120 dX7_rides_119 (Nat.le_of_ble_eq_true rfl) rfl rfl ?_
          refine rd_eq (v' := x) (by rw [emx]; (repeat' split) <;> omega) ?_
          rw [← e2]
          refine z_iload2 121 dX7_rides_120 rfl ?_
          refine z_if_gt 127 124 dX7_rides_121 (by decide) rfl (by omega) (fun h121 => ?_) (fun h121 => ?_)
          · refine z_aload0 128 dX7_rides_127 rfl ?_
            refine z_getR 131 dX7_rides_128 fl_RX7_13 (by assumption) (by assumption) rfl ?_
            refine z_iload3 132 dX7_rides_131 rfl ?_
            refine z_iload2 133 dX7_rides_132 rfl ?_
            refine z_iastx 134 (t) dX7_rides_133 (by assumption) (by omega) (by omega) ((mN_upo _ _ _ (by decide) _ _).trans (congrArg (fun J => mN J N _) (zrow_up _ _ _ _ _))) rfl ?_
            refine z_iinc3 137 dX7_rides_134 (Nat.le_of_ble_eq_true rfl) rfl rfl ?_
            refine z_goto 37 dX7_rides_137 (by decide) ?_
            rw [if_pos (by omega)]
            exact kp _ (by omega) hS2 (by omega)
          · refine z_goto 140 dX7_rides_124 (by decide) ?_
            rw [if_neg (by omega)]
            exact kq _
        · refine z_iload2 113 dX7_rides_112 rfl ?_
          refine z_iconst 114 dX7_rides_113 rfl ?_
          refine z_idiv 115 dX7_rides_114 (by omega) (by omega) rfl ?_
          refine z_goto 119 dX7_rides_115 (by decide) ?_
          refine z_istore2 120 dX7_rides_119 (Nat.le_of_ble_eq_true rfl) rfl rfl ?_
          refine rd_eq (v' := x) (by rw [emx]; (repeat' split) <;> omega) ?_
          rw [← e2]
          refine z_iload2 121 dX7_rides_120 rfl ?_
          refine z_if_gt 127 124 dX7_rides_121 (by decide) rfl (by omega) (fun h121 => ?_) (fun h121 => ?_)
          · refine z_aload0 128 dX7_rides_127 rfl ?_
            refine z_getR 131 dX7_rides_128 fl_RX7_13 (by assumption) (by assumption) rfl ?_
            refine z_iload3 132 dX7_rides_131 rfl ?_
            refine z_iload2 133 dX7_rides_132 rfl ?_
            refine z_iastx 134 (t) dX7_rides_133 (by assumption) (by omega) (by omega) ((mN_upo _ _ _ (by decide) _ _).trans (congrArg (fun J => mN J N _) (zrow_up _ _ _ _ _))) rfl ?_
            refine z_iinc3 137 dX7_rides_134 (Nat.le_of_ble_eq_true rfl) rfl rfl ?_
            refine z_goto 37 dX7_rides_137 (by decide) ?_
            rw [if_pos (by omega)]
            exact kp _ (by omega) hS2 (by omega)
          · refine z_goto 140 dX7_rides_124 (by decide) ?_
            rw [if_neg (by omega)]
            exact kq _
    · refine z_bipush 80 dX7_rides_78 (by decide) rfl ?_
      refine z_goto 84 dX7_rides_80 (by decide) ?_
      refine z_istore2 85 dX7_rides_84 (Nat.le_of_ble_eq_true rfl) rfl rfl ?_
      refine z_aload0 86 dX7_rides_85 rfl ?_
      refine z_iload3 87 dX7_rides_86 rfl ?_
      refine z_xV1 90 dX7_rides_87 lk_X7_rides_78 (ct_X7_whoStuck hM hS (by omega)) rfl (Nat.le_of_ble_eq_true rfl) (Nat.le_of_ble_eq_true rfl) (by assumption) rfl rfl ?_
      rw [hwg]
      refine z_istore4 92 dX7_rides_90 (Nat.le_of_ble_eq_true rfl) rfl rfl ?_
      refine z_iload4 94 dX7_rides_92 rfl ?_
      refine z_bipush 96 dX7_rides_94 (by decide) rfl ?_
      refine z_icmp_eq 120 99 dX7_rides_96 (by decide) rfl (by omega) (by omega) (fun h96 => ?_) (fun h96 => ?_)
      · have e2 : S2 = S := by rw [elf, if_pos (by omega)]
        refine rd_eq (v' := x) (by rw [emx]; (repeat' split) <;> omega) ?_
        rw [← e2]
        refine z_iload2 121 dX7_rides_120 rfl ?_
        refine z_if_gt 127 124 dX7_rides_121 (by decide) rfl (by omega) (fun h121 => ?_) (fun hz => absurd hz (by omega))
        refine z_aload0 128 dX7_rides_127 rfl ?_
        refine z_getR 131 dX7_rides_128 fl_RX7_13 (by assumption) (by assumption) rfl ?_
        refine z_iload3 132 dX7_rides_131 rfl ?_
        refine z_iload2 133 dX7_rides_132 rfl ?_
        refine z_iastx 134 (t) dX7_rides_133 (by assumption) (by omega) (by omega) ((mN_upo _ _ _ (by decide) _ _).trans (congrArg (fun J => mN J N _) (zrow_up _ _ _ _ _))) rfl ?_
        refine z_iinc3 137 dX7_rides_134 (Nat.le_of_ble_eq_true rfl) rfl rfl ?_
        refine z_goto 37 dX7_rides_137 (by decide) ?_
        rw [if_pos (by omega)]
        exact kp _ (by omega) hS2 (by omega)
      · obtain ⟨p, hp⟩ : ∃ p : Nat, w = (p : Int) := ⟨w.toNat, by omega⟩
        have e2 : S2 = zup S 6 p 30 := by rw [elf, if_neg (by omega), hp, Int.toNat_natCast]
        rw [hp]
        refine z_aload0 100 dX7_rides_99 rfl ?_
        refine z_iload4 102 dX7_rides_100 rfl ?_
        refine z_iconst 103 dX7_rides_102 rfl ?_
        refine z_bipush 105 dX7_rides_103 (by decide) rfl ?_
        refine z_xVv3 108 dX7_rides_105 lk_X7_rides_70 (ct_X7_tells (w := 3) (k := 6) hM (by omega) (by decide) rfl) rfl (Nat.le_of_ble_eq_true rfl) (Nat.le_of_ble_eq_true rfl) (by assumption) rfl rfl ?_
        refine z_iload2 109 dX7_rides_108 rfl ?_
        refine z_if_le 118 112 dX7_rides_109 (by decide) rfl (by omega) (fun hz => absurd hz (by omega)) (fun h109 => ?_)
        refine z_iload2 113 dX7_rides_112 rfl ?_
        refine z_iconst 114 dX7_rides_113 rfl ?_
        refine z_idiv 115 dX7_rides_114 (by omega) (by omega) rfl ?_
        refine z_goto 119 dX7_rides_115 (by decide) ?_
        refine z_istore2 120 dX7_rides_119 (Nat.le_of_ble_eq_true rfl) rfl rfl ?_
        refine rd_eq (v' := x) (by rw [emx]; (repeat' split) <;> omega) ?_
        rw [← e2]
        refine z_iload2 121 dX7_rides_120 rfl ?_
        refine z_if_gt 127 124 dX7_rides_121 (by decide) rfl (by omega) (fun h121 => ?_) (fun h121 => ?_)
        · refine z_aload0 128 dX7_rides_127 rfl ?_
          refine z_getR 131 dX7_rides_128 fl_RX7_13 (by assumption) (by assumption) rfl ?_
          refine z_iload3 132 dX7_rides_131 rfl ?_
          refine z_iload2 133 dX7_rides_132 rfl ?_
          refine z_iastx 134 (t) dX7_rides_133 (by assumption) (by omega) (by omega) ((mN_upo _ _ _ (by decide) _ _).trans (congrArg (fun J => mN J N _) (zrow_up _ _ _ _ _))) rfl ?_
          refine z_iinc3 137 dX7_rides_134 (Nat.le_of_ble_eq_true rfl) rfl rfl ?_
          refine z_goto 37 dX7_rides_137 (by decide) ?_
          rw [if_pos (by omega)]
          exact kp _ (by omega) hS2 (by omega)
        · refine z_goto 140 dX7_rides_124 (by decide) ?_
          rw [if_neg (by omega)]
          exact kq _
end MODB
