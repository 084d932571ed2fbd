theorem digs_lt {m : Nat} : ∀ (k x : Nat), (0 < m ∨ k = 0) → ∀ i ∈ digs m k x, i < m
  | 0, x, _, i, hi => by cases hi
  | k + 1, x, h, i, hi => by
    unfold digs at hi
    rw [List.mem_append] at hi
    rcases hi with h1 | h1
    · exact digs_lt k (x / m) (by omega) i h1
    · rw [List.mem_singleton] at h1
      rw [h1]
      exact Nat.mod_lt x (by omega)
theorem osq_sr {tp : Nat → Int} : ∀ (l : List Nat) (S : zT), zSr S → (∀ i ∈ l, ((tp i).toNat : Int) < S 0 6) → zSr (osq tp l S)
  | [], S, h, _ => h
  | i :: l, S, h, hl => by
    unfold osq
    have := hl i (by simp)
    have h6 := h.1
    exact osq_sr l _ (send_sr h (by omega)) (fun j hj => by rw [send_06 _ _ 6 (by decide)]; exact hl j (by simp [hj]))
section MODQ
variable {X : zXs} {sh : zH} {I L : zI2} {R : zR2} {A : zA}
def ofin (k : Int) (m : Nat) (tp : Nat → Int) (q : Int × List Nat) : Int := if k < 0 then q.1 else if k < (m : Int) then tp (q.2.getD k.toNat 0) else -4
theorem tl_X7_order174 {k z3 most own : Int} {m x : Nat} {z7 : zV} {J : zI2} {Q : zQ} (hx : x ≤ 4000) (hr : -1 ≤ most ∧ most ≤ 5) (ho : 0 ≤ own ∧ own ≤ 5) (kk : ∀ z6 z7 : zV, zE X mX7_order 0 0 82 [zR 157, zI k, zI (m : Int), zI z3, zI (if most < own then own else most), zI ((x + 1 : Nat) : Int), z6, z7] [] sh J L R Q) : zE X mX7_order 0 0 174 [zR 157, zI k, zI (m : Int), zI z3, zI most, zI (x : Int), zI own, z7] [] sh J L R Q := by
  by_cases h : most < own
  · rw [if_pos h] at kk
    refine z_iload6 176 dX7_order_174 rfl ?_
    refine z_iload4 178 dX7_order_176 rfl ?_
    refine z_icmp_le 186 181 dX7_order_178 (by decide) rfl (by omega) (by omega) (fun hz => absurd hz (by omega)) (fun h178 => ?_)
    refine z_iload6 183 dX7_order_181 rfl ?_
    refine z_goto 188 dX7_order_183 (by decide) ?_
    refine z_istore4 190 dX7_order_188 (Nat.le_of_ble_eq_true rfl) rfl rfl ?_
    refine z_iinc5 193 dX7_order_190 (Nat.le_of_ble_eq_true rfl) rfl rfl ?_
    refine z_goto 82 dX7_order_193 (by decide) ?_
    exact kk _ _
  · rw [if_neg h] at kk
    refine z_iload6 176 dX7_order_174 rfl ?_
    refine z_iload4 178 dX7_order_176 rfl ?_
    refine z_icmp_le 186 181 dX7_order_178 (by decide) rfl (by omega) (by omega) (fun h178 => ?_) (fun hz => absurd hz (by omega))
    refine z_iload4 188 dX7_order_186 rfl ?_
    refine z_istore4 190 dX7_order_188 (Nat.le_of_ble_eq_true rfl) rfl rfl ?_
    refine z_iinc5 193 dX7_order_190 (Nat.le_of_ble_eq_true rfl) rfl rfl ?_
    refine z_goto 82 dX7_order_193 (by decide) ?_
    exact kk _ _
theorem tl_X7_order141n {k z3 own most : Int} {m x : Nat} {J : zI2} {Q : zQ} (hm : m ≤ 5) (ho : ¬ most < own) (hr : -5 ≤ most ∧ most ≤ 5 ∧ -5 ≤ own) (kk : zE X mX7_order 0 0 174 [zR 157, zI k, zI (m : Int), zI z3, zI most, zI (x : Int), zI own, zI 0] [] sh J L R Q) : zE X mX7_order 0 0 141 [zR 157, zI k, zI (m : Int), zI z3, zI most, zI (x : Int), zI own, zI 0] [] sh J L R Q := by
  refine z_iload7 143 dX7_order_141 rfl ?_
  refine z_iload2 144 dX7_order_143 rfl ?_
  refine z_icmp_ge 174 147 dX7_order_144 (by decide) rfl (by omega) (by omega) (fun h144 => ?_) (fun h144 => ?_)
  · exact kk
  · refine z_iload6 149 dX7_order_147 rfl ?_
    refine z_iload4 151 dX7_order_149 rfl ?_
    refine z_icmp_le 174 154 dX7_order_151 (by decide) rfl (by omega) (by omega) (fun h151 => ?_) (fun hz => absurd hz (by omega))
    exact kk
theorem tl_X7_order125 {k c v z3 z6 : Int} {m x : Nat} {z7 : zV} {T O B : Nat → Int} {J : zI2} {F : zT} {Q : zQ} (hM : zMs sh R) (hm : m ≤ 5) (hJ : mOr I J T O B) (hF : zSr F) (hmany : ∀ J, zE X mX7_many 0 0 0 [zI (sthr F), zX, zX] [] sh J L R (zEq [zI v] sh J L R)) (hv : 0 ≤ v ∧ v ≤ 5) (hc : -1 ≤ c ∧ c ≤ 5) (hx : x ≤ 3200) (k1 : ∀ (J2 : zI2) (z6 z7 : zV), c < v → mOr I J2 T O (fln B O 0 m) → zE X mX7_order 0 0 82 [zR 157, zI k, zI (m : Int), zI z3, zI v, zI ((x + 1 : Nat) : Int), z6, z7] [] sh (mN J2 (I 158) (nvw (I 158))) L R Q) (k2 : ∀ (J2 : zI2) (z6 z7 : zV), ¬ c < v → mOr I J2 T O B → zE X mX7_order 0 0 82 [zR 157, zI k, zI (m : Int), zI z3, zI c, zI ((x + 1 : Nat) : Int), z6, z7] [] sh (mN J2 (I 158) (nvw (I 158))) L R Q) : zE X mX7_order 0 0 125 [zR 157, zI k, zI (m : Int), zI z3, zI c, zI (x : Int), zI z6, z7] [] sh (mN J (I 158) F) L R Q := by
  have s0 := hM.1.1
  by_cases h : c < v
  · have kl := lp_X7_order141 (X := X) (L := L) (k := k) (z3 := z3) (own := v) (most := c) (m := m) (x := x) (T := T) (O := O) (B := B) (Q := Q) hM hm h (by omega) (fun J' z7 hJ' => tl_X7_order174 (by omega) hc hv (fun z6 z7 => by rw [if_pos h]; exact k1 J' z6 z7 h hJ')) m 0 J (by omega) (by rw [fln_0]; exact hJ)
    refine z_aload0 126 dX7_order_125 rfl ?_
    refine z_xV0 129 dX7_order_126 lk_X7_order_114 (ct_X7_through hM hF) rfl (Nat.le_of_ble_eq_true rfl) (Nat.le_of_ble_eq_true rfl) (by assumption) rfl rfl ?_
    refine z_xS1 132 dX7_order_129 lk_X7_order_191 (hmany _) rfl (Nat.le_of_ble_eq_true rfl) (Nat.le_of_ble_eq_true rfl) rfl ?_
    refine z_istore6 134 dX7_order_132 (Nat.le_of_ble_eq_true rfl) rfl rfl ?_
    refine z_aload0 135 dX7_order_134 rfl ?_
    refine z_xVv0 138 dX7_order_135 lk_X7_order_178 (ct_X7_backs (S0 := nvw (I 158)) (K := I 164) hM hJ.1.2) rfl (Nat.le_of_ble_eq_true rfl) (Nat.le_of_ble_eq_true rfl) (by assumption) rfl rfl ?_
    refine z_iconst 139 dX7_order_138 rfl ?_
    refine z_istore7 141 dX7_order_139 (Nat.le_of_ble_eq_true rfl) rfl rfl ?_
    exact kl
  · refine z_aload0 126 dX7_order_125 rfl ?_
    refine z_xV0 129 dX7_order_126 lk_X7_order_114 (ct_X7_through hM hF) rfl (Nat.le_of_ble_eq_true rfl) (Nat.le_of_ble_eq_true rfl) (by assumption) rfl rfl ?_
    refine z_xS1 132 dX7_order_129 lk_X7_order_191 (hmany _) rfl (Nat.le_of_ble_eq_true rfl) (Nat.le_of_ble_eq_true rfl) rfl ?_
    refine z_istore6 134 dX7_order_132 (Nat.le_of_ble_eq_true rfl) rfl rfl ?_
    refine z_aload0 135 dX7_order_134 rfl ?_
    refine z_xVv0 138 dX7_order_135 lk_X7_order_178 (ct_X7_backs (S0 := nvw (I 158)) (K := I 164) hM hJ.1.2) rfl (Nat.le_of_ble_eq_true rfl) (Nat.le_of_ble_eq_true rfl) (by assumption) rfl rfl ?_
    refine z_iconst 139 dX7_order_138 rfl ?_
    refine z_istore7 141 dX7_order_139 (Nat.le_of_ble_eq_true rfl) rfl rfl ?_
    exact tl_X7_order141n hm h (by omega) (tl_X7_order174 (by omega) hc hv (fun z6 z7 => by rw [if_neg h]; exact k2 J z6 z7 h hJ))
theorem lp_X7_order82 {k : Int} {m : Nat} {T tp : Nat → Int} (h : mCA sh R I L A) (hu : zuq A.1) (hk : -1 ≤ k ∧ k ≤ 2147483647) (hm : m ≤ 5) (htp : ∀ j, j < m → T j = tp j) (hr : ∀ j, j < m → 0 ≤ tp j ∧ tp j < A.1 0 6 ∧ A.1 6 (tp j).toNat = 30) (hne : ∀ i j, i < m → j < m → i ≠ j → tp i ≠ tp j) : ∀ (n x : Nat) (c : Int) (b : List Nat) (J : zI2) (z6 z7 : zV) (O B : Nat → Int), x + n = m ^ m → mOr I J T O B → -1 ≤ c ∧ c ≤ 5 → (0 ≤ c → ∀ j, j < m → B j = tp (b.getD j 0)) → (0 ≤ (mof m (oval A.1 tp) n x c b).1) → zE X mX7_order 0 0 82 [zR 157, zI k, zI (m : Int), zI ((m ^ m : Nat) : Int), zI c, zI (x : Int), z6, z7] [] sh (mN J (I 158) (nvw (I 158))) L R (mOp sh I L R (zI (ofin k m tp (mof m (oval A.1 tp) n x c b))) A)
  | 0, x, c, b, J, z6, z7, O, B, hx, hJ, hc, hB, hn0 => by
    obtain ⟨hM, hN, hHis, hKep, hTap, hShe⟩ := id h
    obtain ⟨⟨s0, s1, s2, s3, s4, s5, s6, s7, s8, s9, s10, s11, s12, s13, s14, s15⟩, r0, r1, r2, r3, r4, r5, r6, r7, r8, r9, r10, r11, r12, r13, r14⟩ := id hM
    obtain ⟨⟨hSr, hS7, hS8⟩, hQ⟩ := id hN
    have e6 := hQ.1.1
    have hn5 := hSr.1
    have hmm : m ^ m ≤ 3125 := by
      have key : ∀ m : Fin 6, m.val ^ m.val ≤ 3125 := by decide
      exact key ⟨m, by omega⟩
    have e : mof m (oval A.1 tp) 0 x c b = (c, b) := rfl
    rw [e]
    have hB0 := hB hn0
    refine z_iload5 84 dX7_order_82 rfl ?_
    refine z_iload3 85 dX7_order_84 rfl ?_
    refine z_icmp_ge 196 88 dX7_order_85 (by decide) rfl (by omega) (by omega) (fun h85 => ?_) (fun hz => absurd hz (by omega))
    refine z_iload1 197 dX7_order_196 rfl ?_
    refine z_if_ge 205 200 dX7_order_197 (by decide) rfl (by omega) (fun h197 => ?_) (fun h197 => ?_)
    · refine z_iload1 206 dX7_order_205 rfl ?_
      refine z_iload2 207 dX7_order_206 rfl ?_
      refine z_icmp_ge 219 210 dX7_order_207 (by decide) rfl (by omega) (by omega) (fun h207 => ?_) (fun h207 => ?_)
      · refine z_bipush 221 dX7_order_219 (by decide) rfl ?_
        exact z_ireturn dX7_order_221 rfl (mOp_fo h hJ.1 (by
          unfold ofin
          first
            | (rw [if_pos (by omega)])
            | (rw [if_neg (by omega), if_pos (by omega), hB0 k.toNat (by omega)])
            | (rw [if_neg (by omega), if_neg (by omega)])))
      · refine z_aload0 211 dX7_order_210 rfl ?_
        refine z_getR 214 dX7_order_211 fl_RX7_37 (by assumption) (by assumption) rfl ?_
        refine z_iload1 215 dX7_order_214 rfl ?_
        refine z_ialdx 216 (k.toNat) dX7_order_215 (by assumption) (by omega) (by omega) ((show mN J (I 158) (nvw (I 158)) 167 k.toNat = B k.toNat by rw [mN_o _ _ _ (by decide), hJ.2.2.2])) rfl ?_
        refine z_goto 221 dX7_order_216 (by decide) ?_
        exact z_ireturn dX7_order_221 rfl (mOp_fo h hJ.1 (by
          unfold ofin
          first
            | (rw [if_pos (by omega)])
            | (rw [if_neg (by omega), if_pos (by omega), hB0 k.toNat (by omega)])
            | (rw [if_neg (by omega), if_neg (by omega)])))
    · refine z_iload4 202 dX7_order_200 rfl ?_
      refine z_goto 221 dX7_order_202 (by decide) ?_
      exact z_ireturn dX7_order_221 rfl (mOp_fo h hJ.1 (by
        unfold ofin
        first
          | (rw [if_pos (by omega)])
          | (rw [if_neg (by omega), if_pos (by omega), hB0 k.toNat (by omega)])
          | (rw [if_neg (by omega), if_neg (by omega)])))
  | n + 1, x, c, b, J, z6, z7, O, B, hx, hJ, hc, hB, hn0 => by
    obtain ⟨hM, hN, hHis, hKep, hTap, hShe⟩ := id h
    obtain ⟨⟨s0, s1, s2, s3, s4, s5, s6, s7, s8, s9, s10, s11, s12, s13, s14, s15⟩, r0, r1, r2, r3, r4, r5, r6, r7, r8, r9, r10, r11, r12, r13, r14⟩ := id hM
    obtain ⟨⟨hSr, hS7, hS8⟩, hQ⟩ := id hN
    have e6 := hQ.1.1
    have hn5 := hSr.1
    have hmm : m ^ m ≤ 3125 := by
      have key : ∀ m : Fin 6, m.val ^ m.val ≤ 3125 := by decide
      exact key ⟨m, by omega⟩
    have hl := digs_len m m x
    have hll := digs_lt (m := m) m x (by omega)
    have kio := ct_X7_isOrder (X := X) (I := mN J (I 158) (nvw (I 158))) (L := L) (R := R) (m := m) (x := x) (tp := tp) hM hm (fun j hj => by rw [mN_o _ _ _ (by decide), hJ.2.1, htp j hj]) (by omega)
    rw [mN_rowo _ _ _ (by decide)] at kio
    generalize hO : oww m tp m x (mN J (I 158) (nvw (I 158)) 166) = O' at kio
    have hOl : ∀ t, t < m → O' t = tp ((digs m m x).getD t 0) := fun t ht => by rw [← hO, oww_at, if_pos ht]
    have hJ2 : mOr I (zrow J 166 O') T O' B := ⟨⟨fun a ha => by rw [zrow_oR _ _ (fun z => ha (by unfold mscr; omega))]; exact hJ.1.1 a ha, by rw [zrow_oR _ _ (by decide)]; exact hJ.1.2⟩, by rw [zrow_oR _ _ (by decide)]; exact hJ.2.1, funext (zrow_at J 166 O'), by rw [zrow_oR _ _ (by decide)]; exact hJ.2.2.2⟩
    have kr : mof m (oval A.1 tp) (n + 1) x c b = if isOr m x = true then (if c < oval A.1 tp (digs m m x) then mof m (oval A.1 tp) n (x + 1) (oval A.1 tp (digs m m x)) (digs m m x) else mof m (oval A.1 tp) n (x + 1) c b) else mof m (oval A.1 tp) n (x + 1) c b := rfl
    have hpm : isOr m x = true → digs m m x ∈ prml m := fun hi => by
      have := isOr_mem (m := m) (n := m ^ m) (x := x) (by omega) hi
      have e := prml_f ⟨m, by omega⟩
      simp only at e
      rw [e] at this
      exact this
    have ih := fun c' b' J' z6 z7 O'' B' => lp_X7_order82 h hu hk hm htp hr hne n (x + 1) c' b' J' z6 z7 O'' B' (by omega)
    rw [kr] at hn0 ⊢
    by_cases hi : isOr m x = true
    · rw [if_pos hi] at kio hn0 ⊢
      have hnd : nodupB (digs m m x) = true := by
        have := prml_nd ⟨m, by omega⟩
        simp only at this
        exact List.all_eq_true.mp this _ (hpm hi)
      generalize digs m m x = l at hl hll hOl hnd hn0 ⊢
      have hlt : ∀ i ∈ l, ((tp i).toNat : Int) < nvw (I 158) 0 6 := fun i hi => by have := hr i (hll i hi); omega
      have ev : pcn (sthr (osq tp l (nvw (I 158)))) = oval A.1 tp l := by
        unfold oval
        rw [sthr_c (osq_c l _ _ hQ hlt)]
      have hF := osq_sr l _ hSr hlt
      have hv5 := sthr_5 hF.1
      have hvr : 0 ≤ oval A.1 tp l ∧ oval A.1 tp l ≤ 5 := pcn_r
      have kmy := ct_X7_many (X := X) (sh := sh) (I := I) (L := L) (R := R) hv5
      have kmany := fun J => ct_X7_many (X := X) (sh := sh) (I := J) (L := L) (R := R) hv5
      rw [ev] at kmany
      refine z_iload5 84 dX7_order_82 rfl ?_
      refine z_iload3 85 dX7_order_84 rfl ?_
      refine z_icmp_ge 196 88 dX7_order_85 (by decide) rfl (by omega) (by omega) (fun hz => absurd hz (by omega)) (fun h85 => ?_)
      refine z_aload0 89 dX7_order_88 rfl ?_
      refine z_iload5 91 dX7_order_89 rfl ?_
      refine z_iload2 92 dX7_order_91 rfl ?_
      refine z_xV2 95 dX7_order_92 lk_X7_order_187 (kio) rfl (Nat.le_of_ble_eq_true rfl) (Nat.le_of_ble_eq_true rfl) (by assumption) rfl rfl ?_
      refine z_if_eq 190 98 dX7_order_95 (by decide) rfl (by omega) (fun hz => absurd hz (by omega)) (fun h95 => ?_)
      refine z_iconst 99 dX7_order_98 rfl ?_
      refine z_istore6 101 dX7_order_99 (Nat.le_of_ble_eq_true rfl) rfl rfl ?_
      refine lp_X7_order101 (k := k) (T := T) (O := O') (B := B) (tp := tp) hM hm (osq tp l (nvw (I 158))) (fun J' z6 hJ' => ?_) l 0 _ (nvw (I 158)) (by omega) hJ2 hSr (zuq_q hQ hu) (fun i hi => by rw [Nat.zero_add, hOl i (by omega), List.getD_eq_getElem?_getD, List.getElem?_eq_getElem hi]; rfl) (fun i hi => by have h1 := hr i (hll i hi); exact ⟨h1.1, by omega, by rw [(hQ.2.2 (tp i).toNat (by omega)).2.2.2]; exact h1.2.2⟩) (fun i hi j hj hij => hne i j (hll i hi) (hll j hj) hij) hnd rfl
      exact tl_X7_order125 hM hm hJ' hF kmany hvr hc (by omega) (fun J2 z6 z7 hlt' hJ3 => by
        rw [if_pos hlt'] at hn0 ⊢
        exact ih _ l J2 z6 z7 O' _ hJ3 (by omega) (fun _ j hj => by show fln B O' 0 m j = _; unfold fln; rw [if_pos (by omega)]; exact hOl j hj) hn0) (fun J2 z6 z7 hlt' hJ3 => by
        rw [if_neg hlt'] at hn0 ⊢
        exact ih c b J2 z6 z7 O' B hJ3 hc hB hn0)
    · rw [if_neg hi] at kio hn0 ⊢
      refine z_iload5 84 dX7_order_82 rfl ?_
      refine z_iload3 85 dX7_order_84 rfl ?_
      refine z_icmp_ge 196 88 dX7_order_85 (by decide) rfl (by omega) (by omega) (fun hz => absurd hz (by omega)) (fun h85 => ?_)
      refine z_aload0 89 dX7_order_88 rfl ?_
      refine z_iload5 91 dX7_order_89 rfl ?_
      refine z_iload2 92 dX7_order_91 rfl ?_
      refine z_xV2 95 dX7_order_92 lk_X7_order_187 (kio) rfl (Nat.le_of_ble_eq_true rfl) (Nat.le_of_ble_eq_true rfl) (by assumption) rfl rfl ?_
      refine z_if_eq 190 98 dX7_order_95 (by decide) rfl (by omega) (fun h95 => ?_) (fun hz => absurd hz (by omega))
      refine z_iinc5 193 dX7_order_190 (Nat.le_of_ble_eq_true rfl) rfl rfl ?_
      refine z_goto 82 dX7_order_193 (by decide) ?_
      exact ih c b _ _ _ O' B hJ2 hc hB hn0
theorem tl_X7_order53 {k z4 : Int} {m : Nat} {J : zI2} {Q : zQ} (hm : m ≤ 5) (kk : ∀ r : Int, zE X mX7_order 0 0 72 [zR 157, zI k, zI (m : Int), zI ((m ^ m : Nat) : Int), zI r, zX, zX, zX] [] sh J L R Q) : zE X mX7_order 0 0 53 [zR 157, zI k, zI (m : Int), zI 1, zI z4, zX, zX, zX] [] sh J L R Q := by
  have k1 := lp_X7_order56 (X := X) (k := k) (J := J) hm kk m 0 (by omega)
  refine z_iconst 54 dX7_order_53 rfl ?_
  refine z_istore4 56 dX7_order_54 (Nat.le_of_ble_eq_true rfl) rfl rfl ?_
  exact k1
theorem tl_X7_order72 {k z3 z4 : Int} {m : Nat} {J : zI2} {N : Nat → Int} {S : zT} {Q : zQ} (hM : zMs sh R) (kk : ∀ z : zV, zE X mX7_order 0 0 82 [zR 157, zI k, zI (m : Int), zI z3, zI (-1), zI 0, zX, zX] [] sh (mN (zrow J 164 (npk (J 164) S)) N S) L R Q) : zE X mX7_order 0 0 72 [zR 157, zI k, zI (m : Int), zI z3, zI z4, zX, zX, zX] [] sh (mN J N S) L R Q := by
  have s0 := hM.1.1
  refine z_iconst 73 dX7_order_72 rfl ?_
  refine z_istore4 75 dX7_order_73 (Nat.le_of_ble_eq_true rfl) rfl rfl ?_
  refine z_aload0 76 dX7_order_75 rfl ?_
  refine z_xVv0 79 dX7_order_76 lk_X7_order_181 (ct_X7_asides hM) rfl (Nat.le_of_ble_eq_true rfl) (Nat.le_of_ble_eq_true rfl) (by assumption) rfl rfl ?_
  refine z_iconst 80 dX7_order_79 rfl ?_
  refine z_istore5 82 dX7_order_80 (Nat.le_of_ble_eq_true rfl) rfl rfl ?_
  exact kk zX
theorem op_X7_order {k : Int} (h : mCA sh R I L A) (hu : zuq A.1) (hk : -2147483648 ≤ k ∧ k ≤ 2147483647) : zE X mX7_order 0 0 0 [zR 157, zI k, zX, zX, zX, zX, zX, zX] [] sh I L R (mOp sh I L R (zI (oOrder A k)) A) := by
  obtain ⟨hM, hN, hHis, hKep, hTap, hShe⟩ := id h
  obtain ⟨⟨s0, s1, s2, s3, s4, s5, s6, s7, s8, s9, s10, s11, s12, s13, s14, s15⟩, r0, r1, r2, r3, r4, r5, r6, r7, r8, r9, r10, r11, r12, r13, r14⟩ := id hM
  obtain ⟨⟨hSr, hS7, hS8⟩, hQ⟩ := id hN
  have e6 := hQ.1.1
  have hn5 := hSr.1
  have hc := obg_c (P := nvw (I 158) 6) (P' := A.1 6) (A.1 0 6).toNat 0 (I 165) (fun _ => 0) 0 (fun q _ hq => (hQ.2.2 q (by omega)).2.2.2) (fun k hk => absurd hk (by omega))
  have hg := obg_r (nvw (I 158) 6) (A.1 0 6).toNat 0 (I 165) 0
  have e2 : (obg (nvw (I 158) 6) (A.1 0 6).toNat 0 (I 165) 0).2 = otn A.1 := hc.1
  have e3 : obg (nvw (I 158) 6) (A.1 0 6).toNat 0 (I 165) 0 = ((obg (nvw (I 158) 6) (A.1 0 6).toNat 0 (I 165) 0).1, otn A.1) := by rw [← e2]
  rw [e2] at hc hg
  generalize (obg (nvw (I 158) 6) (A.1 0 6).toNat 0 (I 165) 0).1 = T at hc hg e3
  have hm : otn A.1 ≤ 5 := by have := hg.1.2; omega
  obtain ⟨-, -, -, hg4⟩ := hg
  have htp : ∀ j, j < otn A.1 → T j = otp A.1 j := fun j hj => hc.2 j hj
  have hr : ∀ j, j < otn A.1 → 0 ≤ otp A.1 j ∧ otp A.1 j < A.1 0 6 ∧ A.1 6 (otp A.1 j).toNat = 30 := fun j hj => by
    obtain ⟨q, hq, hq2, hq3, -⟩ := hg4 j (by omega) hj
    rw [← htp j hj, hq2, Int.toNat_natCast]
    exact ⟨by omega, by omega, by rw [← (hQ.2.2 q (by omega)).2.2.2]; exact hq3⟩
  have hlt : ∀ i j, i < j → j < otn A.1 → otp A.1 i < otp A.1 j := fun i j hij hj => by
    obtain ⟨q, hq, hq2, -, hq4⟩ := hg4 i (by omega) (by omega)
    rw [← htp i (by omega), ← htp j hj, hq2]
    exact hq4 j hij hj
  have hne : ∀ i j, i < otn A.1 → j < otn A.1 → i ≠ j → otp A.1 i ≠ otp A.1 j := fun i j hi hj hij => by
    rcases Nat.lt_or_gt_of_ne hij with h1 | h1
    · have := hlt i j h1 hj; omega
    · have := hlt j i h1 hi; omega
  have hfo : mof (otn A.1) (oval A.1 (otp A.1)) (otn A.1 ^ otn A.1) 0 (-1) [] = obst A.1 := by
    rw [mof_o]
    have e := prml_f ⟨otn A.1, by omega⟩
    simp only at e
    rw [e]
    rfl
  have hb0 := obst_r A.1 hm
  have eo : -1 ≤ k → oOrder A k = ofin k (otn A.1) (otp A.1) (obst A.1) := fun hk1 => by
    unfold oOrder ofin
    rw [if_neg (by omega)]
    by_cases h1 : k = -1
    · rw [if_pos h1, if_pos (show k < 0 by omega)]
    · rw [if_neg h1, if_neg (show ¬ k < 0 by omega)]
      by_cases h2 : k < (otn A.1 : Int)
      · rw [if_pos (by omega), if_pos h2]
      · rw [if_neg (by omega), if_neg h2]
  refine z_mN ?_
  refine z_iload1 1 dX7_order_0 rfl ?_
  refine z_iconst 2 dX7_order_1 rfl ?_
  refine z_icmp_ge 7 5 dX7_order_2 (by decide) rfl (by omega) (by omega) (fun h2 => ?_) (fun h2 => ?_)
  · refine z_iconst 8 dX7_order_7 rfl ?_
    refine z_istore2 9 dX7_order_8 (Nat.le_of_ble_eq_true rfl) rfl rfl ?_
    refine z_iconst 10 dX7_order_9 rfl ?_
    refine z_istore3 11 dX7_order_10 (Nat.le_of_ble_eq_true rfl) rfl rfl ?_
    refine z_iconst 12 dX7_order_11 rfl ?_
    refine z_istore4 14 dX7_order_12 (Nat.le_of_ble_eq_true rfl) rfl rfl ?_
    rw [eo (by omega), ← hfo]
    have k14 := fun kk => lp_X7_order14 (X := X) (L := L) (k := k) (z3 := 1) (Q := mOp sh I L R (zI (ofin k (otn A.1) (otp A.1) (mof (otn A.1) (oval A.1 (otp A.1)) (otn A.1 ^ otn A.1) 0 (-1) []))) A) h T (otn A.1) kk (A.1 0 6).toNat 0 (I 165) 0 (by omega) (by omega) e3
    rw [zrow_self] at k14
    refine k14 (fun r => tl_X7_order53 hm (fun r => tl_X7_order72 hM (fun z4 => ?_)))
    have hJ0 : mOr I (zrow (zrow I 165 T) 164 (npk (zrow I 165 T 164) (nvw (I 158)))) T (I 166) (I 167) := ⟨⟨fun a ha => by rw [zrow_oR _ _ (fun z => ha (by unfold mscr; omega)), zrow_oR _ _ (fun z => ha (by unfold mscr; omega))], by rw [show zrow I 165 T 164 = I 164 from zrow_oR _ _ (by decide)]; exact funext (zrow_at _ 164 _)⟩, by rw [zrow_oR _ _ (by decide)]; exact funext (zrow_at I 165 T), by rw [zrow_oR _ _ (by decide), zrow_oR _ _ (by decide)], by rw [zrow_oR _ _ (by decide), zrow_oR _ _ (by decide)]⟩
    exact lp_X7_order82 h hu (by omega) hm htp hr hne (otn A.1 ^ otn A.1) 0 (-1) [] _ _ _ _ _ (by omega) hJ0 (by omega) (fun hc => absurd hc (by omega)) (by rw [hfo]; exact hb0)
  · refine z_iconst 6 dX7_order_5 rfl ?_
    exact z_ireturn dX7_order_6 rfl (mOp_sameN h (by unfold oOrder; rw [if_pos (by omega)]))
end MODQ
