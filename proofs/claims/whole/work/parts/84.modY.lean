theorem tsl_8 {T : Nat → Int} {n : Nat} (S : zT) : (tsl T n S).2.2 0 8 = S 0 8 := by
  have hS : ∀ (S : zT) (r : Nat) (k v l : Int), sad S r k v l 0 8 = S 0 8 := fun S r k v l => by
    unfold sad
    rw [zup_ne _ _ (by omega), zup_row _ _ (by decide), zup_row _ _ (by decide), zup_row _ _ (by decide), zup_row _ _ (by decide)]
  have hrr : ∀ (r k : Nat) (S : zT), (trr T n r k S).2.2 0 8 = S 0 8 := fun r k S => by
    unfold trr
    split
    · rfl
    · split
      · rfl
      · split
        · rfl
        · simp only [hS]
  have hrl : ∀ (m r k : Nat) (S : zT), (trl T n m r k S).2.2 0 8 = S 0 8 := fun m => by
    induction m with
    | zero => exact fun _ _ _ => rfl
    | succ m ih =>
      intro r k S
      unfold trl
      split
      · split
        · exact hrr _ _ _
        · rw [ih, hrr]
      · rfl
  have hrs : ∀ (k : Nat) (S : zT), (trs T n k S).2.2 0 8 = S 0 8 := fun k S => by
    unfold trs
    split
    · exact hrr _ _ _
    · rw [hrl, hrr]
  have htl : ∀ (m t k : Nat) (S : zT), (ttl T n m t k S).2.2 0 8 = S 0 8 := fun m => by
    induction m with
    | zero => exact fun _ _ _ => rfl
    | succ m ih =>
      intro t k S
      unfold ttl
      split
      · rfl
      · split
        · rfl
        · rw [ih, zup_row _ _ (by decide), zup_row _ _ (by decide)]
  have e0 : zup (zup S 0 6 0) 0 7 0 0 8 = S 0 8 := by rw [zup_ne _ _ (by omega), zup_ne _ _ (by omega)]
  unfold tsl
  split
  · rw [htl, e0]
  · unfold tsr
    split
    · split
      · rw [hrs, htl, e0]
      · rw [hrs, htl, e0]
    · rw [htl, e0]
section MODY
variable {X : zXs} {sh : zH} {I L : zI2} {R : zR2} {A : zA}
theorem ct_X7_turnsRead {T : Nat → Int} {n : Nat} (hM : zMs sh R) (ht : zTm I T n) (V : Nat → Int) (S : zT) : zE X mX7_turnsRead 0 0 0 [zR 157, zX] [] sh (mT (zrow I 161 V) 0 0) L R (mTq sh I L R (ttl T n 10 0 0 S).2.1 (if (ttl T n 10 0 0 S).1 = 0 then 1 else 0) (fun V' => ¬ (ttl T n 10 0 0 S).1 = 0 → (ttl T n 10 0 0 S).2.2 = stt V' 10 0 S ∧ ∀ u, u < 0 → V' u = V u ∧ V' (10 + u) = V (10 + u))) := by
  refine z_iconst 1 dX7_turnsRead_0 rfl ?_
  refine z_istore1 2 dX7_turnsRead_1 (Nat.le_of_ble_eq_true rfl) rfl rfl ?_
  exact lp_X7_turns0 hM ht 10 0 0 V S rfl (Nat.zero_le n)
/-- where a fault is told -/
theorem tl_X7_slide47F {K : zI2} {k : Nat} {z1 : Int} (hM : zMs sh R) (hk : k ≤ 100) : zE X mX7_slide 0 0 47 [zR 157, zI z1, zX] [] sh (mT K k 1) L R (zEq [zI (-20 - (k : Int))] sh (zup (mT K k 1) 157 3 0) L R) := by
  obtain ⟨⟨s0, s1, s2, s3, s4, s5, s6, s7, s8, s9, s10, s11, s12, s13, s14, s15⟩, r0, r1, r2, r3, r4, r5, r6, r7, r8, r9, r10, r11, r12, r13, r14⟩ := id hM
  have e5 : zup (mT K k 1) 157 3 0 157 5 = 1 := by rw [zup_ne _ _ (by omega), mT_5]
  have e4 : zup (mT K k 1) 157 3 0 157 4 = (k : Int) := by rw [zup_ne _ _ (by omega), mT_4]
  refine z_aload0 48 dX7_slide_47 rfl ?_
  refine z_aload0 49 dX7_slide_48 rfl ?_
  refine z_getIx 52 dX7_slide_49 fl_RX7_133 (by assumption) (mT_5 _ _ _) rfl ?_
  refine z_if_ne 62 55 dX7_slide_52 (by decide) rfl (by omega) (fun h52 => ?_) (fun hz => absurd hz (by omega))
  refine z_iconst 63 dX7_slide_62 rfl ?_
  refine z_goto 67 dX7_slide_63 (by decide) ?_
  refine z_putZx 70 dX7_slide_67 fp_RX7_133 (by omega) (by assumption) (mT_u5 _ _ _ _) rfl ?_
  refine z_aload0 71 dX7_slide_70 rfl ?_
  refine z_iconst 72 dX7_slide_71 rfl ?_
  refine z_putI 75 dX7_slide_72 fp_RX7_127 (by assumption) rfl ?_
  refine z_aload0 76 dX7_slide_75 rfl ?_
  refine z_getIx 79 dX7_slide_76 fl_RX7_133 (by assumption) (e5) rfl ?_
  refine z_if_eq 90 82 dX7_slide_79 (by decide) rfl (by omega) (fun hz => absurd hz (by omega)) (fun h79 => ?_)
  refine z_bipush 84 dX7_slide_82 (by decide) rfl ?_
  refine z_aload0 85 dX7_slide_84 rfl ?_
  refine z_getIx 88 dX7_slide_85 fl_RX7_130 (by assumption) (e4) rfl ?_
  refine z_isub 89 dX7_slide_88 rfl ?_
  exact z_ireturn dX7_slide_89 rfl (⟨rfl, rfl, rfl, rfl, rfl⟩)
theorem tl_X7_slide47O {K : zI2} {T : Nat → Int} {n k : Nat} {z1 : Int} {Q : zQ} (hM : zMs sh R) (ht : zTm K T n) (hk : k ≤ n) (kF : ¬ tat T n (tnl T n k) = -1 → Q [zI (-20 - (tnl T n k : Int))] sh (zup (mT K (tnl T n k) 1) 157 3 0) L R) (kk : tat T n (tnl T n k) = -1 → zE X mX7_slide 0 0 90 [zR 157, zI z1, zX] [] sh (zup (mT K (tnl T n k) 0) 157 3 0) L R Q) : zE X mX7_slide 0 0 47 [zR 157, zI z1, zX] [] sh (mT K k 0) L R Q := by
  obtain ⟨⟨s0, s1, s2, s3, s4, s5, s6, s7, s8, s9, s10, s11, s12, s13, s14, s15⟩, r0, r1, r2, r3, r4, r5, r6, r7, r8, r9, r10, r11, r12, r13, r14⟩ := id hM
  have hk1 := tnl_r T n k hk
  have h70 := ht.2.1
  have hm := mat_t (k := tnl T n k) ht.2.2.2
  have kh := ct_X7_here (X := X) (L := L) (f := 0) hM ht hk
  by_cases h1 : tat T n (tnl T n k) = -1
  · have em : mat T n (tnl T n k) = 0 := by omega
    rw [em] at kh
    have k2 := kk h1
    generalize tnl T n k = k' at *
    have e5 : zup (mT K k' 0) 157 3 0 157 5 = 0 := by rw [zup_ne _ _ (by omega), mT_5]
    refine z_aload0 48 dX7_slide_47 rfl ?_
    refine z_aload0 49 dX7_slide_48 rfl ?_
    refine z_getIx 52 dX7_slide_49 fl_RX7_133 (by assumption) (mT_5 _ _ _) rfl ?_
    refine z_if_ne 62 55 dX7_slide_52 (by decide) rfl (by omega) (fun hz => absurd hz (by omega)) (fun h52 => ?_)
    refine z_aload0 56 dX7_slide_55 rfl ?_
    refine z_xV0 59 dX7_slide_56 lk_X7_slide_137 (kh) rfl (Nat.le_of_ble_eq_true rfl) (Nat.le_of_ble_eq_true rfl) (by assumption) rfl rfl ?_
    refine z_if_eq 66 62 dX7_slide_59 (by decide) rfl (by omega) (fun h59 => ?_) (fun hz => absurd hz (by omega))
    refine z_iconst 67 dX7_slide_66 rfl ?_
    refine z_putZx 70 dX7_slide_67 fp_RX7_133 (by omega) (by assumption) (mT_u5 _ _ _ _) rfl ?_
    refine z_aload0 71 dX7_slide_70 rfl ?_
    refine z_iconst 72 dX7_slide_71 rfl ?_
    refine z_putI 75 dX7_slide_72 fp_RX7_127 (by assumption) rfl ?_
    refine z_aload0 76 dX7_slide_75 rfl ?_
    refine z_getIx 79 dX7_slide_76 fl_RX7_133 (by assumption) (e5) rfl ?_
    refine z_if_eq 90 82 dX7_slide_79 (by decide) rfl (by omega) (fun h79 => ?_) (fun hz => absurd hz (by omega))
    exact k2
  · have em : mat T n (tnl T n k) ≠ 0 := by omega
    have k2 := kF h1
    generalize mat T n (tnl T n k) = c at *
    generalize tnl T n k = k' at *
    have e5 : zup (mT K k' 1) 157 3 0 157 5 = 1 := by rw [zup_ne _ _ (by omega), mT_5]
    have e4 : zup (mT K k' 1) 157 3 0 157 4 = (k' : Int) := by rw [zup_ne _ _ (by omega), mT_4]
    refine z_aload0 48 dX7_slide_47 rfl ?_
    refine z_aload0 49 dX7_slide_48 rfl ?_
    refine z_getIx 52 dX7_slide_49 fl_RX7_133 (by assumption) (mT_5 _ _ _) rfl ?_
    refine z_if_ne 62 55 dX7_slide_52 (by decide) rfl (by omega) (fun hz => absurd hz (by omega)) (fun h52 => ?_)
    refine z_aload0 56 dX7_slide_55 rfl ?_
    refine z_xV0 59 dX7_slide_56 lk_X7_slide_137 (kh) rfl (Nat.le_of_ble_eq_true rfl) (Nat.le_of_ble_eq_true rfl) (by assumption) rfl rfl ?_
    refine z_if_eq 66 62 dX7_slide_59 (by decide) rfl (by omega) (fun hz => absurd hz (by omega)) (fun h59 => ?_)
    refine z_iconst 63 dX7_slide_62 rfl ?_
    refine z_goto 67 dX7_slide_63 (by decide) ?_
    refine z_putZx 70 dX7_slide_67 fp_RX7_133 (by omega) (by assumption) (mT_u5 _ _ _ _) rfl ?_
    refine z_aload0 71 dX7_slide_70 rfl ?_
    refine z_iconst 72 dX7_slide_71 rfl ?_
    refine z_putI 75 dX7_slide_72 fp_RX7_127 (by assumption) rfl ?_
    refine z_aload0 76 dX7_slide_75 rfl ?_
    refine z_getIx 79 dX7_slide_76 fl_RX7_133 (by assumption) (e5) rfl ?_
    refine z_if_eq 90 82 dX7_slide_79 (by decide) rfl (by omega) (fun hz => absurd hz (by omega)) (fun h79 => ?_)
    refine z_bipush 84 dX7_slide_82 (by decide) rfl ?_
    refine z_aload0 85 dX7_slide_84 rfl ?_
    refine z_getIx 88 dX7_slide_85 fl_RX7_130 (by assumption) (e4) rfl ?_
    refine z_isub 89 dX7_slide_88 rfl ?_
    exact z_ireturn dX7_slide_89 rfl (k2)
theorem lp_X7_slide157 {J : zI2} {N W : Nat → Int} {S0 : zT} {n' : Nat} (hM : zMs sh R) (hn : n' ≤ 5) (hW : J 162 = W) (h9 : J 157 9 = 0) (h0 : S0 0 6 = 0) : ∀ (m r : Nat), r + m = n' → zE X mX7_slide 0 0 157 [zR 157, zI (n' : Int), zI (r : Int)] [] sh (mN J N (sads S0 W r)) L R (zEq [zI (n' : Int)] sh (mN J N (sads S0 W n')) L R)
  | 0, r, h => by
    have e : r = n' := by omega
    subst e
    refine z_iload2 158 dX7_slide_157 rfl ?_
    refine z_iload1 159 dX7_slide_158 rfl ?_
    refine z_icmp_ge 200 162 dX7_slide_159 (by decide) rfl (by omega) (by omega) (fun h159 => ?_) (fun hz => absurd hz (by omega))
    refine z_iload1 201 dX7_slide_200 rfl ?_
    exact z_ireturn dX7_slide_201 rfl (⟨rfl, rfl, rfl, rfl, rfl⟩)
  | m + 1, r, h => by
    obtain ⟨⟨s0, s1, s2, s3, s4, s5, s6, s7, s8, s9, s10, s11, s12, s13, s14, s15⟩, r0, r1, r2, r3, r4, r5, r6, r7, r8, r9, r10, r11, r12, r13, r14⟩ := id hM
    have e6 : sads S0 W r 0 6 = (r : Int) := by
      cases r with
      | zero => exact h0
      | succ r => unfold sads; rw [sad_6]; rfl
    have eW : ∀ j, mN J N (sads S0 W r) 162 j = W j := fun j => by rw [mN_o _ _ _ (by decide), hW]
    have krc := ct_X7_riderComes (X := X) (J := J) (L := L) (R := R) (N := N) (S := sads S0 W r) (n := r) (k := W (3 * r)) (v := W (3 * r + 1)) (l := W (3 * r + 2)) hM e6 (by omega)
    rw [show zup J 157 9 0 = J by rw [← h9]; exact zup_self J 157 9] at krc
    refine z_iload2 158 dX7_slide_157 rfl ?_
    refine z_iload1 159 dX7_slide_158 rfl ?_
    refine z_icmp_ge 200 162 dX7_slide_159 (by decide) rfl (by omega) (by omega) (fun hz => absurd hz (by omega)) (fun h159 => ?_)
    refine z_aload0 163 dX7_slide_162 rfl ?_
    refine z_aload0 164 dX7_slide_163 rfl ?_
    refine z_getR 167 dX7_slide_164 fl_RX7_22 (by assumption) (by assumption) rfl ?_
    refine z_iconst 168 dX7_slide_167 rfl ?_
    refine z_iload2 169 dX7_slide_168 rfl ?_
    refine z_imul 170 dX7_slide_169 rfl ?_
    refine z_ialdx 171 (3 * r) dX7_slide_170 (by assumption) (by omega) (by omega) (eW _) rfl ?_
    refine z_aload0 172 dX7_slide_171 rfl ?_
    refine z_getR 175 dX7_slide_172 fl_RX7_22 (by assumption) (by assumption) rfl ?_
    refine z_iconst 176 dX7_slide_175 rfl ?_
    refine z_iload2 177 dX7_slide_176 rfl ?_
    refine z_imul 178 dX7_slide_177 rfl ?_
    refine z_iconst 179 dX7_slide_178 rfl ?_
    refine z_iadd 180 dX7_slide_179 rfl ?_
    refine z_ialdx 181 (3 * r + 1) dX7_slide_180 (by assumption) (by omega) (by omega) (eW _) rfl ?_
    refine z_aload0 182 dX7_slide_181 rfl ?_
    refine z_getR 185 dX7_slide_182 fl_RX7_22 (by assumption) (by assumption) rfl ?_
    refine z_iconst 186 dX7_slide_185 rfl ?_
    refine z_iload2 187 dX7_slide_186 rfl ?_
    refine z_imul 188 dX7_slide_187 rfl ?_
    refine z_iconst 189 dX7_slide_188 rfl ?_
    refine z_iadd 190 dX7_slide_189 rfl ?_
    refine z_ialdx 191 (3 * r + 2) dX7_slide_190 (by assumption) (by omega) (by omega) (eW _) rfl ?_
    refine z_xVv3 194 dX7_slide_191 lk_X7_slide_91 (krc) rfl (Nat.le_of_ble_eq_true rfl) (Nat.le_of_ble_eq_true rfl) (by assumption) rfl rfl ?_
    refine z_iinc2 197 dX7_slide_194 (Nat.le_of_ble_eq_true rfl) rfl rfl ?_
    refine z_goto 157 dX7_slide_197 (by decide) ?_
    exact lp_X7_slide157 hM hn hW h9 h0 m (r + 1) (by omega)
theorem lp_X7_slide111 {J : zI2} {N V W : Nat → Int} {n' : Nat} (hM : zMs sh R) (hn : n' ≤ 5) (hV : J 161 = V) (hW : J 162 = W) (h9 : J 157 9 = 0) : ∀ (m t : Nat) (S : zT), t + m = 10 → S 0 6 = 0 → zE X mX7_slide 0 0 111 [zR 157, zI (n' : Int), zI (t : Int)] [] sh (mN J N S) L R (zEq [zI (n' : Int)] sh (mN J N (sads (stt V m t S) W n')) L R)
  | 0, t, S, h, h0 => by
    have k := lp_X7_slide157 (X := X) (L := L) (N := N) (S0 := S) hM hn hW h9 h0 n' 0 (by omega)
    refine z_iload2 112 dX7_slide_111 rfl ?_
    refine z_bipush 114 dX7_slide_112 (by decide) rfl ?_
    refine z_icmp_ge 155 117 dX7_slide_114 (by decide) rfl (by omega) (by omega) (fun h114 => ?_) (fun hz => absurd hz (by omega))
    refine z_iconst 156 dX7_slide_155 rfl ?_
    refine z_istore2 157 dX7_slide_156 (Nat.le_of_ble_eq_true rfl) rfl rfl ?_
    exact k
  | m + 1, t, S, h, h0 => by
    obtain ⟨⟨s0, s1, s2, s3, s4, s5, s6, s7, s8, s9, s10, s11, s12, s13, s14, s15⟩, r0, r1, r2, r3, r4, r5, r6, r7, r8, r9, r10, r11, r12, r13, r14⟩ := id hM
    have eV : ∀ (S : zT) (j : Nat), mN J N S 161 j = V j := fun S j => by rw [mN_o _ _ _ (by decide), hV]
    have hx : nix (3 + t) 1 t := Or.inr (Or.inr (Or.inr (Or.inl ⟨rfl, rfl, by omega⟩)))
    have hx2 : nix (13 + t) 2 t := Or.inr (Or.inr (Or.inr (Or.inr (Or.inl ⟨rfl, rfl, by omega⟩))))
    refine z_iload2 112 dX7_slide_111 rfl ?_
    refine z_bipush 114 dX7_slide_112 (by decide) rfl ?_
    refine z_icmp_ge 155 117 dX7_slide_114 (by decide) rfl (by omega) (by omega) (fun hz => absurd hz (by omega)) (fun h114 => ?_)
    refine z_aload0 118 dX7_slide_117 rfl ?_
    refine z_getR 121 dX7_slide_118 fl_RX7_7 (by assumption) (by assumption) rfl ?_
    refine z_iconst 122 dX7_slide_121 rfl ?_
    refine z_iload2 123 dX7_slide_122 rfl ?_
    refine z_iadd 124 dX7_slide_123 rfl ?_
    refine z_aload0 125 dX7_slide_124 rfl ?_
    refine z_getR 128 dX7_slide_125 fl_RX7_19 (by assumption) (by assumption) rfl ?_
    refine z_iload2 129 dX7_slide_128 rfl ?_
    refine z_ialdx 130 (t) dX7_slide_129 (by assumption) (by omega) (by omega) (eV _ _) rfl ?_
    refine z_iastx 131 (3 + t) dX7_slide_130 (by assumption) (by omega) (by omega) (mN_up _ _ _ (i := 1) (j := t) hx _) rfl ?_
    refine z_aload0 132 dX7_slide_131 rfl ?_
    refine z_getR 135 dX7_slide_132 fl_RX7_7 (by assumption) (by assumption) rfl ?_
    refine z_bipush 137 dX7_slide_135 (by decide) rfl ?_
    refine z_iload2 138 dX7_slide_137 rfl ?_
    refine z_iadd 139 dX7_slide_138 rfl ?_
    refine z_aload0 140 dX7_slide_139 rfl ?_
    refine z_getR 143 dX7_slide_140 fl_RX7_19 (by assumption) (by assumption) rfl ?_
    refine z_bipush 145 dX7_slide_143 (by decide) rfl ?_
    refine z_iload2 146 dX7_slide_145 rfl ?_
    refine z_iadd 147 dX7_slide_146 rfl ?_
    refine z_ialdx 148 (10 + t) dX7_slide_147 (by assumption) (by omega) (by omega) (eV _ _) rfl ?_
    refine z_iastx 149 (13 + t) dX7_slide_148 (by assumption) (by omega) (by omega) (mN_up _ _ _ (i := 2) (j := t) hx2 _) rfl ?_
    refine z_iinc2 152 dX7_slide_149 (Nat.le_of_ble_eq_true rfl) rfl rfl ?_
    refine z_goto 111 dX7_slide_152 (by decide) ?_
    exact lp_X7_slide111 hM hn hV hW h9 m (t + 1) _ (by omega) (by rw [zup_row _ _ (by decide), zup_row _ _ (by decide)]; exact h0)
theorem tl_X7_slide90 {J : zI2} {N V W : Nat → Int} {S : zT} {n' : Nat} (hM : zMs sh R) (hn : n' ≤ 5) (hV : J 161 = V) (hW : J 162 = W) : zE X mX7_slide 0 0 90 [zR 157, zI (n' : Int), zX] [] sh (mN J N S) L R (zEq [zI (n' : Int)] sh (mN (zup J 157 9 0) N (sads (stt V 10 0 (zup (zup S 0 6 0) 0 7 0)) W n')) L R) := by
  obtain ⟨⟨s0, s1, s2, s3, s4, s5, s6, s7, s8, s9, s10, s11, s12, s13, s14, s15⟩, r0, r1, r2, r3, r4, r5, r6, r7, r8, r9, r10, r11, r12, r13, r14⟩ := id hM
  have k := lp_X7_slide111 (X := X) (J := zup J 157 9 0) (L := L) (N := N) (V := V) (W := W) (n' := n') hM hn (by rw [zup_row _ _ (by decide)]; exact hV) (by rw [zup_row _ _ (by decide)]; exact hW) (zup_at _ _ _ _) 10 0 (zup (zup S 0 6 0) 0 7 0) rfl (by rw [zup_ne _ _ (by omega), zup_at])
  refine z_aload0 91 dX7_slide_90 rfl ?_
  refine z_getR 94 dX7_slide_91 fl_RX7_7 (by assumption) (by assumption) rfl ?_
  refine z_iconst 95 dX7_slide_94 rfl ?_
  refine z_iconst 96 dX7_slide_95 rfl ?_
  refine z_iastx 97 (0) dX7_slide_96 (by assumption) (by omega) (by omega) (mN_up _ _ _ (i := 0) (j := 6) (Or.inl ⟨rfl, rfl, rfl⟩) _) rfl ?_
  refine z_aload0 98 dX7_slide_97 rfl ?_
  refine z_getR 101 dX7_slide_98 fl_RX7_7 (by assumption) (by assumption) rfl ?_
  refine z_iconst 102 dX7_slide_101 rfl ?_
  refine z_iconst 103 dX7_slide_102 rfl ?_
  refine z_iastx 104 (1) dX7_slide_103 (by assumption) (by omega) (by omega) (mN_up _ _ _ (i := 0) (j := 7) (Or.inr (Or.inl ⟨rfl, rfl, rfl⟩)) _) rfl ?_
  refine z_aload0 105 dX7_slide_104 rfl ?_
  refine z_iconst 106 dX7_slide_105 rfl ?_
  refine z_putIx 109 dX7_slide_106 fp_RX7_81 (by assumption) (mN_upo _ _ _ (by decide) _ _) rfl ?_
  refine z_iconst 110 dX7_slide_109 rfl ?_
  refine z_istore2 111 dX7_slide_110 (Nat.le_of_ble_eq_true rfl) rfl rfl ?_
  exact k
theorem mTap_nil {J : zI2} (h : J 157 3 = 0) : mTap J [] := ⟨h, Nat.zero_le _, fun j x hx => by cases hx⟩
theorem mOp_fault {K : zI2} {k : Nat} {f : Int} {x y : zV} (h : mCA sh R I L A) (hK : ∀ a, ¬ (a = 161 ∨ a = 162) → K a = I a) (e : x = y) : mOp sh I L R y (A.1, A.2.1, A.2.2.1, [], A.2.2.2.2) [x] sh (zup (mT K k f) 157 3 0) L R := by
  subst e
  obtain ⟨h1, h2, h3, h4, h5, h6⟩ := h
  have hd : ∀ a, ¬ (a = 157 ∨ a = 161 ∨ a = 162) → zup (mT K k f) 157 3 0 a = I a := fun a ha => by rw [zup_row _ _ (by omega), mT_o _ _ _ (by omega), hK a (by omega)]
  have h7 : ∀ c, c ≠ 3 → c ≠ 4 → c ≠ 5 → zup (mT K k f) 157 3 0 157 c = I 157 c := fun c q1 q2 q3 => by rw [zup_ne _ _ (by omega), mT_c _ _ _ q2 q3, hK 157 (by omega)]
  exact ⟨rfl, rfl, rfl, ⟨h1, by rw [hd 158 (by omega)]; exact h2, mHis_of (h7 9 (by decide) (by decide) (by decide)) (hd 163 (by omega)) h3, mKep_of (h7 16 (by decide) (by decide) (by decide)) (h7 15 (by decide) (by decide) (by decide)) (hd 168 (by omega)) h4, mTap_nil (zup_at _ _ _ _), mShe_of (hd 169 (by omega)) (hd 170 (by omega)) rfl h6⟩, fun a ha => ⟨hd a (by omega), rfl⟩⟩
end MODY
