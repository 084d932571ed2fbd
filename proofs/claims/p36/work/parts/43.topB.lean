/-! ===== calls on the object that look ahead ===== -/
theorem zrow_o (I : zI2) {k a : Nat} (f : Nat → Int) (h : a ≠ k) (j : Nat) : zrow I k f a j = I a j := by simp only [zrow, if_neg h]
theorem zrow_oR (I : zI2) {k a : Nat} (f : Nat → Int) (h : a ≠ k) : zrow I k f a = I a := funext (zrow_o I f h)
theorem zup_up (S : zT) (i j : Nat) (a c : Int) : zup (zup S i j a) i j c = zup S i j c := by
  funext x y
  unfold zup
  split <;> rfl
theorem zup_self (S : zT) (i j : Nat) : zup S i j (S i j) = S := by
  funext x y
  unfold zup
  split
  · rename_i h; rw [h.1, h.2]
  · rfl
section FORE
variable {X : zXs} {sh : zH} {I L : zI2} {R : zR2} {S : zT} {b : Nat}
theorem ct_foreW {r sp : Nat} (W : Nat → Int) (hs : zSl sh R b) (hr : zSr S) (h5 : r < 5) (hsp : sp < b ∨ b + 7 ≤ sp) (hsh : sh[sp]? = some (20, 10)) : ∃ W' : Nat → Int, (∀ j, j < 10 → W' j = sfw S r j) ∧ zE X mX4_foretell 0 0 0 [zR b, zI (r : Int), zR sp, zX, zX] [] sh (zsl (zrow I sp W) b S) L R (zEq [zI (sfe S r)] sh (zsl (zrow I sp W') b S) L R) := by
  have h := ct_X4_foretell (X := X) (I := zrow I sp W) (L := L) hs hr h5 hsp hsh
  rw [zrow_row] at h
  exact ⟨_, (sft_0 S r (zrow I sp W sp)).2, h⟩
theorem cti_foreW {r sp : Nat} (W : Nat → Int) (hs : zSl sh R b) (hr : zSr (zvw I b)) (h5 : r < 5) (hsp : sp < b ∨ b + 7 ≤ sp) (hsh : sh[sp]? = some (20, 10)) : ∃ W' : Nat → Int, (∀ j, j < 10 → W' j = sfw (zvw I b) r j) ∧ zE X mX4_foretell 0 0 0 [zR b, zI (r : Int), zR sp, zX, zX] [] sh (zrow I sp W) L R (zEq [zI (sfe (zvw I b) r)] sh (zrow I sp W') L R) := by
  have e : ∀ w, zsl (zrow I sp w) b (zvw I b) = zrow I sp w := fun w => by
    have h := zsl_self (zrow I sp w) b
    rw [zvw_row I hsp] at h
    exact h
  obtain ⟨W', h1, h2⟩ := ct_foreW (X := X) (I := I) (L := L) W hs hr h5 hsp hsh
  rw [e, e] at h2
  exact ⟨W', h1, h2⟩
theorem cti_fore {r sp : Nat} (hs : zSl sh R b) (hr : zSr (zvw I b)) (h5 : r < 5) (hsp : sp < b ∨ b + 7 ≤ sp) (hsh : sh[sp]? = some (20, 10)) : ∃ W' : Nat → Int, (∀ j, j < 10 → W' j = sfw (zvw I b) r j) ∧ zE X mX4_foretell 0 0 0 [zR b, zI (r : Int), zR sp, zX, zX] [] sh I L R (zEq [zI (sfe (zvw I b) r)] sh (zrow I sp W') L R) := by
  have h := cti_foreW (X := X) (I := I) (L := L) (I sp) hs hr h5 hsp hsh
  rw [zrow_self] at h
  exact h
def gmx (F : Nat → Int) : Nat → Nat → Nat → Nat
  | 0, _, c => c
  | m + 1, i, c => gmx F m (i + 1) (if F c < F i then i else c)
theorem gmx_lt (F : Nat → Int) (n : Nat) : ∀ (m i c : Nat), i + m ≤ n → c < n → gmx F m i c < n
  | 0, i, c, _, hc => hc
  | m + 1, i, c, h, hc => gmx_lt F n m (i + 1) _ (by omega) (by split <;> omega)
theorem gmx_c {F F' : Nat → Int} (n : Nat) (e : ∀ j, j < n → F j = F' j) : ∀ (m i c : Nat), i + m ≤ n → c < n → gmx F m i c = gmx F' m i c
  | 0, i, c, _, _ => rfl
  | m + 1, i, c, h, hc => by
    unfold gmx
    rw [e c hc, e i (by omega)]
    exact gmx_c n e m (i + 1) _ (by omega) (by split <;> omega)
theorem lp_X6_firstOfGreatest {a n : Nat} (ha : sh[a]? = some (20, n)) (hn : n ≤ 60000) (hF : ∀ j, j < n → -100 ≤ I a j ∧ I a j ≤ 100) : ∀ (m i c : Nat), i + m = n → c < n → zE X mX6_firstOfGreatest 0 0 4 [zR a, zI (c : Int), zI (i : Int)] [] sh I L R (zEq [zI (gmx (I a) m i c : Int)] sh I L R)
  | 0, i, c, h, hc => by
    refine z_iload2 5 dX6_firstOfGreatest_4 rfl ?_
    refine z_aload0 6 dX6_firstOfGreatest_5 rfl ?_
    refine z_alen 7 dX6_firstOfGreatest_6 (by assumption) (by decide) rfl ?_
    refine z_icmp_ge 27 10 dX6_firstOfGreatest_7 (by decide) rfl (by omega) (by omega) (fun h7 => ?_) (fun hz => absurd hz (by omega))
    refine z_iload1 28 dX6_firstOfGreatest_27 rfl ?_
    exact z_ireturn dX6_firstOfGreatest_28 rfl (⟨rfl, rfl, rfl, rfl, rfl⟩)
  | m + 1, i, c, h, hc => by
    have f1 := hF i (by omega)
    have f2 := hF c hc
    refine z_iload2 5 dX6_firstOfGreatest_4 rfl ?_
    refine z_aload0 6 dX6_firstOfGreatest_5 rfl ?_
    refine z_alen 7 dX6_firstOfGreatest_6 (by assumption) (by decide) rfl ?_
    refine z_icmp_ge 27 10 dX6_firstOfGreatest_7 (by decide) rfl (by omega) (by omega) (fun hz => absurd hz (by omega)) (fun h7 => ?_)
    refine z_aload0 11 dX6_firstOfGreatest_10 rfl ?_
    refine z_iload2 12 dX6_firstOfGreatest_11 rfl ?_
    refine z_ialdN 13 (i) dX6_firstOfGreatest_12 (by assumption) (by omega) (by omega) rfl ?_
    refine z_aload0 14 dX6_firstOfGreatest_13 rfl ?_
    refine z_iload1 15 dX6_firstOfGreatest_14 rfl ?_
    refine z_ialdN 16 (c) dX6_firstOfGreatest_15 (by assumption) (by omega) (by omega) rfl ?_
    refine z_icmp_le 21 19 dX6_firstOfGreatest_16 (by decide) rfl (by omega) (by omega) (fun h16 => ?_) (fun h16 => ?_)
    · refine z_iinc2 24 dX6_firstOfGreatest_21 (Nat.le_of_ble_eq_true rfl) rfl rfl ?_
      refine z_goto 4 dX6_firstOfGreatest_24 (by decide) ?_
      first | (rw [show gmx (I a) (m + 1) i c = gmx (I a) m (i + 1) i by rw [gmx, if_pos (by omega)]]; exact lp_X6_firstOfGreatest ha hn hF m (i + 1) i (by omega) (by omega)) | (rw [show gmx (I a) (m + 1) i c = gmx (I a) m (i + 1) c by rw [gmx, if_neg (by omega)]]; exact lp_X6_firstOfGreatest ha hn hF m (i + 1) c (by omega) hc)
    · refine z_iload2 20 dX6_firstOfGreatest_19 rfl ?_
      refine z_istore1 21 dX6_firstOfGreatest_20 (Nat.le_of_ble_eq_true rfl) rfl rfl ?_
      refine z_iinc2 24 dX6_firstOfGreatest_21 (Nat.le_of_ble_eq_true rfl) rfl rfl ?_
      refine z_goto 4 dX6_firstOfGreatest_24 (by decide) ?_
      first | (rw [show gmx (I a) (m + 1) i c = gmx (I a) m (i + 1) i by rw [gmx, if_pos (by omega)]]; exact lp_X6_firstOfGreatest ha hn hF m (i + 1) i (by omega) (by omega)) | (rw [show gmx (I a) (m + 1) i c = gmx (I a) m (i + 1) c by rw [gmx, if_neg (by omega)]]; exact lp_X6_firstOfGreatest ha hn hF m (i + 1) c (by omega) hc)
theorem ct_X6_firstOfGreatest {a n : Nat} (ha : sh[a]? = some (20, n + 1)) (hn : n + 1 ≤ 60000) (hF : ∀ j, j < n + 1 → -100 ≤ I a j ∧ I a j ≤ 100) : zE X mX6_firstOfGreatest 0 0 0 [zR a, zX, zX] [] sh I L R (zEq [zI (gmx (I a) n 1 0 : Int)] sh I L R) := by
  refine z_iconst 1 dX6_firstOfGreatest_0 rfl ?_
  refine z_istore1 2 dX6_firstOfGreatest_1 (Nat.le_of_ble_eq_true rfl) rfl rfl ?_
  refine z_iconst 3 dX6_firstOfGreatest_2 rfl ?_
  refine z_istore2 4 dX6_firstOfGreatest_3 (Nat.le_of_ble_eq_true rfl) rfl rfl ?_
  exact lp_X6_firstOfGreatest ha hn hF n 1 0 (by omega) (by omega)
end FORE
/-! what they answer -/
def oSpeed (A : zA) (r t : Int) : Int := if (0 ≤ r ∧ r ≤ A.1 0 6 - 1) ∧ (0 ≤ t ∧ t ≤ 9) then sfw A.1 r.toNat t.toNat else -1
def oEnds (A : zA) (r : Int) : Int := if 0 ≤ r ∧ r ≤ A.1 0 6 - 1 then sfe A.1 r.toNat else -1
def oFast (A : zA) (r w : Int) : Int := if (0 ≤ r ∧ r ≤ A.1 0 6 - 1) ∧ (0 ≤ w ∧ w ≤ 1) then (if sfw A.1 r.toNat (gmx (sfw A.1 r.toNat) 9 1 0) = -4 then -4 else if w = 0 then (gmx (sfw A.1 r.toNat) 9 1 0 : Int) else sfw A.1 r.toNat (gmx (sfw A.1 r.toNat) 9 1 0)) else -1
def swho (S : zT) (o : Int) : Nat → Nat → Int → Int
  | 0, _, x => x
  | m + 1, i, x => swho S o m (i + 1) (if sfe S i = o then zor x (zshl 1 (i : Int)) else x)
def oWho (A : zA) (o : Int) : Int := if 0 ≤ o ∧ o ≤ 7 then swho A.1 o (A.1 0 6).toNat 0 0 else -1
section TOPB
variable {X : zXs} {sh : zH} {I L : zI2} {R : zR2} {P : Nat → Nat} {A : zA}
theorem zOp_row {x y : Int} (h : zCA sh R P I L A) (W : Nat → Int) (e : x = y) : zOp sh I L R (zI y) A [zI x] sh (zrow I 141 W) L R := by
  subst e
  have hd : ∀ a, a ≠ 141 → zrow I 141 W a = I a := fun a ha => zrow_oR I W ha
  exact ⟨rfl, rfl, ⟨P, zCA_scr h (fun a ha => hd a (by omega)) (fun a _ => rfl) (cTri_of (fun a _ _ => hd a (by omega)) h.2.2.1) (cOrd_of (fun a _ => hd a (by omega)) h.2.2.2.2.2.2.2)⟩, fun a ha => ⟨hd a (by omega), rfl, rfl⟩⟩
theorem zOp_tri {x y : Int} (h : zCA sh R P I L A) (W : Nat → Int) {T : zT} (hT : zSr T) (e : x = y) : zOp sh I L R (zI y) A [zI x] sh (zsl (zrow I 141 W) 8 T) L R := by
  subst e
  have hd : ∀ a, a ≠ 141 → ¬ (8 ≤ a ∧ a < 15) → zsl (zrow I 141 W) 8 T a = I a := fun a ha h8 => by rw [zsl_oR _ _ _ (by omega), zrow_oR I W ha]
  exact ⟨rfl, rfl, ⟨P, zCA_scr h (fun a ha => hd a (by omega) (by omega)) (fun a _ => rfl) (zSr_w (S := T) (fun i hi => (zvw_sl _ _ _ hi).symm) hT) (cOrd_of (fun a _ => hd a (by omega) (by omega)) h.2.2.2.2.2.2.2)⟩, fun a ha => ⟨hd a (by omega) (by omega), rfl, rfl⟩⟩
theorem op_X6_speed {r t : Int} (h : zCA sh R P I L A) (hr : -2147483648 ≤ r ∧ r ≤ 2147483647) (ht : -2147483648 ≤ t ∧ t ≤ 2147483647) : zE X mX6_speed 0 0 0 [zR 0, zI r, zI t] [] sh I L R (zOp sh I L R (zI (oSpeed A r t)) A) := by
  obtain ⟨hC, hNow, hTri, hHis, hKep, hTap, hShe, hOrd⟩ := id h
  obtain ⟨⟨c0, c1, c2, c3, c4, c5, c6, c7, c8, c9, c10, c11⟩, ⟨n1, n8, n73⟩, ⟨hh, hpm⟩, kh, tp, ⟨shs, shk⟩, spd, o1, o2, ra⟩ := id hC
  obtain ⟨⟨s0, s1, s2, s3, s4, s5, s6⟩, r0, r1, r2, r3, r4, r5⟩ := id n1
  have n80 := n8.1.1
  have hh0 := hh.1.1
  have e6 := hNow.2.1.1
  have hn5 := hNow.1.1.1
  have z1 := zwi_r r 0 (zvw I 1 0 6 - 1)
  have z2 := zwi_r t 0 9
  refine z_aload0 1 dX6_speed_0 rfl ?_
  refine z_getR 4 dX6_speed_1 fl_RX6_10 (by assumption) (by assumption) rfl ?_
  refine z_iload1 5 dX6_speed_4 rfl ?_
  refine z_xV1 8 dX6_speed_5 lk_X6_speed_82 (cti_hasRider n1 hNow.1.1 hr) rfl (Nat.le_of_ble_eq_true rfl) (Nat.le_of_ble_eq_true rfl) (by assumption) rfl rfl ?_
  refine z_if_eq 18 11 dX6_speed_8 (by decide) rfl (by omega) (fun h8 => ?_) (fun h8 => ?_)
  · have g8 := zwi_eq0 h8
    refine z_iconst 19 dX6_speed_18 rfl ?_
    exact z_ireturn dX6_speed_19 rfl (zOp_same h (by unfold oSpeed; rw [if_neg (by omega)]))
  · have g8 := zwi_ne0 h8
    refine z_iload2 12 dX6_speed_11 rfl ?_
    refine z_xS1 15 dX6_speed_12 lk_X6_speed_98 (ct_X6_isTurn (by omega)) rfl (Nat.le_of_ble_eq_true rfl) (Nat.le_of_ble_eq_true rfl) rfl ?_
    refine z_if_ne 20 18 dX6_speed_15 (by decide) rfl (by omega) (fun h15 => ?_) (fun h15 => ?_)
    · have g15 := zwi_ne0 h15
      obtain ⟨q, rfl⟩ : ∃ q : Nat, r = (q : Int) := ⟨r.toNat, by omega⟩
      obtain ⟨p, rfl⟩ : ∃ q : Nat, t = (q : Int) := ⟨t.toNat, by omega⟩
      obtain ⟨W, hW, hfo⟩ := cti_fore (X := X) (I := I) (L := L) (r := q) n1 hNow.1.1 (by omega) (Or.inr (by decide : 1 + 7 ≤ 141)) spd
      refine z_aload0 21 dX6_speed_20 rfl ?_
      refine z_getR 24 dX6_speed_21 fl_RX6_10 (by assumption) (by assumption) rfl ?_
      refine z_iload1 25 dX6_speed_24 rfl ?_
      refine z_aload0 26 dX6_speed_25 rfl ?_
      refine z_getR 29 dX6_speed_26 fl_RX6_49 (by assumption) (by assumption) rfl ?_
      refine z_xV2 32 dX6_speed_29 lk_X6_speed_171 (hfo) rfl (Nat.le_of_ble_eq_true rfl) (Nat.le_of_ble_eq_true rfl) (by assumption) rfl rfl ?_
      refine z_pop 33 dX6_speed_32 rfl rfl ?_
      refine z_aload0 34 dX6_speed_33 rfl ?_
      refine z_getR 37 dX6_speed_34 fl_RX6_49 (by assumption) (by assumption) rfl ?_
      refine z_iload2 38 dX6_speed_37 rfl ?_
      refine z_ialdx 39 (p) dX6_speed_38 (by assumption) (by omega) (by omega) (zrow_at _ _ _ _) rfl ?_
      exact z_ireturn dX6_speed_39 rfl (zOp_row h W (by unfold oSpeed; rw [if_pos (by omega), Int.toNat_natCast, Int.toNat_natCast, hW p (by omega), sfw_c hNow.2 (by omega)]))
    · have g15 := zwi_eq0 h15
      refine z_iconst 19 dX6_speed_18 rfl ?_
      exact z_ireturn dX6_speed_19 rfl (zOp_same h (by unfold oSpeed; rw [if_neg (by omega)]))
theorem op_X6_ends {r : Int} (h : zCA sh R P I L A) (hr : -2147483648 ≤ r ∧ r ≤ 2147483647) : zE X mX6_ends 0 0 0 [zR 0, zI r] [] sh I L R (zOp sh I L R (zI (oEnds A r)) A) := by
  obtain ⟨hC, hNow, hTri, hHis, hKep, hTap, hShe, hOrd⟩ := id h
  obtain ⟨⟨c0, c1, c2, c3, c4, c5, c6, c7, c8, c9, c10, c11⟩, ⟨n1, n8, n73⟩, ⟨hh, hpm⟩, kh, tp, ⟨shs, shk⟩, spd, o1, o2, ra⟩ := id hC
  obtain ⟨⟨s0, s1, s2, s3, s4, s5, s6⟩, r0, r1, r2, r3, r4, r5⟩ := id n1
  have n80 := n8.1.1
  have hh0 := hh.1.1
  have e6 := hNow.2.1.1
  have hn5 := hNow.1.1.1
  have z1 := zwi_r r 0 (zvw I 1 0 6 - 1)
  by_cases hc : 0 ≤ r ∧ r ≤ A.1 0 6 - 1
  · obtain ⟨q, rfl⟩ : ∃ q : Nat, r = (q : Int) := ⟨r.toNat, by omega⟩
    obtain ⟨W, hW, hfo⟩ := cti_fore (X := X) (I := I) (L := L) (r := q) n1 hNow.1.1 (by omega) (Or.inr (by decide : 1 + 7 ≤ 141)) spd
    rw [zwi_1 (by omega)] at z1
    have z3 : zwi (q : Int) 0 (zvw I 1 0 6 - 1) = 1 := zwi_1 (by omega)
    refine z_aload0 1 dX6_ends_0 rfl ?_
    refine z_getR 4 dX6_ends_1 fl_RX6_10 (by assumption) (by assumption) rfl ?_
    refine z_iload1 5 dX6_ends_4 rfl ?_
    refine z_xV1 8 dX6_ends_5 lk_X6_ends_82 (cti_hasRider n1 hNow.1.1 hr) rfl (Nat.le_of_ble_eq_true rfl) (Nat.le_of_ble_eq_true rfl) (by assumption) rfl rfl ?_
    refine z_if_eq 26 11 dX6_ends_8 (by decide) rfl (by omega) (fun hz => absurd hz (by omega)) (fun h8 => ?_)
    refine z_aload0 12 dX6_ends_11 rfl ?_
    refine z_getR 15 dX6_ends_12 fl_RX6_10 (by assumption) (by assumption) rfl ?_
    refine z_iload1 16 dX6_ends_15 rfl ?_
    refine z_aload0 17 dX6_ends_16 rfl ?_
    refine z_getR 20 dX6_ends_17 fl_RX6_49 (by assumption) (by assumption) rfl ?_
    refine z_xV2 23 dX6_ends_20 lk_X6_ends_171 (hfo) rfl (Nat.le_of_ble_eq_true rfl) (Nat.le_of_ble_eq_true rfl) (by assumption) rfl rfl ?_
    refine z_goto 27 dX6_ends_23 (by decide) ?_
    exact z_ireturn dX6_ends_27 rfl (zOp_row h W (by unfold oEnds; rw [if_pos (by omega), Int.toNat_natCast, sfe_c hNow.2 (by omega)]))
  · have z3 : zwi r 0 (zvw I 1 0 6 - 1) = 0 := zwi_0 (by omega)
    refine z_aload0 1 dX6_ends_0 rfl ?_
    refine z_getR 4 dX6_ends_1 fl_RX6_10 (by assumption) (by assumption) rfl ?_
    refine z_iload1 5 dX6_ends_4 rfl ?_
    refine z_xV1 8 dX6_ends_5 lk_X6_ends_82 (cti_hasRider n1 hNow.1.1 hr) rfl (Nat.le_of_ble_eq_true rfl) (Nat.le_of_ble_eq_true rfl) (by assumption) rfl rfl ?_
    refine z_if_eq 26 11 dX6_ends_8 (by decide) rfl (by omega) (fun h8 => ?_) (fun hz => absurd hz (by omega))
    refine z_iconst 27 dX6_ends_26 rfl ?_
    exact z_ireturn dX6_ends_27 rfl (zOp_same h (by unfold oEnds; rw [if_neg (by omega)]))
theorem op_X6_fast {r t : Int} (h : zCA sh R P I L A) (hr : -2147483648 ≤ r ∧ r ≤ 2147483647) (ht : -2147483648 ≤ t ∧ t ≤ 2147483647) : zE X mX6_fast 0 0 0 [zR 0, zI r, zI t, zX] [] sh I L R (zOp sh I L R (zI (oFast A r t)) A) := by
  obtain ⟨hC, hNow, hTri, hHis, hKep, hTap, hShe, hOrd⟩ := id h
  obtain ⟨⟨c0, c1, c2, c3, c4, c5, c6, c7, c8, c9, c10, c11⟩, ⟨n1, n8, n73⟩, ⟨hh, hpm⟩, kh, tp, ⟨shs, shk⟩, spd, o1, o2, ra⟩ := id hC
  obtain ⟨⟨s0, s1, s2, s3, s4, s5, s6⟩, r0, r1, r2, r3, r4, r5⟩ := id n1
  have n80 := n8.1.1
  have hh0 := hh.1.1
  have e6 := hNow.2.1.1
  have hn5 := hNow.1.1.1
  have z1 := zwi_r r 0 (zvw I 1 0 6 - 1)
  have z2 := zwi_r t 0 1
  refine z_aload0 1 dX6_fast_0 rfl ?_
  refine z_getR 4 dX6_fast_1 fl_RX6_10 (by assumption) (by assumption) rfl ?_
  refine z_iload1 5 dX6_fast_4 rfl ?_
  refine z_xV1 8 dX6_fast_5 lk_X6_fast_82 (cti_hasRider n1 hNow.1.1 hr) rfl (Nat.le_of_ble_eq_true rfl) (Nat.le_of_ble_eq_true rfl) (by assumption) rfl rfl ?_
  refine z_if_eq 20 11 dX6_fast_8 (by decide) rfl (by omega) (fun h8 => ?_) (fun h8 => ?_)
  · have g8 := zwi_eq0 h8
    refine z_iconst 21 dX6_fast_20 rfl ?_
    exact z_ireturn dX6_fast_21 rfl (zOp_same h (by unfold oFast; rw [if_neg (by omega)]))
  · have g8 := zwi_ne0 h8
    refine z_iload2 12 dX6_fast_11 rfl ?_
    refine z_iconst 13 dX6_fast_12 rfl ?_
    refine z_iconst 14 dX6_fast_13 rfl ?_
    refine z_xS3 17 dX6_fast_14 lk_X6_fast_71 (ct_X6_within (by omega) (by omega) (by omega)) rfl (Nat.le_of_ble_eq_true rfl) (Nat.le_of_ble_eq_true rfl) rfl ?_
    refine z_if_ne 22 20 dX6_fast_17 (by decide) rfl (by omega) (fun h17 => ?_) (fun h17 => ?_)
    · have g15 := zwi_ne0 h17
      obtain ⟨q, rfl⟩ : ∃ q : Nat, r = (q : Int) := ⟨r.toNat, by omega⟩
      obtain ⟨W, hW, hfo⟩ := cti_fore (X := X) (I := I) (L := L) (r := q) n1 hNow.1.1 (by omega) (Or.inr (by decide : 1 + 7 ≤ 141)) spd
      have hW2 : ∀ j, j < 10 → zrow I 141 W 141 j = sfw A.1 q j := fun j hj => by rw [zrow_at, hW j hj, sfw_c hNow.2 (by omega)]
      have hg := ct_X6_firstOfGreatest (X := X) (I := zrow I 141 W) (L := L) (R := R) (n := 9) spd (by omega) (fun j hj => by rw [hW2 j hj]; have := sfw_r A.1 q j hj; omega)
      rw [gmx_c 10 hW2 9 1 0 (by omega) (by omega)] at hg
      have hl := gmx_lt (sfw A.1 q) 10 9 1 0 (by omega) (by omega)
      have eo : oFast A q t = (if sfw A.1 q (gmx (sfw A.1 q) 9 1 0) = -4 then -4 else if t = 0 then (gmx (sfw A.1 q) 9 1 0 : Int) else sfw A.1 q (gmx (sfw A.1 q) 9 1 0)) := by unfold oFast; rw [if_pos (by omega), Int.toNat_natCast]
      rw [eo]
      generalize gmx (sfw A.1 q) 9 1 0 = g at hg hl
      have hr2 := sfw_r A.1 q g hl
      refine z_aload0 23 dX6_fast_22 rfl ?_
      refine z_getR 26 dX6_fast_23 fl_RX6_10 (by assumption) (by assumption) rfl ?_
      refine z_iload1 27 dX6_fast_26 rfl ?_
      refine z_aload0 28 dX6_fast_27 rfl ?_
      refine z_getR 31 dX6_fast_28 fl_RX6_49 (by assumption) (by assumption) rfl ?_
      refine z_xV2 34 dX6_fast_31 lk_X6_fast_171 (hfo) rfl (Nat.le_of_ble_eq_true rfl) (Nat.le_of_ble_eq_true rfl) (by assumption) rfl rfl ?_
      refine z_pop 35 dX6_fast_34 rfl rfl ?_
      refine z_aload0 36 dX6_fast_35 rfl ?_
      refine z_getR 39 dX6_fast_36 fl_RX6_49 (by assumption) (by assumption) rfl ?_
      refine z_xS1 42 dX6_fast_39 lk_X6_fast_174 (hg) rfl (Nat.le_of_ble_eq_true rfl) (Nat.le_of_ble_eq_true rfl) rfl ?_
      refine z_istore3 43 dX6_fast_42 (Nat.le_of_ble_eq_true rfl) rfl rfl ?_
      refine z_aload0 44 dX6_fast_43 rfl ?_
      refine z_getR 47 dX6_fast_44 fl_RX6_49 (by assumption) (by assumption) rfl ?_
      refine z_iload3 48 dX6_fast_47 rfl ?_
      refine z_ialdx 49 (g) dX6_fast_48 (by assumption) (by omega) (by omega) (hW2 g hl) rfl ?_
      refine z_bipush 51 dX6_fast_49 (by decide) rfl ?_
      refine z_icmp_ne 57 54 dX6_fast_51 (by decide) rfl (by omega) (by omega) (fun h51 => ?_) (fun h51 => ?_)
      · refine z_iload2 58 dX6_fast_57 rfl ?_
        refine z_if_ne 65 61 dX6_fast_58 (by decide) rfl (by omega) (fun h58 => ?_) (fun h58 => ?_)
        · refine z_aload0 66 dX6_fast_65 rfl ?_
          refine z_getR 69 dX6_fast_66 fl_RX6_49 (by assumption) (by assumption) rfl ?_
          refine z_iload3 70 dX6_fast_69 rfl ?_
          refine z_ialdx 71 (g) dX6_fast_70 (by assumption) (by omega) (by omega) (hW2 g hl) rfl ?_
          exact z_ireturn dX6_fast_71 rfl (zOp_row h W (by rw [if_neg (by omega)]; first | rw [if_pos (by omega)] | rw [if_neg (by omega)]))
        · refine z_iload3 62 dX6_fast_61 rfl ?_
          refine z_goto 71 dX6_fast_62 (by decide) ?_
          exact z_ireturn dX6_fast_71 rfl (zOp_row h W (by rw [if_neg (by omega)]; first | rw [if_pos (by omega)] | rw [if_neg (by omega)]))
      · refine z_bipush 56 dX6_fast_54 (by decide) rfl ?_
        exact z_ireturn dX6_fast_56 rfl (zOp_row h W (by rw [if_pos (by omega)]))
    · have g15 := zwi_eq0 h17
      refine z_iconst 21 dX6_fast_20 rfl ?_
      exact z_ireturn dX6_fast_21 rfl (zOp_same h (by unfold oFast; rw [if_neg (by omega)]))
theorem lp_X6_who {o : Int} (h : zCA sh R P I L A) (hd : 0 ≤ o ∧ o ≤ 7) : ∀ (m i : Nat) (x : Int) (W : Nat → Int), i + m = (A.1 0 6).toNat → zE X mX6_who 0 0 13 [zR 0, zI o, zI x, zI (i : Int)] [] sh (zrow I 141 W) L R (zOp sh I L R (zI (swho A.1 o m i x)) A)
  | 0, i, x, W, hi => by
    obtain ⟨hC, hNow, hTri, hHis, hKep, hTap, hShe, hOrd⟩ := id h
    obtain ⟨⟨c0, c1, c2, c3, c4, c5, c6, c7, c8, c9, c10, c11⟩, ⟨n1, n8, n73⟩, ⟨hh, hpm⟩, kh, tp, ⟨shs, shk⟩, spd, o1, o2, ra⟩ := id hC
    obtain ⟨⟨s0, s1, s2, s3, s4, s5, s6⟩, r0, r1, r2, r3, r4, r5⟩ := id n1
    have n80 := n8.1.1
    have hh0 := hh.1.1
    have e6 := hNow.2.1.1
    have hn5 := hNow.1.1.1
    have e16 : zrow I 141 W 1 6 = A.1 0 6 := by rw [zrow_o I W (by decide), ← e6, zvw_0]
    refine z_iload3 14 dX6_who_13 rfl ?_
    refine z_aload0 15 dX6_who_14 rfl ?_
    refine z_getR 18 dX6_who_15 fl_RX6_10 (by assumption) (by assumption) rfl ?_
    refine z_getIx 21 dX6_who_18 fl_RX6_134 (by assumption) (e16) rfl ?_
    refine z_icmp_ge 52 24 dX6_who_21 (by decide) rfl (by omega) (by omega) (fun h21 => ?_) (fun hz => absurd hz (by omega))
    refine z_iload2 53 dX6_who_52 rfl ?_
    exact z_ireturn dX6_who_53 rfl (zOp_row h W rfl)
  | m + 1, i, x, W, hi => by
    obtain ⟨hC, hNow, hTri, hHis, hKep, hTap, hShe, hOrd⟩ := id h
    obtain ⟨⟨c0, c1, c2, c3, c4, c5, c6, c7, c8, c9, c10, c11⟩, ⟨n1, n8, n73⟩, ⟨hh, hpm⟩, kh, tp, ⟨shs, shk⟩, spd, o1, o2, ra⟩ := id hC
    obtain ⟨⟨s0, s1, s2, s3, s4, s5, s6⟩, r0, r1, r2, r3, r4, r5⟩ := id n1
    have n80 := n8.1.1
    have hh0 := hh.1.1
    have e6 := hNow.2.1.1
    have hn5 := hNow.1.1.1
    have e16 : zrow I 141 W 1 6 = A.1 0 6 := by rw [zrow_o I W (by decide), ← e6, zvw_0]
    obtain ⟨W2, hW, hfo⟩ := cti_foreW (X := X) (I := I) (L := L) (r := i) W n1 hNow.1.1 (by omega) (Or.inr (by decide : 1 + 7 ≤ 141)) spd
    have hsf := sfe_r (zvw I 1) i hNow.1.1 (by omega)
    rw [sfe_c hNow.2 (by omega)] at hfo hsf
    refine z_iload3 14 dX6_who_13 rfl ?_
    refine z_aload0 15 dX6_who_14 rfl ?_
    refine z_getR 18 dX6_who_15 fl_RX6_10 (by assumption) (by assumption) rfl ?_
    refine z_getIx 21 dX6_who_18 fl_RX6_134 (by assumption) (e16) rfl ?_
    refine z_icmp_ge 52 24 dX6_who_21 (by decide) rfl (by omega) (by omega) (fun hz => absurd hz (by omega)) (fun h21 => ?_)
    refine z_aload0 25 dX6_who_24 rfl ?_
    refine z_getR 28 dX6_who_25 fl_RX6_10 (by assumption) (by assumption) rfl ?_
    refine z_iload3 29 dX6_who_28 rfl ?_
    refine z_aload0 30 dX6_who_29 rfl ?_
    refine z_getR 33 dX6_who_30 fl_RX6_49 (by assumption) (by assumption) rfl ?_
    refine z_xV2 36 dX6_who_33 lk_X6_who_171 (hfo) rfl (Nat.le_of_ble_eq_true rfl) (Nat.le_of_ble_eq_true rfl) (by assumption) rfl rfl ?_
    refine z_iload1 37 dX6_who_36 rfl ?_
    refine z_icmp_ne 46 40 dX6_who_37 (by decide) rfl (by omega) (by omega) (fun h37 => ?_) (fun h37 => ?_)
    · refine z_iinc3 49 dX6_who_46 (Nat.le_of_ble_eq_true rfl) rfl rfl ?_
      refine z_goto 13 dX6_who_49 (by decide) ?_
      first | (rw [show swho A.1 o (m + 1) i x = swho A.1 o m (i + 1) x by rw [swho, if_neg (by omega)]]; exact lp_X6_who h hd m (i + 1) _ W2 (by omega)) | (rw [show swho A.1 o (m + 1) i x = swho A.1 o m (i + 1) (zor x (zshl 1 (i : Int))) by rw [swho, if_pos (by omega)]]; exact lp_X6_who h hd m (i + 1) _ W2 (by omega))
    · refine z_iload2 41 dX6_who_40 rfl ?_
      refine z_iconst 42 dX6_who_41 rfl ?_
      refine z_iload3 43 dX6_who_42 rfl ?_
      refine z_ishl 44 dX6_who_43 rfl ?_
      refine z_ior 45 dX6_who_44 rfl ?_
      refine z_istore2 46 dX6_who_45 (Nat.le_of_ble_eq_true rfl) rfl rfl ?_
      refine z_iinc3 49 dX6_who_46 (Nat.le_of_ble_eq_true rfl) rfl rfl ?_
      refine z_goto 13 dX6_who_49 (by decide) ?_
      first | (rw [show swho A.1 o (m + 1) i x = swho A.1 o m (i + 1) x by rw [swho, if_neg (by omega)]]; exact lp_X6_who h hd m (i + 1) _ W2 (by omega)) | (rw [show swho A.1 o (m + 1) i x = swho A.1 o m (i + 1) (zor x (zshl 1 (i : Int))) by rw [swho, if_pos (by omega)]]; exact lp_X6_who h hd m (i + 1) _ W2 (by omega))
theorem op_X6_who {o : Int} (h : zCA sh R P I L A) (hd : -2147483648 ≤ o ∧ o ≤ 2147483647) : zE X mX6_who 0 0 0 [zR 0, zI o, zX, zX] [] sh I L R (zOp sh I L R (zI (oWho A o)) A) := by
  have z1 := zwi_r o 0 7
  have hl := fun hd => lp_X6_who (X := X) (o := o) h hd (A.1 0 6).toNat 0 0 (I 141) (by omega)
  rw [zrow_self] at hl
  refine z_iload1 1 dX6_who_0 rfl ?_
  refine z_xS1 4 dX6_who_1 lk_X6_who_177 (ct_X6_isOutcome (by omega)) rfl (Nat.le_of_ble_eq_true rfl) (Nat.le_of_ble_eq_true rfl) rfl ?_
  refine z_if_ne 9 7 dX6_who_4 (by decide) rfl (by omega) (fun h4 => ?_) (fun h4 => ?_)
  · have g8 := zwi_ne0 h4
    refine z_iconst 10 dX6_who_9 rfl ?_
    refine z_istore2 11 dX6_who_10 (Nat.le_of_ble_eq_true rfl) rfl rfl ?_
    refine z_iconst 12 dX6_who_11 rfl ?_
    refine z_istore3 13 dX6_who_12 (Nat.le_of_ble_eq_true rfl) rfl rfl ?_
    rw [show oWho A o = swho A.1 o (A.1 0 6).toNat 0 0 by unfold oWho; rw [if_pos (by omega)]]
    exact hl (by omega)
  · have g8 := zwi_eq0 h4
    refine z_iconst 8 dX6_who_7 rfl ?_
    exact z_ireturn dX6_who_8 rfl (zOp_same h (by unfold oWho; rw [if_neg (by omega)]))
end TOPB
