/-! ===== pictures that agree as far as anybody looks: all turns, the riders that there are ===== -/
def zQe (S S' : zT) : Prop := (S 0 6 = S' 0 6 ∧ S 0 7 = S' 0 7 ∧ S 0 8 = S' 0 8) ∧ (∀ t, t < 10 → S 1 t = S' 1 t ∧ S 2 t = S' 2 t) ∧ ∀ r : Nat, (r : Int) < S 0 6 → S 3 r = S' 3 r ∧ S 4 r = S' 4 r ∧ S 5 r = S' 5 r ∧ S 6 r = S' 6 r
theorem zQe.rf (S : zT) : zQe S S := ⟨⟨rfl, rfl, rfl⟩, fun _ _ => ⟨rfl, rfl⟩, fun _ _ => ⟨rfl, rfl, rfl, rfl⟩⟩
theorem zQe.sy {S S' : zT} (h : zQe S S') : zQe S' S := ⟨⟨h.1.1.symm, h.1.2.1.symm, h.1.2.2.symm⟩, fun t ht => ⟨(h.2.1 t ht).1.symm, (h.2.1 t ht).2.symm⟩, fun r hr => by
  have := h.2.2 r (by rw [h.1.1]; exact hr)
  exact ⟨this.1.symm, this.2.1.symm, this.2.2.1.symm, this.2.2.2.symm⟩⟩
theorem zQe.tr {S S' S'' : zT} (h : zQe S S') (h' : zQe S' S'') : zQe S S'' := ⟨⟨h.1.1.trans h'.1.1, h.1.2.1.trans h'.1.2.1, h.1.2.2.trans h'.1.2.2⟩, fun t ht => ⟨(h.2.1 t ht).1.trans (h'.2.1 t ht).1, (h.2.1 t ht).2.trans (h'.2.1 t ht).2⟩, fun r hr => by
  have h1 := h.2.2 r hr
  have h2 := h'.2.2 r (by rw [← h.1.1]; exact hr)
  exact ⟨h1.1.trans h2.1, h1.2.1.trans h2.2.1, h1.2.2.1.trans h2.2.2.1, h1.2.2.2.trans h2.2.2.2⟩⟩
theorem zfs_c {P P' : Nat → Int} (v : Int) : ∀ (m r : Nat), (∀ q, r ≤ q → q < r + m → P q = P' q) → zfs P v m r = zfs P' v m r
  | 0, r, _ => rfl
  | m + 1, r, h => by
    unfold zfs
    rw [h r (by omega) (by omega), zfs_c v m (r + 1) (fun q h1 h2 => h q (by omega) (by omega))]
theorem zst_c {P P' : Nat → Prop} [DecidablePred P] [DecidablePred P'] : ∀ (m r : Nat) (x : Int), (∀ q, r ≤ q → q < r + m → (P q ↔ P' q)) → zst P m r x = zst P' m r x
  | 0, r, x, _ => rfl
  | m + 1, r, x, h => by
    unfold zst
    have h1 := h r (by omega) (by omega)
    rw [show (if P r then zor x (zshl 1 r) else x) = (if P' r then zor x (zshl 1 r) else x) by
      by_cases hp : P r
      · rw [if_pos hp, if_pos (h1.mp hp)]
      · rw [if_neg hp, if_neg (fun q => hp (h1.mpr q))]]
    exact zst_c m (r + 1) _ (fun q h1 h2 => h q (by omega) (by omega))
theorem sst_c {S S' : zT} (h : zQe S S') (t : Nat) : sst S t = sst S' t := by
  unfold sst
  rw [← h.1.1]
  exact zfs_c _ _ _ (fun q _ h2 => (h.2.2 q (by omega)).2.2.2)
theorem stop_c {S S' : zT} (h : zQe S S') : stop_ S = stop_ S' := by
  unfold stop_
  rw [← h.1.1]
  exact zst_c _ _ _ (fun q _ h2 => by rw [(h.2.2 q (by omega)).2.2.2])
theorem sthr_c {S S' : zT} (h : zQe S S') : sthr S = sthr S' := by
  unfold sthr
  rw [← h.1.1]
  exact zst_c _ _ _ (fun q _ h2 => by rw [(h.2.2 q (by omega)).2.2.2])
theorem stak_c {S S' : zT} (h : zQe S S') : stak S = stak S' := by
  unfold stak
  exact zst_c _ _ _ (fun q _ h2 => by rw [sst_c h q])
theorem sgo_c {S S' : zT} (h : zQe S S') {r : Nat} (hr : (r : Int) < S 0 6) : sgo S r = sgo S' r := by
  unfold sgo
  rw [(h.2.2 r hr).2.1]
theorem sgn_c {S S' : zT} (h : zQe S S') {r t : Nat} (hr : (r : Int) < S 0 6) (ht : t < 10) (v : Int) : sgn S r t v = sgn S' r t v := by
  unfold sgn
  rw [(h.2.2 r hr).1, sgo_c h hr, (h.2.1 t ht).2]
theorem sbh_c {S S' : zT} (h : zQe S S') {r t : Nat} (hr : (r : Int) < S 0 6) (ht : t < 10) (v g : Int) : sbh S t r v g = sbh S' t r v g := by
  unfold sbh
  rw [sst_c h t, sgn_c h hr ht v, (h.2.1 t ht).2]
theorem sft_c {S S' : zT} (h : zQe S S') {r : Nat} (hr : (r : Int) < S 0 6) : ∀ (m t : Nat) (v : Int) (w : Nat → Int), t + m ≤ 10 → sft S r m t v w = sft S' r m t v w
  | 0, t, v, w, _ => by unfold sft; rw [(h.2.2 r hr).2.2.1]
  | m + 1, t, v, w, ht => by
    unfold sft
    rw [sbh_c h hr (by omega), (h.2.1 t (by omega)).1, sft_c h hr m (t + 1) _ _ (by omega)]
theorem sfe_c {S S' : zT} (h : zQe S S') {r : Nat} (hr : (r : Int) < S 0 6) : sfe S r = sfe S' r := by unfold sfe; rw [sft_c h hr 10 0 2 _ (by omega)]
theorem sfw_c {S S' : zT} (h : zQe S S') {r : Nat} (hr : (r : Int) < S 0 6) : sfw S r = sfw S' r := by unfold sfw; rw [sft_c h hr 10 0 2 _ (by omega)]
theorem zQe_up {S S' : zT} (h : zQe S S') {i j : Nat} (hi : ¬ (i = 0 ∧ j = 6)) (v : Int) : zQe (zup S i j v) (zup S' i j v) := by
  have key : ∀ a c, S a c = S' a c → zup S i j v a c = zup S' i j v a c := by
    intro a c e
    unfold zup
    split
    · rfl
    · exact e
  refine ⟨⟨key _ _ h.1.1, key _ _ h.1.2.1, key _ _ h.1.2.2⟩, fun t ht => ⟨key _ _ (h.2.1 t ht).1, key _ _ (h.2.1 t ht).2⟩, fun r hr => ?_⟩
  have hr2 : (r : Int) < S 0 6 := by rw [← zup_ne S (k := i) (j := j) v (by omega)]; exact hr
  have h1 := h.2.2 r hr2
  exact ⟨key _ _ h1.1, key _ _ h1.2.1, key _ _ h1.2.2.1, key _ _ h1.2.2.2⟩
theorem lft_c {S S' : zT} (h : zQe S S') (t : Nat) : zQe (lft S t) (lft S' t) := by
  unfold lft
  rw [← sst_c h t]
  split
  · exact h
  · exact zQe_up h (by omega) _
theorem lft_0 (S : zT) (t : Nat) : lft S t 0 = S 0 := by
  unfold lft
  split
  · rfl
  · exact zup_row S _ (by decide)
theorem sdn_c (w : Nat → Int) : ∀ (m t : Nat) (S S' : zT), t + m ≤ 10 → zQe S S' → zQe (sdn w m t S) (sdn w m t S')
  | 0, t, S, S', _, h => h
  | m + 1, t, S, S', ht, h => by
    unfold sdn
    have h1 := lft_c h t
    split
    · exact h1
    · rw [(h1.2.1 t (by omega)).1]
      exact sdn_c w m (t + 1) _ _ (by omega) (zQe_up h1 (by omega) _)
theorem send_c {S S' : zT} (h : zQe S S') {r : Nat} (hr : (r : Int) < S 0 6) : zQe (send S r) (send S' r) := by
  unfold send
  rw [sfe_c h hr, sfw_c h hr]
  have h1 := sdn_c (sfw S' r) 10 0 S S' (by omega) h
  have h2 := zQe_up h1 (i := 6) (j := r) (by omega) (sfe S' r)
  rw [h2.1.2.1]
  exact zQe_up h2 (by omega) _
theorem sdoA_c {S S' : zT} (h : zQe S S') : zQe (sdoA S) (sdoA S') := by
  unfold sdoA
  rw [h.1.2.2]
  exact zQe_up h (by omega) _
theorem sdoB_c {S S' : zT} (h : zQe S S') (hr : zSr S) (hd : 0 ≤ S 0 8 ∧ S 0 8 ≤ 2147483647) : zQe (sdoB S) (sdoB S') := by
  unfold sdoB
  rw [← h.1.1, ← h.1.2.2]
  split
  · rename_i h0
    obtain ⟨q, hq, hq5⟩ := sdq S hr hd h0
    have hx2 := Int.emod_lt_of_pos (S 0 8 / 65536) h0
    rw [hq] at hx2
    rw [hq, Int.toNat_natCast, ← (h.2.2 q hx2).2.2.2]
    split
    · exact send_c h hx2
    · exact zQe_up h (by omega) _
  · exact h
theorem sdoC_c {S S' : zT} (h : zQe S S') (hd : 0 ≤ S 0 8) : zQe (sdoC S) (sdoC S') := by
  unfold sdoC
  rw [← h.1.2.2, (h.2.1 (S 0 8 / 128 % 10).toNat (by omega)).1]
  exact zQe_up h (by omega) _
theorem sdo_c {S S' : zT} (h : zQe S S') (hr : zSr S) : zQe (sdo S) (sdo S') := by
  have h8 := sdoA_8 S
  exact sdoC_c (sdoB_c (sdoA_c h) (sdoA_sr hr) h8) (by rw [sdoB_8]; exact h8.1)
theorem sdn_06 (w : Nat → Int) (m t : Nat) (S : zT) : sdn w m t S 0 6 = S 0 6 := by rw [sdn_0]
theorem sdo_06 (S : zT) : sdo S 0 6 = S 0 6 := by
  have hA : sdoA S 0 6 = S 0 6 := zup_ne _ _ (by omega)
  unfold sdo sdoC
  rw [zup_row _ _ (by decide)]
  unfold sdoB
  split
  · split
    · rw [send_06 _ _ 6 (by decide), hA]
    · rw [zup_row _ _ (by decide), hA]
  · exact hA
/-! copies -/
theorem cpr_at (P S : zT) {i n j : Nat} (h : j < n) : cpr P S i n i j = P i j := by
  unfold cpr zrow zcp
  rw [if_pos rfl, if_pos (by omega)]
  congr 1
  omega
theorem cpr_o (P S : zT) {i n a : Nat} (h : a ≠ i) : cpr P S i n a = S a := by
  funext j
  unfold cpr zrow
  rw [if_neg h]
theorem sgb_1 (P S : zT) {t : Nat} (ht : t < 10) : sgb P S 1 t = P 1 t := by
  unfold sgb
  rw [zup_row _ _ (by decide), zup_row _ _ (by decide), cpr_o _ _ (by decide), cpr_o _ _ (by decide), cpr_at _ _ ht]
theorem sgb_2 (P S : zT) {t : Nat} (ht : t < 10) : sgb P S 2 t = P 2 t := by
  unfold sgb
  rw [zup_row _ _ (by decide), zup_row _ _ (by decide), cpr_o _ _ (by decide), cpr_at _ _ ht]
theorem sgb_6 (P S : zT) {r : Nat} (hr : r < 5) : sgb P S 6 r = P 6 r := by
  unfold sgb
  rw [zup_row _ _ (by decide), zup_row _ _ (by decide), cpr_at _ _ hr]
theorem sgb_k (P S : zT) {i : Nat} (hi : i = 3 ∨ i = 4 ∨ i = 5) : sgb P S i = S i := by
  unfold sgb
  rw [zup_row _ _ (by omega), zup_row _ _ (by omega), cpr_o _ _ (by omega), cpr_o _ _ (by omega), cpr_o _ _ (by omega)]
theorem sgb_06 (P S : zT) : sgb P S 0 6 = S 0 6 := by
  unfold sgb
  rw [zup_ne _ _ (by omega), zup_ne _ _ (by omega), cpr_o _ _ (by decide), cpr_o _ _ (by decide), cpr_o _ _ (by decide)]
theorem sgb_07 (P S : zT) : sgb P S 0 7 = P 0 7 := by
  unfold sgb
  rw [zup_ne _ _ (by omega), zup_at]
theorem sgb_08 (P S : zT) : sgb P S 0 8 = P 0 8 := by
  unfold sgb
  rw [zup_at]
theorem sbc_r (P S : zT) {i : Nat} (hi : i = 3 ∨ i = 4 ∨ i = 5) {r : Nat} (hr : r < 5) : sbc P S i r = P i r := by
  unfold sbc
  rw [zup_row _ _ (by omega)]
  rcases hi with h | h | h <;> subst h
  · rw [cpr_o _ _ (by decide), cpr_o _ _ (by decide), cpr_at _ _ hr]
  · rw [cpr_o _ _ (by decide), cpr_at _ _ hr]
  · rw [cpr_at _ _ hr]
theorem sbc_b (P S : zT) {i : Nat} (hi : i = 1 ∨ i = 2 ∨ i = 6) : sbc P S i = sgb P S i := by
  unfold sbc
  rw [zup_row _ _ (by omega), cpr_o _ _ (by omega), cpr_o _ _ (by omega), cpr_o _ _ (by omega)]
theorem sbc_06 (P S : zT) : sbc P S 0 6 = P 0 6 := by unfold sbc; rw [zup_at]
theorem sbc_0 (P S : zT) {j : Nat} (hj : j ≠ 6) : sbc P S 0 j = sgb P S 0 j := by
  unfold sbc
  rw [zup_ne _ _ (by omega), cpr_o _ _ (by decide), cpr_o _ _ (by decide), cpr_o _ _ (by decide)]
theorem sbc_all (P S : zT) : (sbc P S 0 6 = P 0 6 ∧ sbc P S 0 7 = P 0 7 ∧ sbc P S 0 8 = P 0 8) ∧ (∀ t, t < 10 → sbc P S 1 t = P 1 t ∧ sbc P S 2 t = P 2 t) ∧ ∀ r, r < 5 → sbc P S 3 r = P 3 r ∧ sbc P S 4 r = P 4 r ∧ sbc P S 5 r = P 5 r ∧ sbc P S 6 r = P 6 r :=
  ⟨⟨sbc_06 P S, by rw [sbc_0 _ _ (by decide), sgb_07], by rw [sbc_0 _ _ (by decide), sgb_08]⟩, fun t ht => ⟨by rw [sbc_b _ _ (by decide), sgb_1 _ _ ht], by rw [sbc_b _ _ (by decide), sgb_2 _ _ ht]⟩, fun r hr => ⟨sbc_r _ _ (by decide) hr, sbc_r _ _ (by decide) hr, sbc_r _ _ (by decide) hr, by rw [sbc_b _ _ (by decide), sgb_6 _ _ hr]⟩⟩
theorem sbc_q (P S : zT) (h : P 0 6 ≤ 5) : zQe (sbc P S) P := by
  obtain ⟨h1, h2, h3⟩ := sbc_all P S
  exact ⟨h1, h2, fun r hr => h3 r (by omega)⟩
theorem sbc_sr (P S : zT) (h : zSr P) : zSr (sbc P S) := by
  obtain ⟨h1, h2, h3⟩ := sbc_all P S
  obtain ⟨p1, p2, p3, p4, p5, p6, p7⟩ := h
  exact ⟨by rw [h1.1]; exact p1, fun t ht => by rw [(h2 t ht).1]; exact p2 t ht, fun t ht => by rw [(h2 t ht).2]; exact p3 t ht, fun r hr => by rw [(h3 r hr).1]; exact p4 r hr, fun r hr => by rw [(h3 r hr).2.1]; exact p5 r hr, fun r hr => by rw [(h3 r hr).2.2.1]; exact p6 r hr, fun r hr => by rw [(h3 r hr).2.2.2]; exact p7 r hr⟩
theorem sgb_sr (P S : zT) (hP : zSr P) (hS : zSr S) : zSr (sgb P S) := by
  obtain ⟨p1, p2, p3, p4, p5, p6, p7⟩ := hP
  obtain ⟨q1, q2, q3, q4, q5, q6, q7⟩ := hS
  exact ⟨by rw [sgb_06]; exact q1, fun t ht => by rw [sgb_1 _ _ ht]; exact p2 t ht, fun t ht => by rw [sgb_2 _ _ ht]; exact p3 t ht, fun r hr => by rw [sgb_k _ _ (by decide)]; exact q4 r hr, fun r hr => by rw [sgb_k _ _ (by decide)]; exact q5 r hr, fun r hr => by rw [sgb_k _ _ (by decide)]; exact q6 r hr, fun r hr => by rw [sgb_6 _ _ hr]; exact p7 r hr⟩
/-- a picture's ranges, with its rides and its draw -/
def zSg (S : zT) : Prop := zSr S ∧ (0 ≤ S 0 7 ∧ S 0 7 ≤ 9999) ∧ (0 ≤ S 0 8 ∧ S 0 8 ≤ 2147483647)
theorem sbc_sg (P S : zT) (h : zSg P) : zSg (sbc P S) := by
  obtain ⟨h1, h2, h3⟩ := sbc_all P S
  exact ⟨sbc_sr P S h.1, by rw [h1.2.1]; exact h.2.1, by rw [h1.2.2]; exact h.2.2⟩
theorem zSr_w {S S' : zT} (h : ∀ i, i < 7 → S i = S' i) (hs : zSr S) : zSr S' := by
  unfold zSr at hs ⊢
  rw [← h 0 (by decide), ← h 1 (by decide), ← h 2 (by decide), ← h 3 (by decide), ← h 4 (by decide), ← h 5 (by decide), ← h 6 (by decide)]
  exact hs
theorem zSg_w {S S' : zT} (h : ∀ i, i < 7 → S i = S' i) (hs : zSg S) : zSg S' := by
  refine ⟨zSr_w h hs.1, ?_⟩
  rw [← h 0 (by decide)]
  exact hs.2
theorem zQe_w {S S' T : zT} (h : ∀ i, i < 7 → S i = S' i) (hs : zQe S T) : zQe S' T := by
  unfold zQe at hs ⊢
  rw [← h 0 (by decide), ← h 1 (by decide), ← h 2 (by decide), ← h 3 (by decide), ← h 4 (by decide), ← h 5 (by decide), ← h 6 (by decide)]
  exact hs
