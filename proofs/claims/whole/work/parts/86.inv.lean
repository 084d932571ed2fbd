/-! ===== what holds of the abstract state from call to call ===== -/
def zRp (S : zT) : Prop := ∃ S', zSr S' ∧ zQe S' S
def zWh (S : zT) (h : List zT) : Prop := zuq S ∧ ∀ s ∈ h, zuq s ∧ zSm S s
def zW (A : zA) : Prop := zWh A.1 A.2.1 ∧ ∀ q, A.2.2.1 = some q → zWh q.1 q.2
theorem zRp_6 {S : zT} (h : zRp S) : 0 ≤ S 0 6 ∧ S 0 6 ≤ 5 := by
  obtain ⟨S', h1, h2⟩ := h
  rw [← h2.1.1]
  exact h1.1
theorem zSm_o {S S' s : zT} (h : zSm S s) (h0 : S' 0 6 = S 0 6) (h3 : ∀ r : Nat, (r : Int) < S 0 6 → S' 3 r = S 3 r ∧ S' 4 r = S 4 r) : zSm S' s := ⟨by rw [h0]; exact h.1, fun r hr => by
  rw [h0] at hr
  have := h.2 r hr
  have h4 := h3 r hr
  exact ⟨this.1.trans h4.1.symm, this.2.trans h4.2.symm⟩⟩
theorem zSm_rf (S : zT) : zSm S S := ⟨rfl, fun _ _ => ⟨rfl, rfl⟩⟩
theorem zWh_o {S S' : zT} {h : List zT} (w : zWh S h) (hu : zuq S') (h0 : S' 0 6 = S 0 6) (h3 : ∀ r : Nat, (r : Int) < S 0 6 → S' 3 r = S 3 r ∧ S' 4 r = S 4 r) : zWh S' h := ⟨hu, fun s hs => ⟨(w.2 s hs).1, zSm_o (w.2 s hs).2 h0 h3⟩⟩
theorem zWh_push {A : zA} (w : zWh A.1 A.2.1) : zWh A.1 (oPush A).2.1 := by
  refine ⟨w.1, fun s hs => ?_⟩
  unfold oPush at hs
  rw [List.mem_append] at hs
  rcases hs with h | h
  · refine w.2 s ?_
    split at h
    · exact List.mem_of_mem_drop h
    · exact h
  · rw [List.mem_singleton] at h
    subst h
    exact ⟨w.1, zSm_rf _⟩
theorem zuq_up1 {S : zT} (h : zuq S) {i : Nat} (h6 : i ≠ 6) {j : Nat} (h0 : ¬ (i = 0 ∧ j = 6)) (v : Int) : zuq (zup S i j v) := by
  intro p q hp hq h1 h2 h3
  rw [zup_ne _ _ (by omega)] at hp hq
  rw [zup_row _ _ (Ne.symm h6)] at h1 h2 h3
  exact h p q hp hq h1 h2 h3
theorem zWh_up {S : zT} {h : List zT} (w : zWh S h) {i t : Nat} {v : Int} (hu : zuq (zup S i t v)) (h0 : ¬ (i = 0 ∧ t = 6)) (h3 : i ≠ 3) (h4 : i ≠ 4) : zWh (zup S i t v) h :=
  zWh_o (S' := zup S i t v) w hu (zup_ne S v (by omega)) (fun q _ => ⟨zup_ne S v (by omega), zup_ne S v (by omega)⟩)
theorem sdn_o {w : Nat → Int} {a : Nat} (h1 : a ≠ 1) (h6 : a ≠ 6) : ∀ (m t : Nat) (S : zT), sdn w m t S a = S a
  | 0, _, _ => rfl
  | m + 1, t, S => by
    unfold sdn
    split
    · exact lft_o S t h6
    · rw [sdn_o h1 h6 m, zup_row _ _ h1, lft_o S t h6]
theorem send_k (S : zT) (r : Nat) {a : Nat} (h : a = 3 ∨ a = 4) : send S r a = S a := by
  unfold send
  rw [zup_row _ _ (by omega), zup_row _ _ (by omega), sdn_o (by omega) (by omega)]
theorem send_06' (S : zT) (r : Nat) : send S r 0 6 = S 0 6 := send_06 S r 6 (by decide)
theorem sdo_k (S : zT) {a : Nat} (h : a = 3 ∨ a = 4) : sdo S a = S a := by
  have hA : sdoA S a = S a := zup_row _ _ (by omega)
  unfold sdo sdoC
  rw [zup_row _ _ (by omega)]
  unfold sdoB
  split
  · split
    · rw [send_k _ _ h, hA]
    · rw [zup_row _ _ (by omega), hA]
  · exact hA
theorem zWsend {S : zT} {r : Nat} (hr : zRp S) (hu : zuq S) (h6 : (r : Int) < S 0 6) (h30 : S 6 r = 30) : zuq (send S r) := by
  obtain ⟨S', h1, h2⟩ := hr
  have h3 := (h2.2.2 r (by rw [h2.1.1]; exact h6)).2.2.2
  exact zuq_q (send_c h2 (by rw [h2.1.1]; exact h6)).sy (zuq_send h1 (zuq_q h2 hu) (by rw [h2.1.1]; exact h6) (by rw [h3, h30]))
theorem zWsdo {S : zT} (hr : zRp S) (hu : zuq S) : zuq (sdo S) ∧ zRp (sdo S) := by
  obtain ⟨S', h1, h2⟩ := hr
  exact ⟨zuq_q (sdo_c h2 h1).sy (zuq_sdo h1 (zuq_q h2 hu)), sdo S', sdo_sr h1, sdo_c h2 h1⟩
theorem zW_odri : ∀ (m : Nat) (A : zA), zRp A.1 → zW A → zW (odri m A)
  | 0, A, _, w => w
  | m + 1, A, hr, w => by
    have h1 := zWsdo hr w.1.1
    exact zW_odri m (sdo A.1, (oPush A).2) h1.2 ⟨zWh_o (S' := sdo A.1) (zWh_push w.1) h1.1 (sdo_06 A.1) (fun r _ => by rw [sdo_k _ (Or.inl rfl), sdo_k _ (Or.inr rfl)]; exact ⟨rfl, rfl⟩), w.2⟩
theorem zW_rider {A : zA} (hr : zRp A.1) (w : zW A) (k v l : Int) : zW (oRider A k v l).2 := by
  unfold oRider
  split
  · split
    · exact w
    · refine ⟨⟨?_, fun s hs => by cases hs⟩, w.2⟩
      have h6 := zRp_6 hr
      obtain ⟨n, hn⟩ : ∃ n : Nat, A.1 0 6 = (n : Int) := ⟨(A.1 0 6).toNat, by omega⟩
      rw [hn, Int.toNat_natCast]
      show zuq (sad A.1 n k v l)
      have e6 : ∀ q, sad A.1 n k v l 6 q = if q = n then 30 else A.1 6 q := fun q => by
        unfold sad
        rw [zup_row _ _ (by decide), zup6_at, zup_row _ _ (by decide), zup_row _ _ (by decide), zup_row _ _ (by decide)]
      intro p q hp hq h1 h2 h3
      rw [sad_6] at hp hq
      rw [e6] at h1 h2 h3
      rw [e6] at h3
      by_cases hpn : p = n
      · rw [if_pos hpn] at h2; omega
      · rw [if_neg hpn] at h1 h2 h3
        by_cases hqn : q = n
        · rw [if_pos hqn] at h3; omega
        · rw [if_neg hqn] at h3
          exact w.1.1 p q (by omega) (by omega) h1 h2 h3
  · exact w
theorem zW_lean {A : zA} (w : zW A) (r v : Int) : zW (oLean A r v).2 := by
  unfold oLean
  split
  · exact ⟨zWh_up w.1 (zuq_up w.1.1 (by decide) (by decide) _ _) (by omega) (by omega) (by omega), w.2⟩
  · exact w
theorem zW_type {A : zA} (w : zW A) (x : Int) : zW (oType A x).2 := by
  unfold oType
  split
  · split
    · exact w
    · exact w
  · exact w
theorem zW_seed {A : zA} (w : zW A) (v : Int) : zW (oSeed A v).2 := by
  unfold oSeed
  split
  · exact w
  · exact ⟨zWh_up w.1 (zuq_up1 w.1.1 (by decide) (by omega) _) (by omega) (by omega) (by omega), w.2⟩
theorem zW_ride {A : zA} (hr : zRp A.1) (w : zW A) (r : Int) : zW (oRide A r).2 := by
  unfold oRide
  split
  · split
    · exact w
    · split
      · rename_i h1 h2 h3
        have hu := zWsend (r := r.toNat) hr w.1.1 (by omega) h3
        exact ⟨zWh_o (S' := send A.1 r.toNat) (zWh_push w.1) hu (send_06' _ _) (fun q _ => by rw [send_k _ _ (Or.inl rfl), send_k _ _ (Or.inr rfl)]; exact ⟨rfl, rfl⟩), w.2⟩
      · exact w
  · exact w
theorem zW_wax {A : zA} (w : zW A) {i : Nat} (hi : i = 1 ∨ i = 2) (t v : Int) : zW (oWax A i t v).2 := by
  unfold oWax
  split
  · split
    · exact w
    · exact ⟨zWh_up (zWh_push w.1) (zuq_up w.1.1 (by omega) (by omega) _ _) (by omega) (by omega) (by omega), w.2⟩
  · exact w
theorem zW_up {A : zA} (w : zW A) (r : Int) : zW (oUp A r).2 := by
  unfold oUp
  split
  · split
    · exact w
    · exact ⟨zWh_up (zWh_push w.1) (zuq_30 w.1.1 _ (by omega)) (by omega) (by omega) (by omega), w.2⟩
  · exact w
theorem zW_drift {A : zA} (hr : zRp A.1) (w : zW A) (n : Int) : zW (oDrift A n).2 := by
  unfold oDrift
  split
  · split
    · exact w
    · exact zW_odri _ A hr w
  · exact w
theorem zW_undo {A : zA} (hr : zRp A.1) (w : zW A) : zW (oUndo A).2 := by
  unfold oUndo
  cases hl : A.2.1.getLast? with
  | none => exact w
  | some s =>
    have hs : s ∈ A.2.1 := List.mem_of_getLast? hl
    have h6 := zRp_6 hr
    have ws := w.1.2 s hs
    show zW (sgb s A.1, A.2.1.dropLast, A.2.2)
    refine ⟨⟨?_, fun q hq => ?_⟩, w.2⟩
    · show zuq (sgb s A.1)
      intro p q hp hq h1 h2 h3
      rw [sgb_06] at hp hq
      rw [sgb_6 _ _ (by omega)] at h1 h2 h3
      rw [sgb_6 _ _ (by omega)] at h3
      exact ws.1 p q (by rw [ws.2.1]; exact hp) (by rw [ws.2.1]; exact hq) h1 h2 h3
    · have wq := w.1.2 q (List.dropLast_subset _ hq)
      exact ⟨wq.1, zSm_o (S' := sgb s A.1) wq.2 (sgb_06 _ _) (fun r _ => by rw [sgb_k _ _ (Or.inl rfl), sgb_k _ _ (Or.inr (Or.inl rfl))]; exact ⟨rfl, rfl⟩)⟩
theorem zW_image {A : zA} (w : zW A) : zW (oImage A) := ⟨w.1, fun q hq => by
  have e : (A.1, A.2.1) = q := Option.some.inj hq
  rw [← e]
  exact w.1⟩
theorem zW_restore {A : zA} (w : zW A) : zW (oRestore A).2 := by
  unfold oRestore
  cases hA : A.2.2.1 with
  | none => exact w
  | some q => exact ⟨w.2 q hA, fun q' hq' => w.2 q' hq'⟩
/-- those read of a tape are all at the top -/
def zal (S : zT) : Prop := ∀ r : Nat, (r : Int) < S 0 6 → S 6 r = 30
theorem zal_sad {S : zT} (h : zal S) {n : Nat} (hn : S 0 6 = (n : Int)) (k v l : Int) : zal (sad S n k v l) := by
  intro r hr
  rw [sad_6] at hr
  have e6 : sad S n k v l 6 r = if r = n then 30 else S 6 r := by
    unfold sad
    rw [zup_row _ _ (by decide), zup6_at, zup_row _ _ (by decide), zup_row _ _ (by decide), zup_row _ _ (by decide)]
  rw [e6]
  split
  · rfl
  · exact h r (by omega)
theorem tsl_al {T : Nat → Int} {n : Nat} (hT : ∀ j, j < 70 → 0 ≤ T j ∧ T j ≤ 126) (hn : n ≤ 70) (S : zT) : zal (tsl T n S).2.2 := by
  have hrr : ∀ (r k : Nat) (S : zT), zal S → S 0 6 = (r : Int) → zal (trr T n r k S).2.2 := fun r k S h hr => by
    unfold trr
    split
    · exact h
    · split
      · exact h
      · split
        · exact h
        · exact zal_sad h hr _ _ _
  have hrl : ∀ (m r k : Nat) (S : zT), k ≤ n → zal S → S 0 6 = (r : Int) → zal (trl T n m r k S).2.2 := fun m => by
    induction m with
    | zero => exact fun _ _ _ _ h _ => h
    | succ m ih =>
      intro r k S hk h hr
      have hk1 := tnl_r T n k hk
      unfold trl
      split
      · have hk2 := tat_lt (T := T) (n := n) (k := tnl T n k) (by omega)
        have hq := trr_r (r := r) (S := S) hT hn (show tnl T n k + 1 ≤ n from hk2)
        split
        · exact hrr _ _ _ h hr
        · rename_i h0
          exact ih _ _ _ hq.2 (hrr _ _ _ h hr) (hq.1.elim (fun h1 => absurd h1 h0) (fun h1 => h1.2))
      · exact h
  have h06 : zup (zup S 0 6 0) 0 7 0 0 6 = 0 := by rw [zup_ne _ _ (by omega), zup_at]
  have hq := ttl_r hT hn 10 0 0 (zup (zup S 0 6 0) 0 7 0) (Nat.zero_le n)
  have ht6 : (ttl T n 10 0 0 (zup (zup S 0 6 0) 0 7 0)).2.2 0 6 = 0 := by rw [hq.2.2]; exact h06
  have hal : zal (ttl T n 10 0 0 (zup (zup S 0 6 0) 0 7 0)).2.2 := fun r hr => by rw [ht6] at hr; omega
  have hk1 := tnl_r T n (ttl T n 10 0 0 (zup (zup S 0 6 0) 0 7 0)).2.1 hq.2.1
  unfold tsl
  split
  · exact hal
  · unfold tsr
    split
    · have hk2 := tat_lt (T := T) (n := n) (k := tnl T n (ttl T n 10 0 0 (zup (zup S 0 6 0) 0 7 0)).2.1) (by omega)
      have hs : zal (trs T n (tnl T n (ttl T n 10 0 0 (zup (zup S 0 6 0) 0 7 0)).2.1 + 1) (ttl T n 10 0 0 (zup (zup S 0 6 0) 0 7 0)).2.2).2.2 := by
        have hq2 := trr_r (r := 0) (S := (ttl T n 10 0 0 (zup (zup S 0 6 0) 0 7 0)).2.2) hT hn hk2
        unfold trs
        split
        · exact hrr _ _ _ hal ht6
        · rename_i h0
          exact hrl _ _ _ _ hq2.2 (hrr _ _ _ hal ht6) (hq2.1.elim (fun h1 => absurd h1 h0) (fun h1 => h1.2))
      split
      · exact hs
      · exact hs
    · exact hal
theorem zW_slide {A : zA} (hT : ∀ j, j < 70 → 0 ≤ tlst A.2.2.2.1 j ∧ tlst A.2.2.2.1 j ≤ 126) (hn : A.2.2.2.1.length ≤ 70) (w : zW A) : zW (oSlide A).2 := by
  unfold oSlide
  split
  · exact w
  · refine ⟨⟨?_, fun s hs => by cases hs⟩, w.2⟩
    have hal := tsl_al hT hn zz
    refine zuq_up1 ?_ (by decide) (by omega) _
    intro p q hp hq h1 h2 h3
    rw [hal p hp] at h2
    omega
theorem zW_sset {A : zA} (w : zW A) (k : Nat) (v : Int × (Int × (Nat → Int))) : zW (sset A k v) := w
theorem zW_film {A : zA} (w : zW A) (r n s l i : Int) : zW (oFilm A r n s l i).2 := by
  unfold oFilm
  repeat' split
  all_goals exact w
theorem zW_sheet {A : zA} (w : zW A) (s l n : Int) : zW (oSheet A s l n).2 := by
  unfold oSheet
  repeat' split
  all_goals exact w
theorem zW_drop {A : zA} (w : zW A) (s : Int) : zW (oDrop A s).2 := by
  unfold oDrop
  repeat' split
  all_goals exact w
theorem zW_item {A : zA} (w : zW A) (s l i v : Int) : zW (oItem A s l i v).2 := by
  unfold oItem
  repeat' split
  all_goals exact w
theorem zW_copy {A : zA} (w : zW A) (s i t u n : Int) : zW (oCopy A s i t u n).2 := by
  unfold oCopy
  repeat' split
  all_goals exact w
/-! both sides at once -/
def zLI (sh : zH) (I L : zI2) (R : zR2) (A : zA) : Prop := (∃ P, zCA sh R P I L A) ∧ mCA sh R I L A ∧ zW A
theorem mCA_hi {sh : zH} {R R' : zR2} {I I' L L' : zI2} {A : zA} (h : mCA sh R I L A) (hI : ∀ a, 157 ≤ a → I' a = I a ∧ L' a = L a ∧ R' a = R a) : mCA sh R' I' L' A := by
  obtain ⟨h1, h2, h3, h4, h5, h6⟩ := h
  refine ⟨⟨h1.1, by rw [(hI 157 (by omega)).2.2]; exact h1.2⟩, by rw [(hI 158 (by omega)).1]; exact h2, mHis_of (by rw [(hI 157 (by omega)).1]) (hI 163 (by omega)).1 h3, mKep_of (by rw [(hI 157 (by omega)).1]) (by rw [(hI 157 (by omega)).1]) (hI 168 (by omega)).1 h4, mTap_of (by rw [(hI 157 (by omega)).1]) (hI 160 (by omega)).1 h5, mShe_of (hI 169 (by omega)).1 (hI 170 (by omega)).1 (hI 171 (by omega)).2.1 h6⟩
theorem zCA_lo {sh : zH} {R : zR2} {P : Nat → Nat} {I I' L L' : zI2} {A : zA} (h : zCA sh R P I L A) (hI : ∀ a, a < 157 → I' a = I a ∧ L' a = L a) : zCA sh R P I' L' A := by
  obtain ⟨h1, h2, h3, h4, h5, h6, h7, h8⟩ := h
  exact ⟨h1, cNow_of (fun a _ _ => (hI a (by omega)).1) h2, cTri_of (fun a _ _ => (hI a (by omega)).1) h3, cHis_of h1.2.2.1.2 (fun a _ => (hI a (by omega)).1) h4, cKep_of (fun a _ => (hI a (by omega)).1) h5, cTap_of (fun a _ => (hI a (by omega)).1) h6, cShe_of (fun a _ _ => hI a (by omega)) h7, cOrd_of (fun a _ => (hI a (by omega)).1) h8⟩
/-- what a state that both are in tells -/
theorem zLI_f {sh : zH} {I L : zI2} {R : zR2} {A : zA} (h : zLI sh I L R A) : zRp A.1 ∧ (∀ q, q < 4 → 0 ≤ (A.2.2.2.2 q).2.1 ∧ (A.2.2.2.2 q).2.1 ≤ 24) ∧ (∀ s ∈ A.2.1, s 0 6 = A.1 0 6) ∧ (∀ j, j < 70 → 0 ≤ tlst A.2.2.2.1 j ∧ tlst A.2.2.2.1 j ≤ 126) ∧ A.2.2.2.1.length ≤ 70 := by
  obtain ⟨⟨P, hc⟩, hm, hw⟩ := h
  refine ⟨⟨_, hm.2.1.1.1, hm.2.1.2⟩, fun q hq => ?_, fun s hs => (hw.1.2 s hs).2.1, fun j _ => (tlst_r (t := A.2.2.2.1) (fun j x hx => (hm.2.2.2.2.1.2.2 j x hx).2)).1 j, hm.2.2.2.2.1.2.1⟩
  have := hc.2.2.2.2.2.2.1 q hq
  rw [← this.2.2.1]
  exact this.1.2.1
