/-! ===== calls on the object that are remembered ===== -/
theorem zE_mono {X : zXs} {M : zM} {k w pc : Nat} {ls st : List zV} {sh : zH} {I L : zI2} {R : zR2} {Q Q' : zQ} (hQ : ∀ r' sh' I' L' R', Q r' sh' I' L' R' → Q' r' sh' I' L' R') (h : zE X M k w pc ls st sh I L R Q) : zE X M k w pc ls st sh I L R Q' := by
  intro G p l e Rm s m args below meth c H locs cells slots Qf arr F S hl kend
  exact h G p l e Rm s m args below meth c H locs cells slots Qf arr F S hl (fun r sh' I' L' R' H' locs' cells' slots' w' pc' arr' q rt S' => kend r sh' I' L' R' H' locs' cells' slots' w' pc' arr' (hQ _ _ _ _ _ q) rt S')
def oPush (A : zA) : zA := (A.1, (if A.2.1.length = 8 then A.2.1.drop 1 else A.2.1) ++ [A.1], A.2.2)
theorem zCs_R {sh : zH} {R R' : zR2} {P P' : Nat → Nat} (h : zCs sh R P) (hR : ∀ a, a ≠ 16 → R' a = R a) (hH : zHi sh R' 15 P') (hP : zPm P') : zCs sh R' P' := by
  have hsl : ∀ a, a ≠ 16 → zSl sh R a → zSl sh R' a := fun a ha s => ⟨s.1, by rw [hR a ha]; exact s.2⟩
  obtain ⟨h1, ⟨h2, h3, h4⟩, h5, h6, h7, ⟨h8, h8b⟩, h9, h10, h11, h12⟩ := h
  refine ⟨by rw [hR 0 (by decide)]; exact h1, ⟨hsl 1 (by decide) h2, hsl 8 (by decide) h3, hsl 73 (by decide) h4⟩, ⟨hH, hP⟩, ⟨⟨h6.1.1, h6.1.2.1, by rw [hR 80 (by decide)]; exact h6.1.2.2⟩, fun j hj => by rw [hR (80 + 1) (by decide)]; exact h6.2.1 j hj, fun j hj => hsl _ (by unfold zKP; omega) (h6.2.2 j hj)⟩, ⟨h7.1, h7.2.1, by rw [hR 138 (by decide)]; exact h7.2.2⟩, ⟨h8, fun k hk => ⟨by rw [hR 140 (by decide)]; exact (h8b k hk).1, (h8b k hk).2.1, (h8b k hk).2.2.1, by rw [hR (149 + 2 * k) (by omega)]; exact (h8b k hk).2.2.2⟩⟩, h9, ⟨h10.1, h10.2.1, by rw [hR 142 (by decide)]; exact h10.2.2⟩, ⟨h11.1, h11.2.1, by rw [hR 144 (by decide)]; exact h11.2.2⟩, ⟨h12.1, h12.2.1, h12.2.2.1, by rw [hR 146 (by decide)]; exact h12.2.2.2⟩⟩
theorem cHis_push {I J : zI2} {P : Nat → Nat} {l : List zT} {S : zT} {n : Nat} (hP : zPm P) (hn : n < 8) (hl : l.length = n) (hJ : J = zup (zsl I (P n) (sbc (zvw I 1) (zvw I (P n)))) 15 1 ((n : Int) + 1)) (hS : cNow I S) (hg : ∀ i, i < 8 → zSg (zvw I (P i))) (hq : ∀ i s, l[i]? = some s → zQe (zvw I (P i)) s) : cHis J P (l ++ [S]) := by
  have en : zvw J (P n) = zvw (zsl I (P n) (sbc (zvw I 1) (zvw I (P n)))) (P n) := by
    rw [hJ]
    exact zvw_up _ (by have := zPm_r hP hn; omega) _ _
  have eo : ∀ i, i < 8 → i ≠ n → zvw J (P i) = zvw I (P i) := fun i hi hin => by
    rw [hJ, zvw_up _ (by have := zPm_r hP hi; omega), zvw_slo _ (by have := zPm_d hP hi hn hin; omega)]
  refine ⟨by rw [hJ, zup_at]; simp [hl], by simp [hl]; omega, fun i hi => ?_, fun i s hs => ?_⟩
  · by_cases h : i = n
    · subst h
      rw [en]
      exact zSg_w (fun q hq => (zvw_sl _ _ _ hq).symm) (sbc_sg _ _ hS.1)
    · rw [eo i hi h]; exact hg i hi
  · have hi := (List.getElem?_eq_some_iff.mp hs).1
    simp [hl] at hi
    by_cases h : i = n
    · subst h
      have es : s = S := by
        have h3 : (l ++ [S])[i]? = some S := by rw [← hl]; simp
        exact Option.some.inj (hs.symm.trans h3)
      rw [es, en]
      exact zQe_w (fun q hq => (zvw_sl _ _ _ hq).symm) ((sbc_q _ _ hS.1.1.1.2).tr hS.2)
    · rw [eo i (by omega) h]
      exact hq i s (by rw [← hs]; exact (List.getElem?_append_left (by omega)).symm)
def zRm (sh : zH) (I L : zI2) (R : zR2) (A : zA) : zQ := fun r' sh' I' L' R' => r' = [] ∧ sh' = sh ∧ L' = L ∧ (∃ P', zCA sh R' P' I' L (oPush A)) ∧ (∀ a, ¬ (15 ≤ a ∧ a < 73) → I' a = I a) ∧ ∀ a, a ≠ 16 → R' a = R a
theorem zOp_of {sh : zH} {I J L : zI2} {R R' : zR2} {P : Nat → Nat} {A : zA} {v w : zV} (h : zCA sh R' P J L A) (hI : ∀ a, 157 ≤ a → J a = I a) (hR : ∀ a, 157 ≤ a → R' a = R a) (e : v = w) : zOp sh I L R w A [v] sh J L R' := by
  subst e
  exact ⟨rfl, rfl, ⟨P, h⟩, fun a ha => ⟨hI a ha, rfl, hR a ha⟩⟩
section TOPE
variable {X : zXs} {sh : zH} {I L : zI2} {R : zR2} {P : Nat → Nat} {A : zA}
theorem zCA_now {J : zI2} {S' : zT} (h : zCA sh R P I L A) (hJ : ∀ a, ¬ (1 ≤ a ∧ a < 8) → a ≠ 141 → J a = I a) (hS : cNow J S') : zCA sh R P J L (S', A.2) := by
  obtain ⟨hC, h1, h2, h3, h4, h5, h6, h7⟩ := h
  exact ⟨hC, hS, cTri_of (fun a _ _ => hJ a (by omega) (by omega)) h2, cHis_of hC.2.2.1.2 (fun a _ => hJ a (by omega) (by omega)) h3, cKep_of (fun a _ => hJ a (by omega) (by omega)) h4, cTap_of (fun a _ => hJ a (by omega) (by omega)) h5, cShe_of (fun a _ _ => ⟨hJ a (by omega) (by omega), rfl⟩) h6, cOrd_of (fun a _ => hJ a (by omega) (by omega)) h7⟩
theorem zCA_his {J : zI2} {R' : zR2} {P' : Nat → Nat} {l : List zT} (h : zCA sh R P I L A) (hJ : ∀ a, ¬ (15 ≤ a ∧ a < 73) → J a = I a) (hC' : zCs sh R' P') (hH : cHis J P' l) : zCA sh R' P' J L (A.1, l, A.2.2) := by
  obtain ⟨hC, h1, h2, h3, h4, h5, h6, h7⟩ := h
  exact ⟨hC', cNow_of (fun a _ _ => hJ a (by omega)) h1, cTri_of (fun a _ _ => hJ a (by omega)) h2, hH, cKep_of (fun a _ => hJ a (by omega)) h4, cTap_of (fun a _ => hJ a (by omega)) h5, cShe_of (fun a _ _ => ⟨hJ a (by omega), rfl⟩) h6, cOrd_of (fun a _ => hJ a (by omega)) h7⟩
theorem ct_rem (h : zCA sh R P I L A) : zE X mX0_remember 0 0 0 [zR 15, zR 1] [] sh I L R (zRm sh I L R A) := by
  obtain ⟨hC, hNow, hTri, hHis, hKep, hTap, hShe, hOrd⟩ := id h
  obtain ⟨-, ⟨n1, -, -⟩, ⟨hh, hpm⟩, -⟩ := id hC
  have hl1 := hHis.1
  have hl8 := hHis.2.1
  by_cases h8 : A.2.1.length = 8
  · have hP0 := zPm_r hpm (i := 0) (by decide)
    have hpr := zPm_rot hpm
    have e7 : zrotP P 7 = P 0 := by unfold zrotP; rw [if_neg (by decide), if_pos rfl]
    have k := ct_X0_remember_full (X := X) (I := I) (L := L) (p := P 0) hh n1 (by omega) rfl (by omega) (by omega) (by omega)
    refine zE_mono (fun r' sh' I' L' R' hz => ?_) k
    obtain ⟨rfl, rfl, rfl, rfl, rfl⟩ := hz
    have hr := fun a (ha : ¬ (15 ≤ a ∧ a < 73)) => show zup (zsl (zup I 15 1 7) (P 0) (sbc (zvw I 1) (zvw I (P 0)))) 15 1 8 a = I a by rw [zup_row _ _ (by omega), zsl_oR _ _ _ (by omega), zup_row _ _ (by omega)]
    have hRo : ∀ a, a ≠ 16 → zrowR R (15 + 1) (zrotR (R (15 + 1))) a = R a := fun a ha => funext fun j => zrowR_o _ _ _ ha j
    refine ⟨rfl, rfl, rfl, ⟨zrotP P, ?_⟩, hr, hRo⟩
    unfold oPush
    rw [if_pos h8]
    refine zCA_his h hr (zCs_R hC hRo (zHi_rot hh) hpr) (cHis_push (I := zup I 15 1 7) (n := 7) hpr (by decide) (by simp [h8]) ?_ (cNow_of (fun a _ _ => zup_row _ _ (by omega)) hNow) (fun i hi => ?_) (fun i s hs => ?_))
    · rw [e7, zvw_up _ (by omega), zvw_up _ (by omega)]; rfl
    · have := zPm_r hpr hi
      rw [zvw_up _ (by omega)]
      unfold zrotP
      by_cases h7 : i < 7
      · rw [if_pos h7]; exact hHis.2.2.1 _ (by omega)
      · rw [if_neg h7, if_pos (by omega)]; exact hHis.2.2.1 _ (by omega)
    · have hi := (List.getElem?_eq_some_iff.mp hs).1
      simp [h8] at hi
      have := zPm_r hpr (i := i) (by omega)
      rw [zvw_up _ (by omega)]
      unfold zrotP
      rw [if_pos hi]
      exact hHis.2.2.2 (i + 1) s (by rw [← hs]; simp [Nat.add_comm])
  · have hn : A.2.1.length < 8 := by omega
    have hp := zPm_r hpm hn
    have k := ct_X0_remember (X := X) (I := I) (L := L) hh n1 hn hl1 rfl (by omega) (by omega)
    refine zE_mono (fun r' sh' I' L' R' hz => ?_) k
    obtain ⟨rfl, rfl, rfl, rfl, rfl⟩ := hz
    have hr := fun a (ha : ¬ (15 ≤ a ∧ a < 73)) => show zup (zsl I (P A.2.1.length) (sbc (zvw I 1) (zvw I (P A.2.1.length)))) 15 1 ((A.2.1.length : Int) + 1) a = I a by rw [zup_row _ _ (by omega), zsl_oR _ _ _ (by omega)]
    refine ⟨rfl, rfl, rfl, ⟨P, ?_⟩, hr, fun _ _ => rfl⟩
    unfold oPush
    rw [if_neg h8]
    exact zCA_his h hr hC (cHis_push hpm hn rfl rfl hNow hHis.2.2.1 hHis.2.2.2)
end TOPE
