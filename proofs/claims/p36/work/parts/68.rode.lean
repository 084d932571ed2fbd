/-! ===== the law's rode ===== -/
theorem rdR_eq {X : zXs} {M : zM} {k w pc : Nat} {a0 a1 a2 a3 a4 a5 a6 a7 a8 a9 b0 b1 b2 b3 b4 : zV} {v v' : Int} {st : List zV} {sh : zH} {I L : zI2} {R : zR2} {Q : zQ} (e : v = v') (h : zE X M k w pc [a0, a1, a2, a3, a4, a5, a6, a7, a8, a9, b0, b1, b2, b3, b4, zI v'] st sh I L R Q) : zE X M k w pc [a0, a1, a2, a3, a4, a5, a6, a7, a8, a9, b0, b1, b2, b3, b4, zI v] st sh I L R Q := by subst e; exact h
section RODE
variable {X : zXs} {sh : zH} {J0 K0 : zI2} {Z0 : zR2} {S : zT} {hh : List zT} {TS : List Int × (Nat → Int × (Int × (Nat → Int)))}
/-- he rides, and all is as foretold -/
theorem tl_rode581 {x : Int} {c r : Nat} {B : List zT} {ru rd : Int} {z8 z9 z10 z13 z14 z15 : zV} {I L : zI2} {R : zR2} {Q : zQ} (hs : sh[157]? = some (20, 43)) (hw : J0 157 0 = S 0 6) (hg : gd S) (h7 : S 0 7 ≤ 100) (hr : (r : Int) < S 0 6) (hru : ru = rsm (S 1) 10 0 0) (hrd : rd = S 0 7) (h : pH sh J0 K0 Z0 I L R (zup S 6 r 30, (B, (some (S, hh), TS))))
    (kk : ∀ (z7 z8 z9 z10 z11 z12 z13 z14 z15 : zV) (I L : zI2) (R : zR2), pH sh J0 K0 Z0 I L R (pA S hh TS) → zE X mL_rode 0 0 129 [zR 0, zR 157, zL x, zX, zI 1, zI (c : Int), zI ((r : Int) + 1), z7, z8, z9, z10, z11, z12, z13, z14, z15] [] sh I L R Q) :
    zE X mL_rode 0 0 581 [zR 0, zR 157, zL x, zX, zI 1, zI (c : Int), zI (r : Int), zI (sfe S r), z8, z9, z10, zI ru, zI rd, z13, z14, z15] [] sh I L R Q := by
  have s0 := h.sh0
  have n5 := hg.n5
  have he := sfe_r S r hg.sr (by omega)
  have h70 := hg.1.2.1
  have r1 := rsm_r (W := S 1) 10 0 0 (fun j _ hj => hg.sr.2.1 j (by omega))
  have e6 : zup S 6 r 30 0 6 = S 0 6 := zup_ne _ _ (by omega)
  have e7 : zup S 6 r 30 0 7 = S 0 7 := zup_ne _ _ (by omega)
  have e66 : zup S 6 r 30 6 r = 30 := zup_at _ _ _ _
  have e1 : zup S 6 r 30 1 = S 1 := zup_row _ _ (by decide)
  have eS : sfe (zup S 6 r 30) r = sfe S r := sfe_30 hg.sr.1 hg.2.2.1 hr
  have hg1 := gd_up hg r
  have hg2 := gd_send hg1 (r := r) (by rw [e6]; exact hr) e66 (by rw [e7]; omega)
  have d6 : send (zup S 6 r 30) r 0 6 = S 0 6 := (send_06 _ _ 6 (by decide)).trans e6
  have d7 : send (zup S 6 r 30) r 0 7 = S 0 7 + 1 := (psend_07 _ _).trans (by rw [e7])
  have d66 : send (zup S 6 r 30) r 6 r = sfe S r := (send_6 _ _ _).trans ((if_pos rfl).trans eS)
  have d1 := send_rough hg1.sr r
  rw [e1, ← hru] at d1
  have d1a := rsm_r (W := send (zup S 6 r 30) r 1) 10 0 0 (fun j _ hj => hg2.sr.2.1 j (by omega))
  have ex1 : oRide (zup S 6 r 30, (B, (some (S, hh), TS))) (r : Int) = (sfe S r, (send (zup S 6 r 30) r, (oPush (zup S 6 r 30, (B, (some (S, hh), TS)))).2)) := by
    unfold oRide
    rw [Int.toNat_natCast, if_pos (by show 0 ≤ (r : Int) ∧ (r : Int) ≤ zup S 6 r 30 0 6 - 1; omega), if_neg (by show ¬ 9999 ≤ zup S 6 r 30 0 7; omega), if_pos e66]
    show (sfe (zup S 6 r 30) r, _) = _
    rw [eS]
  generalize send (zup S 6 r 30) r = T at hg2 d6 d7 d66 d1 d1a ex1
  obtain ⟨B2, hB2⟩ : ∃ B2, (oPush (zup S 6 r 30, (B, (some (S, hh), TS)))).2 = (B2, (some (S, hh), TS)) := ⟨_, rfl⟩
  rw [hB2] at ex1
  have ex2 : oRide (T, (B2, (some (S, hh), TS))) (r : Int) = (-2, (T, (B2, (some (S, hh), TS)))) := by
    unfold oRide
    rw [Int.toNat_natCast, if_pos (by show 0 ≤ (r : Int) ∧ (r : Int) ≤ T 0 6 - 1; omega), if_neg (by show ¬ 9999 ≤ T 0 7; omega), if_neg (by show ¬ T 6 r = 30; omega)]
  refine z_aload0 582 dL_rode_581 rfl ?_
  refine z_iload6 584 dL_rode_582 rfl ?_
  refine z_pV1 587 dL_rode_584 lk_L_rode_43 (pc_ride h (by omega) ex1) rfl (Nat.le_of_ble_eq_true rfl) (Nat.le_of_ble_eq_true rfl) (by assumption) rfl rfl (fun r0 sh0 I0 L0 R0 hpq => ?_)
  obtain ⟨rfl, rfl, h⟩ := pO hpq
  refine z_iload7 589 dL_rode_587 rfl ?_
  refine z_icmp_ne 657 592 dL_rode_589 (by decide) rfl (by omega) (by omega) (fun hz => absurd hz ((by omega))) (fun h589 => ?_)
  refine z_aload0 593 dL_rode_592 rfl ?_
  refine z_iload6 595 dL_rode_593 rfl ?_
  refine z_iconst 596 dL_rode_595 rfl ?_
  refine z_pV2 599 dL_rode_596 lk_L_rode_69 (pc_of3 h (by show T 0 6 ≤ 5; omega) (by show (r : Int) < T 0 6; omega)) rfl (Nat.le_of_ble_eq_true rfl) (Nat.le_of_ble_eq_true rfl) (by assumption) rfl rfl (fun r0 sh0 I0 L0 R0 hpq => ?_)
  obtain ⟨rfl, rfl, h⟩ := pO hpq
  rw [show (T, (B2, (some (S, hh), TS))).1 6 r = sfe S r from d66]
  refine z_iload7 601 dL_rode_599 rfl ?_
  refine z_icmp_ne 657 604 dL_rode_601 (by decide) rfl (by omega) (by omega) (fun hz => absurd hz ((by omega))) (fun h601 => ?_)
  refine z_aload0 605 dL_rode_604 rfl ?_
  refine z_iconst 606 dL_rode_605 rfl ?_
  refine z_pV1 609 dL_rode_606 lk_L_rode_59 (pc_count1 h) rfl (Nat.le_of_ble_eq_true rfl) (Nat.le_of_ble_eq_true rfl) (by assumption) rfl rfl (fun r0 sh0 I0 L0 R0 hpq => ?_)
  obtain ⟨rfl, rfl, h⟩ := pO hpq
  rw [show (T, (B2, (some (S, hh), TS))).1 0 7 = S 0 7 + 1 from d7]
  refine z_iload12 611 dL_rode_609 rfl ?_
  refine z_iconst 612 dL_rode_611 rfl ?_
  refine z_iadd 613 dL_rode_612 rfl ?_
  refine z_icmp_ne 657 616 dL_rode_613 (by decide) rfl (by omega) (by omega) (fun hz => absurd hz ((by omega))) (fun h613 => ?_)
  refine z_aload0 617 dL_rode_616 rfl ?_
  refine z_iconst 618 dL_rode_617 rfl ?_
  refine z_pV1 621 dL_rode_618 lk_L_rode_59 (pc_count5 h) rfl (Nat.le_of_ble_eq_true rfl) (Nat.le_of_ble_eq_true rfl) (by assumption) rfl rfl (fun r0 sh0 I0 L0 R0 hpq => ?_)
  obtain ⟨rfl, rfl, h⟩ := pO hpq
  show zE X mL_rode 0 0 621 _ [zI (rsm (T 1) 10 0 0)] sh _ _ _ Q
  refine z_iload11 623 dL_rode_621 rfl ?_
  refine z_icmp_gt 657 626 dL_rode_623 (by decide) rfl (by omega) (by omega) (fun hz => absurd hz ((by omega))) (fun h623 => ?_)
  refine z_aload0 627 dL_rode_626 rfl ?_
  refine z_aload1 628 dL_rode_627 rfl ?_
  refine z_pS2 631 dL_rode_628 lk_L_rode_77 (ct_L_stands hs (hw.trans d6.symm) hg2 h) rfl (Nat.le_of_ble_eq_true rfl) (Nat.le_of_ble_eq_true rfl) rfl (fun r0 sh0 I0 L0 R0 hpq => ?_)
  obtain ⟨rfl, rfl, h⟩ := pO hpq
  refine z_if_eq 657 634 dL_rode_631 (by decide) rfl (by omega) (fun hz => absurd hz ((by omega))) (fun h631 => ?_)
  refine z_aload0 635 dL_rode_634 rfl ?_
  refine z_iload6 637 dL_rode_635 rfl ?_
  refine z_pV1 640 dL_rode_637 lk_L_rode_43 (pc_ride h (by omega) ex2) rfl (Nat.le_of_ble_eq_true rfl) (Nat.le_of_ble_eq_true rfl) (by assumption) rfl rfl (fun r0 sh0 I0 L0 R0 hpq => ?_)
  obtain ⟨rfl, rfl, h⟩ := pO hpq
  refine z_bipush 642 dL_rode_640 (by decide) rfl ?_
  refine z_icmp_ne 657 645 dL_rode_642 (by decide) rfl (by omega) (by omega) (fun hz => absurd hz ((by omega))) (fun h642 => ?_)
  refine z_aload0 646 dL_rode_645 rfl ?_
  refine z_pV0 649 dL_rode_646 lk_L_rode_120 (pc_restore h (q := (S, hh)) rfl) rfl (Nat.le_of_ble_eq_true rfl) (Nat.le_of_ble_eq_true rfl) (by assumption) rfl rfl (fun r0 sh0 I0 L0 R0 hpq => ?_)
  obtain ⟨rfl, rfl, h⟩ := pO hpq
  refine z_iconst 650 dL_rode_649 rfl ?_
  refine z_icmp_ne 657 653 dL_rode_650 (by decide) rfl (by omega) (by omega) (fun hz => absurd hz ((by omega))) (fun h650 => ?_)
  refine z_iconst 654 dL_rode_653 rfl ?_
  refine z_goto 658 dL_rode_654 (by decide) ?_
  refine z_istore4 660 dL_rode_658 (Nat.le_of_ble_eq_true rfl) rfl rfl ?_
  refine z_iinc6 663 dL_rode_660 (Nat.le_of_ble_eq_true rfl) rfl rfl ?_
  refine z_goto 129 dL_rode_663 (by decide) ?_
  exact kk _ _ _ _ _ _ _ _ _ _ _ _ h
theorem tl_rode504 {x : Int} {c r s : Nat} {z8 z9 z12 z13 z14 z15 : zV} {I L : zI2} {R : zR2} {Q : zQ} (hs : sh[157]? = some (20, 43)) (hw : J0 157 0 = S 0 6) (hg : gd S) (h7 : S 0 7 ≤ 100) (hr : (r : Int) < S 0 6) (hs10 : s ≤ 10) (hF : ∀ j, j < s → 0 < sfw S r j) (he : (s = 10 ∧ sfe S r = (spv (sfw S r) 10 + S 5 r) % 8) ∨ (s < 10 ∧ sfe S r = 10 + (s : Int))) (h : pH sh J0 K0 Z0 I L R (pA S hh TS))
    (kk : ∀ (z7 z8 z9 z10 z11 z12 z13 z14 z15 : zV) (I L : zI2) (R : zR2), pH sh J0 K0 Z0 I L R (pA S hh TS) → zE X mL_rode 0 0 129 [zR 0, zR 157, zL x, zX, zI 1, zI (c : Int), zI ((r : Int) + 1), z7, z8, z9, z10, z11, z12, z13, z14, z15] [] sh I L R Q) :
    zE X mL_rode 0 0 504 [zR 0, zR 157, zL x, zX, zI 1, zI (c : Int), zI (r : Int), zI (sfe S r), z8, z9, zI (spv (sfw S r) 10), zI 10, z12, z13, z14, z15] [] sh I L R Q := by
  have s0 := h.sh0
  have n5 := hg.n5
  have hre := sfe_r S r hg.sr (by omega)
  have g5 := hg.sr.2.2.2.2.2.1 r (by omega)
  have g6 := hg.sr.2.2.2.2.2.2 r (by omega)
  have h70 := hg.1.2.1
  have g9 : spv (sfw S r) 10 = sfw S r 9 := rfl
  have w9 := sfw_r S r 9 (by omega)
  have f9 := hF 9
  have r1 := rsm_r (W := S 1) 10 0 0 (fun j _ hj => hg.sr.2.1 j (by omega))
  by_cases hp : S 6 r = 30
  · have eS : zup S 6 r 30 = S := by rw [← hp]; exact zup_self _ _ _
    refine z_iload4 506 dL_rode_504 rfl ?_
    refine z_if_eq 538 509 dL_rode_506 (by decide) rfl (by omega) (fun hz => absurd hz ((by omega))) (fun h506 => ?_)
    refine z_iload7 511 dL_rode_509 rfl ?_
    refine z_bipush 513 dL_rode_511 (by decide) rfl ?_
    refine z_icmp_gt 534 516 dL_rode_513 (by decide) rfl (by omega) (by omega) (fun h513 => ?_) (fun h513 => ?_)
    · refine z_iconst 535 dL_rode_534 rfl ?_
      refine z_goto 539 dL_rode_535 (by decide) ?_
      refine z_istore4 541 dL_rode_539 (Nat.le_of_ble_eq_true rfl) rfl rfl ?_
      refine z_iload4 543 dL_rode_541 rfl ?_
      refine z_if_eq 660 546 dL_rode_543 (by decide) rfl (by omega) (fun hz => absurd hz ((by omega))) (fun h543 => ?_)
      refine z_aload0 547 dL_rode_546 rfl ?_
      refine z_iconst 548 dL_rode_547 rfl ?_
      refine z_pV1 551 dL_rode_548 lk_L_rode_59 (pc_count5 h) rfl (Nat.le_of_ble_eq_true rfl) (Nat.le_of_ble_eq_true rfl) (by assumption) rfl rfl (fun r0 sh0 I0 L0 R0 hpq => ?_)
      obtain ⟨rfl, rfl, h⟩ := pO hpq
      show zE X mL_rode 0 0 551 _ [zI (rsm (S 1) 10 0 0)] sh _ _ _ Q
      refine z_istore11 553 dL_rode_551 (Nat.le_of_ble_eq_true rfl) rfl rfl ?_
      refine z_aload0 554 dL_rode_553 rfl ?_
      refine z_iconst 555 dL_rode_554 rfl ?_
      refine z_pV1 558 dL_rode_555 lk_L_rode_59 (pc_count1 h) rfl (Nat.le_of_ble_eq_true rfl) (Nat.le_of_ble_eq_true rfl) (by assumption) rfl rfl (fun r0 sh0 I0 L0 R0 hpq => ?_)
      obtain ⟨rfl, rfl, h⟩ := pO hpq
      show zE X mL_rode 0 0 558 _ [zI (S 0 7)] sh _ _ _ Q
      refine z_istore12 560 dL_rode_558 (Nat.le_of_ble_eq_true rfl) rfl rfl ?_
      refine z_aload0 561 dL_rode_560 rfl ?_
      refine z_iload6 563 dL_rode_561 rfl ?_
      refine z_iconst 564 dL_rode_563 rfl ?_
      refine z_pV2 567 dL_rode_564 lk_L_rode_69 (pc_of3 h n5.2 hr) rfl (Nat.le_of_ble_eq_true rfl) (Nat.le_of_ble_eq_true rfl) (by assumption) rfl rfl (fun r0 sh0 I0 L0 R0 hpq => ?_)
      obtain ⟨rfl, rfl, h⟩ := pO hpq
      show zE X mL_rode 0 0 567 _ [zI (S 6 r)] sh _ _ _ Q
      refine z_bipush 569 dL_rode_567 (by decide) rfl ?_
      refine z_icmp_eq 581 572 dL_rode_569 (by decide) rfl (by omega) (by omega) (fun h569 => ?_) (fun hz => absurd hz (by omega))
      exact tl_rode581 (B := hh) hs hw hg h7 hr rfl rfl (by rw [eS]; exact h) kk
    · refine z_iload7 518 dL_rode_516 rfl ?_
      refine z_iload10 520 dL_rode_518 rfl ?_
      refine z_aload0 521 dL_rode_520 rfl ?_
      refine z_iload6 523 dL_rode_521 rfl ?_
      refine z_iconst 524 dL_rode_523 rfl ?_
      refine z_pV2 527 dL_rode_524 lk_L_rode_69 (pc_of2 h n5.2 hr) rfl (Nat.le_of_ble_eq_true rfl) (Nat.le_of_ble_eq_true rfl) (by assumption) rfl rfl (fun r0 sh0 I0 L0 R0 hpq => ?_)
      obtain ⟨rfl, rfl, h⟩ := pO hpq
      show zE X mL_rode 0 0 527 _ [zI (S 5 r), zI (spv (sfw S r) 10), zI (sfe S r)] sh _ _ _ Q
      refine z_iadd 528 dL_rode_527 rfl ?_
      refine z_bipush 530 dL_rode_528 (by decide) rfl ?_
      refine z_irem 531 dL_rode_530 (by omega) (by omega) rfl ?_
      refine z_icmp_ne 538 534 dL_rode_531 (by decide) rfl (by omega) (by omega) (fun hz => absurd hz ((by omega))) (fun h531 => ?_)
      refine z_iconst 535 dL_rode_534 rfl ?_
      refine z_goto 539 dL_rode_535 (by decide) ?_
      refine z_istore4 541 dL_rode_539 (Nat.le_of_ble_eq_true rfl) rfl rfl ?_
      refine z_iload4 543 dL_rode_541 rfl ?_
      refine z_if_eq 660 546 dL_rode_543 (by decide) rfl (by omega) (fun hz => absurd hz ((by omega))) (fun h543 => ?_)
      refine z_aload0 547 dL_rode_546 rfl ?_
      refine z_iconst 548 dL_rode_547 rfl ?_
      refine z_pV1 551 dL_rode_548 lk_L_rode_59 (pc_count5 h) rfl (Nat.le_of_ble_eq_true rfl) (Nat.le_of_ble_eq_true rfl) (by assumption) rfl rfl (fun r0 sh0 I0 L0 R0 hpq => ?_)
      obtain ⟨rfl, rfl, h⟩ := pO hpq
      show zE X mL_rode 0 0 551 _ [zI (rsm (S 1) 10 0 0)] sh _ _ _ Q
      refine z_istore11 553 dL_rode_551 (Nat.le_of_ble_eq_true rfl) rfl rfl ?_
      refine z_aload0 554 dL_rode_553 rfl ?_
      refine z_iconst 555 dL_rode_554 rfl ?_
      refine z_pV1 558 dL_rode_555 lk_L_rode_59 (pc_count1 h) rfl (Nat.le_of_ble_eq_true rfl) (Nat.le_of_ble_eq_true rfl) (by assumption) rfl rfl (fun r0 sh0 I0 L0 R0 hpq => ?_)
      obtain ⟨rfl, rfl, h⟩ := pO hpq
      show zE X mL_rode 0 0 558 _ [zI (S 0 7)] sh _ _ _ Q
      refine z_istore12 560 dL_rode_558 (Nat.le_of_ble_eq_true rfl) rfl rfl ?_
      refine z_aload0 561 dL_rode_560 rfl ?_
      refine z_iload6 563 dL_rode_561 rfl ?_
      refine z_iconst 564 dL_rode_563 rfl ?_
      refine z_pV2 567 dL_rode_564 lk_L_rode_69 (pc_of3 h n5.2 hr) rfl (Nat.le_of_ble_eq_true rfl) (Nat.le_of_ble_eq_true rfl) (by assumption) rfl rfl (fun r0 sh0 I0 L0 R0 hpq => ?_)
      obtain ⟨rfl, rfl, h⟩ := pO hpq
      show zE X mL_rode 0 0 567 _ [zI (S 6 r)] sh _ _ _ Q
      refine z_bipush 569 dL_rode_567 (by decide) rfl ?_
      refine z_icmp_eq 581 572 dL_rode_569 (by decide) rfl (by omega) (by omega) (fun h569 => ?_) (fun hz => absurd hz (by omega))
      exact tl_rode581 (B := hh) hs hw hg h7 hr rfl rfl (by rw [eS]; exact h) kk
  · have e : oUp (pA S hh TS) (r : Int) = (S 6 r, (zup S 6 r 30, (oPush (pA S hh TS)).2)) := by
      unfold oUp
      rw [Int.toNat_natCast, if_pos (by show 0 ≤ (r : Int) ∧ (r : Int) ≤ S 0 6 - 1; omega), if_neg hp]
    refine z_iload4 506 dL_rode_504 rfl ?_
    refine z_if_eq 538 509 dL_rode_506 (by decide) rfl (by omega) (fun hz => absurd hz ((by omega))) (fun h506 => ?_)
    refine z_iload7 511 dL_rode_509 rfl ?_
    refine z_bipush 513 dL_rode_511 (by decide) rfl ?_
    refine z_icmp_gt 534 516 dL_rode_513 (by decide) rfl (by omega) (by omega) (fun h513 => ?_) (fun h513 => ?_)
    · refine z_iconst 535 dL_rode_534 rfl ?_
      refine z_goto 539 dL_rode_535 (by decide) ?_
      refine z_istore4 541 dL_rode_539 (Nat.le_of_ble_eq_true rfl) rfl rfl ?_
      refine z_iload4 543 dL_rode_541 rfl ?_
      refine z_if_eq 660 546 dL_rode_543 (by decide) rfl (by omega) (fun hz => absurd hz ((by omega))) (fun h543 => ?_)
      refine z_aload0 547 dL_rode_546 rfl ?_
      refine z_iconst 548 dL_rode_547 rfl ?_
      refine z_pV1 551 dL_rode_548 lk_L_rode_59 (pc_count5 h) rfl (Nat.le_of_ble_eq_true rfl) (Nat.le_of_ble_eq_true rfl) (by assumption) rfl rfl (fun r0 sh0 I0 L0 R0 hpq => ?_)
      obtain ⟨rfl, rfl, h⟩ := pO hpq
      show zE X mL_rode 0 0 551 _ [zI (rsm (S 1) 10 0 0)] sh _ _ _ Q
      refine z_istore11 553 dL_rode_551 (Nat.le_of_ble_eq_true rfl) rfl rfl ?_
      refine z_aload0 554 dL_rode_553 rfl ?_
      refine z_iconst 555 dL_rode_554 rfl ?_
      refine z_pV1 558 dL_rode_555 lk_L_rode_59 (pc_count1 h) rfl (Nat.le_of_ble_eq_true rfl) (Nat.le_of_ble_eq_true rfl) (by assumption) rfl rfl (fun r0 sh0 I0 L0 R0 hpq => ?_)
      obtain ⟨rfl, rfl, h⟩ := pO hpq
      show zE X mL_rode 0 0 558 _ [zI (S 0 7)] sh _ _ _ Q
      refine z_istore12 560 dL_rode_558 (Nat.le_of_ble_eq_true rfl) rfl rfl ?_
      refine z_aload0 561 dL_rode_560 rfl ?_
      refine z_iload6 563 dL_rode_561 rfl ?_
      refine z_iconst 564 dL_rode_563 rfl ?_
      refine z_pV2 567 dL_rode_564 lk_L_rode_69 (pc_of3 h n5.2 hr) rfl (Nat.le_of_ble_eq_true rfl) (Nat.le_of_ble_eq_true rfl) (by assumption) rfl rfl (fun r0 sh0 I0 L0 R0 hpq => ?_)
      obtain ⟨rfl, rfl, h⟩ := pO hpq
      show zE X mL_rode 0 0 567 _ [zI (S 6 r)] sh _ _ _ Q
      refine z_bipush 569 dL_rode_567 (by decide) rfl ?_
      refine z_icmp_eq 581 572 dL_rode_569 (by decide) rfl (by omega) (by omega) (fun hz => absurd hz (hp)) (fun h569 => ?_)
      refine z_aload0 573 dL_rode_572 rfl ?_
      refine z_iload6 575 dL_rode_573 rfl ?_
      refine z_pV1 578 dL_rode_575 lk_L_rode_49 (pc_up h (by omega) e) rfl (Nat.le_of_ble_eq_true rfl) (Nat.le_of_ble_eq_true rfl) (by assumption) rfl rfl (fun r0 sh0 I0 L0 R0 hpq => ?_)
      obtain ⟨rfl, rfl, h⟩ := pO hpq
      refine z_if_lt 657 581 dL_rode_578 (by decide) rfl (by omega) (fun hz => absurd hz ((by omega))) (fun h578 => ?_)
      exact tl_rode581 hs hw hg h7 hr rfl rfl h kk
    · refine z_iload7 518 dL_rode_516 rfl ?_
      refine z_iload10 520 dL_rode_518 rfl ?_
      refine z_aload0 521 dL_rode_520 rfl ?_
      refine z_iload6 523 dL_rode_521 rfl ?_
      refine z_iconst 524 dL_rode_523 rfl ?_
      refine z_pV2 527 dL_rode_524 lk_L_rode_69 (pc_of2 h n5.2 hr) rfl (Nat.le_of_ble_eq_true rfl) (Nat.le_of_ble_eq_true rfl) (by assumption) rfl rfl (fun r0 sh0 I0 L0 R0 hpq => ?_)
      obtain ⟨rfl, rfl, h⟩ := pO hpq
      show zE X mL_rode 0 0 527 _ [zI (S 5 r), zI (spv (sfw S r) 10), zI (sfe S r)] sh _ _ _ Q
      refine z_iadd 528 dL_rode_527 rfl ?_
      refine z_bipush 530 dL_rode_528 (by decide) rfl ?_
      refine z_irem 531 dL_rode_530 (by omega) (by omega) rfl ?_
      refine z_icmp_ne 538 534 dL_rode_531 (by decide) rfl (by omega) (by omega) (fun hz => absurd hz ((by omega))) (fun h531 => ?_)
      refine z_iconst 535 dL_rode_534 rfl ?_
      refine z_goto 539 dL_rode_535 (by decide) ?_
      refine z_istore4 541 dL_rode_539 (Nat.le_of_ble_eq_true rfl) rfl rfl ?_
      refine z_iload4 543 dL_rode_541 rfl ?_
      refine z_if_eq 660 546 dL_rode_543 (by decide) rfl (by omega) (fun hz => absurd hz ((by omega))) (fun h543 => ?_)
      refine z_aload0 547 dL_rode_546 rfl ?_
      refine z_iconst 548 dL_rode_547 rfl ?_
      refine z_pV1 551 dL_rode_548 lk_L_rode_59 (pc_count5 h) rfl (Nat.le_of_ble_eq_true rfl) (Nat.le_of_ble_eq_true rfl) (by assumption) rfl rfl (fun r0 sh0 I0 L0 R0 hpq => ?_)
      obtain ⟨rfl, rfl, h⟩ := pO hpq
      show zE X mL_rode 0 0 551 _ [zI (rsm (S 1) 10 0 0)] sh _ _ _ Q
      refine z_istore11 553 dL_rode_551 (Nat.le_of_ble_eq_true rfl) rfl rfl ?_
      refine z_aload0 554 dL_rode_553 rfl ?_
      refine z_iconst 555 dL_rode_554 rfl ?_
      refine z_pV1 558 dL_rode_555 lk_L_rode_59 (pc_count1 h) rfl (Nat.le_of_ble_eq_true rfl) (Nat.le_of_ble_eq_true rfl) (by assumption) rfl rfl (fun r0 sh0 I0 L0 R0 hpq => ?_)
      obtain ⟨rfl, rfl, h⟩ := pO hpq
      show zE X mL_rode 0 0 558 _ [zI (S 0 7)] sh _ _ _ Q
      refine z_istore12 560 dL_rode_558 (Nat.le_of_ble_eq_true rfl) rfl rfl ?_
      refine z_aload0 561 dL_rode_560 rfl ?_
      refine z_iload6 563 dL_rode_561 rfl ?_
      refine z_iconst 564 dL_rode_563 rfl ?_
      refine z_pV2 567 dL_rode_564 lk_L_rode_69 (pc_of3 h n5.2 hr) rfl (Nat.le_of_ble_eq_true rfl) (Nat.le_of_ble_eq_true rfl) (by assumption) rfl rfl (fun r0 sh0 I0 L0 R0 hpq => ?_)
      obtain ⟨rfl, rfl, h⟩ := pO hpq
      show zE X mL_rode 0 0 567 _ [zI (S 6 r)] sh _ _ _ Q
      refine z_bipush 569 dL_rode_567 (by decide) rfl ?_
      refine z_icmp_eq 581 572 dL_rode_569 (by decide) rfl (by omega) (by omega) (fun hz => absurd hz (hp)) (fun h569 => ?_)
      refine z_aload0 573 dL_rode_572 rfl ?_
      refine z_iload6 575 dL_rode_573 rfl ?_
      refine z_pV1 578 dL_rode_575 lk_L_rode_49 (pc_up h (by omega) e) rfl (Nat.le_of_ble_eq_true rfl) (Nat.le_of_ble_eq_true rfl) (by assumption) rfl rfl (fun r0 sh0 I0 L0 R0 hpq => ?_)
      obtain ⟨rfl, rfl, h⟩ := pO hpq
      refine z_if_lt 657 581 dL_rode_578 (by decide) rfl (by omega) (fun hz => absurd hz ((by omega))) (fun h578 => ?_)
      exact tl_rode581 hs hw hg h7 hr rfl rfl h kk
theorem lp_rode266 {x f mo : Int} {c r s : Nat} {Q : zQ} (hg : gd S) (hr : (r : Int) < S 0 6) (hs10 : s ≤ 10) (hF : ∀ j, j < s → sfw S r j = sbh S j r (spv (sfw S r) j) (S 1 j) ∧ 0 < sfw S r j) (hN : ∀ j, s ≤ j → sfw S r j = -4) (he : (s = 10 ∧ 0 ≤ sfe S r ∧ sfe S r < 8) ∨ (s < 10 ∧ sfe S r = 10 + (s : Int) ∧ sbh S s r (spv (sfw S r) s) (S 1 s) ≤ 0)) (hm : -4 ≤ mo ∧ mo ≤ 30) (hfr : -4 ≤ f ∧ f ≤ 9) (hm1 : ∀ j, j < s → sfw S r j ≤ mo) (hm2 : ∀ j, j < s → (j : Int) < f → sfw S r j < mo) (hm3 : ∀ j, j < s → (j : Int) = f → sfw S r j = mo)
    (kk : ∀ (z12 z13 z14 z15 : zV) (I L : zI2) (R : zR2), pH sh J0 K0 Z0 I L R (pA S hh TS) → zE X mL_rode 0 0 504 [zR 0, zR 157, zL x, zX, zI 1, zI (c : Int), zI (r : Int), zI (sfe S r), zI f, zI mo, zI (spv (sfw S r) 10), zI 10, z12, z13, z14, z15] [] sh I L R Q) : ∀ (m t : Nat) (ah : Int) (z12 z13 z14 z15 : zV) (I L : zI2) (R : zR2), t + m = 10 → ah = spv (sfw S r) t → pH sh J0 K0 Z0 I L R (pA S hh TS) →
    zE X mL_rode 0 0 266 [zR 0, zR 157, zL x, zX, zI 1, zI (c : Int), zI (r : Int), zI (sfe S r), zI f, zI mo, zI ah, zI (t : Int), z12, z13, z14, z15] [] sh I L R Q
  | 0, t, ah, z12, z13, z14, z15, I, L, R, hm, hah, h => by
    have ht : t = 10 := by omega
    subst ht
    subst hah
    refine z_iload11 268 dL_rode_266 rfl ?_
    refine z_bipush 270 dL_rode_268 (by decide) rfl ?_
    refine z_icmp_ge 504 273 dL_rode_270 (by decide) rfl (by omega) (by omega) (fun h270 => ?_) (fun hz => absurd hz (by omega))
    exact kk _ _ _ _ _ _ _ h
  | m + 1, t, ah, z12, z13, z14, z15, I, L, R, hmt, hah, h => by
    have s0 := h.sh0
    have n5 := hg.n5
    have g1 := hg.sr.2.1 t (by omega)
    have g2 := hg.sr.2.2.1 t (by omega)
    have gs := sst_r S t n5.2
    have wt := sfw_r S r t (by omega)
    have rc := fun z12 z13 z14 z15 I L R => lp_rode266 hg hr hs10 hF hN he hm hfr hm1 hm2 hm3 kk m (t + 1) (sfw S r t) z12 z13 z14 z15 I L R (by omega) rfl
    have hap : t ≤ s → 0 < ah ∧ ah ≤ 30 := by
      intro hts
      rw [hah]
      unfold spv
      split
      · omega
      · have a1 := hF (t - 1) (by omega)
        have a2 := sfw_r S r (t - 1) (by omega)
        omega
    have gn := fun q : t ≤ s => sgn_r S r t ah hg.sr (by omega) (by omega)
    by_cases hlt : t < s
    · have b1 := hF t hlt
      have m1 := hm1 t hlt
      have m2 := hm2 t hlt
      have m3 := hm3 t hlt
      have hap2 := hap (by omega)
      have gn2 := gn (by omega)
      rw [← hah] at b1
      obtain ⟨b1, b2⟩ := b1
      unfold sbh at b1
      refine z_iload11 268 dL_rode_266 rfl ?_
      refine z_bipush 270 dL_rode_268 (by decide) rfl ?_
      refine z_icmp_ge 504 273 dL_rode_270 (by decide) rfl (by omega) (by omega) (fun hz => absurd hz (by omega)) (fun h270 => ?_)
      refine z_iload4 275 dL_rode_273 rfl ?_
      refine z_if_eq 504 278 dL_rode_275 (by decide) rfl (by omega) (fun hz => absurd hz ((by omega))) (fun h275 => ?_)
      refine z_aload0 279 dL_rode_278 rfl ?_
      refine z_iload6 281 dL_rode_279 rfl ?_
      refine z_iload11 283 dL_rode_281 rfl ?_
      refine z_pV2 286 dL_rode_283 lk_L_rode_136 (pc_speed h n5.2 hr (by omega)) rfl (Nat.le_of_ble_eq_true rfl) (Nat.le_of_ble_eq_true rfl) (by assumption) rfl rfl (fun r0 sh0 I0 L0 R0 hpq => ?_)
      obtain ⟨rfl, rfl, h⟩ := pO hpq
      show zE X mL_rode 0 0 286 _ [zI (sfw S r t)] sh _ _ _ Q
      refine z_istore12 288 dL_rode_286 (Nat.le_of_ble_eq_true rfl) rfl rfl ?_
      refine z_aload0 289 dL_rode_288 rfl ?_
      refine z_iload11 291 dL_rode_289 rfl ?_
      refine z_iconst 292 dL_rode_291 rfl ?_
      refine z_pV2 295 dL_rode_292 lk_L_rode_66 (pc_at2 h (by omega)) rfl (Nat.le_of_ble_eq_true rfl) (Nat.le_of_ble_eq_true rfl) (by assumption) rfl rfl (fun r0 sh0 I0 L0 R0 hpq => ?_)
      obtain ⟨rfl, rfl, h⟩ := pO hpq
      show zE X mL_rode 0 0 295 _ [zI (sst S t)] sh _ _ _ Q
      refine z_istore13 297 dL_rode_295 (Nat.le_of_ble_eq_true rfl) rfl rfl ?_
      refine z_iload7 299 dL_rode_297 rfl ?_
      refine z_bipush 301 dL_rode_299 (by decide) rfl ?_
      refine z_icmp_lt 314 304 dL_rode_301 (by decide) rfl (by omega) (by omega) (fun h301 => ?_) (fun h301 => ?_)
      · refine z_iconst 315 dL_rode_314 rfl ?_
        refine z_goto 319 dL_rode_315 (by decide) ?_
        refine z_istore14 321 dL_rode_319 (Nat.le_of_ble_eq_true rfl) rfl rfl ?_
        refine z_iload10 323 dL_rode_321 rfl ?_
        refine z_iload10 325 dL_rode_323 rfl ?_
        refine z_if_le 341 328 dL_rode_325 (by decide) rfl (by omega) (fun hz => absurd hz (by omega)) (fun h325 => ?_)
        refine z_aload0 329 dL_rode_328 rfl ?_
        refine z_iload6 331 dL_rode_329 rfl ?_
        refine z_iload11 333 dL_rode_331 rfl ?_
        refine z_iload10 335 dL_rode_333 rfl ?_
        refine z_pV3 338 dL_rode_335 lk_L_rode_139 (pc_gains h n5.2 hr (by omega) (by omega)) rfl (Nat.le_of_ble_eq_true rfl) (Nat.le_of_ble_eq_true rfl) (by assumption) rfl rfl (fun r0 sh0 I0 L0 R0 hpq => ?_)
        obtain ⟨rfl, rfl, h⟩ := pO hpq
        show zE X mL_rode 0 0 338 _ [zI (sgn S r t ah), zI ah] sh _ _ _ Q
        refine z_goto 342 dL_rode_338 (by decide) ?_
        refine z_iadd 343 dL_rode_342 rfl ?_
        refine z_aload0 344 dL_rode_343 rfl ?_
        refine z_iload11 346 dL_rode_344 rfl ?_
        refine z_iconst 347 dL_rode_346 rfl ?_
        refine z_pV2 350 dL_rode_347 lk_L_rode_66 (pc_at0 h (by omega)) rfl (Nat.le_of_ble_eq_true rfl) (Nat.le_of_ble_eq_true rfl) (by assumption) rfl rfl (fun r0 sh0 I0 L0 R0 hpq => ?_)
        obtain ⟨rfl, rfl, h⟩ := pO hpq
        show zE X mL_rode 0 0 350 _ [zI (S 1 t), zI (ah + sgn S r t ah)] sh _ _ _ Q
        refine z_isub 351 dL_rode_350 rfl ?_
        refine z_aload0 352 dL_rode_351 rfl ?_
        refine z_iload11 354 dL_rode_352 rfl ?_
        refine z_iconst 355 dL_rode_354 rfl ?_
        refine z_pV2 358 dL_rode_355 lk_L_rode_66 (pc_at1 h (by omega)) rfl (Nat.le_of_ble_eq_true rfl) (Nat.le_of_ble_eq_true rfl) (by assumption) rfl rfl (fun r0 sh0 I0 L0 R0 hpq => ?_)
        obtain ⟨rfl, rfl, h⟩ := pO hpq
        show zE X mL_rode 0 0 358 _ [zI (S 2 t), zI (ah + sgn S r t ah - S 1 t)] sh _ _ _ Q
        refine z_isub 359 dL_rode_358 rfl ?_
        refine z_istore15 361 dL_rode_359 (Nat.le_of_ble_eq_true rfl) rfl rfl ?_
        refine z_iload15 363 dL_rode_361 rfl ?_
        refine z_bipush 365 dL_rode_363 (by decide) rfl ?_
        refine z_icmp_le 373 368 dL_rode_365 (by decide) rfl (by omega) (by omega) (fun h365 => ?_) (fun h365 => ?_)
        · refine z_iload15 375 dL_rode_373 rfl ?_
          refine z_istore15 377 dL_rode_375 (Nat.le_of_ble_eq_true rfl) rfl rfl ?_
          refine z_iload13 379 dL_rode_377 rfl ?_
          refine z_if_lt 401 382 dL_rode_379 (by decide) rfl (by omega) (fun h379 => ?_) (fun h379 => ?_)
          · refine z_iload15 403 dL_rode_401 rfl ?_
            refine z_istore15 405 dL_rode_403 (Nat.le_of_ble_eq_true rfl) rfl rfl ?_
            refine rdR_eq (v' := sfw S r t) (by rw [b1]; (repeat' split) <;> omega) ?_
            refine z_iload14 407 dL_rode_405 rfl ?_
            refine z_if_eq 465 410 dL_rode_407 (by decide) rfl (by omega) (fun hz => absurd hz ((by omega))) (fun h407 => ?_)
            refine z_iload12 412 dL_rode_410 rfl ?_
            refine z_iload15 414 dL_rode_412 rfl ?_
            refine z_icmp_ne 461 417 dL_rode_414 (by decide) rfl (by omega) (by omega) (fun hz => absurd hz ((by omega))) (fun h414 => ?_)
            refine z_iload12 419 dL_rode_417 rfl ?_
            refine z_if_le 461 422 dL_rode_419 (by decide) rfl (by omega) (fun hz => absurd hz (by omega)) (fun h419 => ?_)
            refine z_iload12 424 dL_rode_422 rfl ?_
            refine z_iload9 426 dL_rode_424 rfl ?_
            refine z_icmp_gt 461 429 dL_rode_426 (by decide) rfl (by omega) (by omega) (fun hz => absurd hz (by omega)) (fun h426 => ?_)
            refine z_iload11 431 dL_rode_429 rfl ?_
            refine z_iload8 433 dL_rode_431 rfl ?_
            refine z_icmp_ge 443 436 dL_rode_433 (by decide) rfl (by omega) (by omega) (fun h433 => ?_) (fun h433 => ?_)
            · refine z_iload11 445 dL_rode_443 rfl ?_
              refine z_iload8 447 dL_rode_445 rfl ?_
              refine z_icmp_ne 457 450 dL_rode_447 (by decide) rfl (by omega) (by omega) (fun h447 => ?_) (fun h447 => ?_)
              · refine z_iconst 458 dL_rode_457 rfl ?_
                refine z_goto 492 dL_rode_458 (by decide) ?_
                refine z_istore4 494 dL_rode_492 (Nat.le_of_ble_eq_true rfl) rfl rfl ?_
                refine z_iload12 496 dL_rode_494 rfl ?_
                refine z_istore10 498 dL_rode_496 (Nat.le_of_ble_eq_true rfl) rfl rfl ?_
                refine z_iinc11 501 dL_rode_498 (Nat.le_of_ble_eq_true rfl) rfl rfl ?_
                refine z_goto 266 dL_rode_501 (by decide) ?_
                exact rc _ _ _ _ _ _ _ h
              · refine z_iload12 452 dL_rode_450 rfl ?_
                refine z_iload9 454 dL_rode_452 rfl ?_
                refine z_icmp_ne 461 457 dL_rode_454 (by decide) rfl (by omega) (by omega) (fun hz => absurd hz (by omega)) (fun h454 => ?_)
                refine z_iconst 458 dL_rode_457 rfl ?_
                refine z_goto 492 dL_rode_458 (by decide) ?_
                refine z_istore4 494 dL_rode_492 (Nat.le_of_ble_eq_true rfl) rfl rfl ?_
                refine z_iload12 496 dL_rode_494 rfl ?_
                refine z_istore10 498 dL_rode_496 (Nat.le_of_ble_eq_true rfl) rfl rfl ?_
                refine z_iinc11 501 dL_rode_498 (Nat.le_of_ble_eq_true rfl) rfl rfl ?_
                refine z_goto 266 dL_rode_501 (by decide) ?_
                exact rc _ _ _ _ _ _ _ h
            · refine z_iload12 438 dL_rode_436 rfl ?_
              refine z_iload9 440 dL_rode_438 rfl ?_
              refine z_icmp_ge 461 443 dL_rode_440 (by decide) rfl (by omega) (by omega) (fun hz => absurd hz (by omega)) (fun h440 => ?_)
              refine z_iload11 445 dL_rode_443 rfl ?_
              refine z_iload8 447 dL_rode_445 rfl ?_
              refine z_icmp_ne 457 450 dL_rode_447 (by decide) rfl (by omega) (by omega) (fun h447 => ?_) (fun h447 => ?_)
              · refine z_iconst 458 dL_rode_457 rfl ?_
                refine z_goto 492 dL_rode_458 (by decide) ?_
                refine z_istore4 494 dL_rode_492 (Nat.le_of_ble_eq_true rfl) rfl rfl ?_
                refine z_iload12 496 dL_rode_494 rfl ?_
                refine z_istore10 498 dL_rode_496 (Nat.le_of_ble_eq_true rfl) rfl rfl ?_
                refine z_iinc11 501 dL_rode_498 (Nat.le_of_ble_eq_true rfl) rfl rfl ?_
                refine z_goto 266 dL_rode_501 (by decide) ?_
                exact rc _ _ _ _ _ _ _ h
              · refine z_iload12 452 dL_rode_450 rfl ?_
                refine z_iload9 454 dL_rode_452 rfl ?_
                refine z_icmp_ne 461 457 dL_rode_454 (by decide) rfl (by omega) (by omega) (fun hz => absurd hz (by omega)) (fun h454 => ?_)
                refine z_iconst 458 dL_rode_457 rfl ?_
                refine z_goto 492 dL_rode_458 (by decide) ?_
                refine z_istore4 494 dL_rode_492 (Nat.le_of_ble_eq_true rfl) rfl rfl ?_
                refine z_iload12 496 dL_rode_494 rfl ?_
                refine z_istore10 498 dL_rode_496 (Nat.le_of_ble_eq_true rfl) rfl rfl ?_
                refine z_iinc11 501 dL_rode_498 (Nat.le_of_ble_eq_true rfl) rfl rfl ?_
                refine z_goto 266 dL_rode_501 (by decide) ?_
                exact rc _ _ _ _ _ _ _ h
          · refine z_iload13 384 dL_rode_382 rfl ?_
            refine z_iload6 386 dL_rode_384 rfl ?_
            refine z_icmp_eq 401 389 dL_rode_386 (by decide) rfl (by omega) (by omega) (fun h386 => ?_) (fun h386 => ?_)
            · refine z_iload15 403 dL_rode_401 rfl ?_
              refine z_istore15 405 dL_rode_403 (Nat.le_of_ble_eq_true rfl) rfl rfl ?_
              refine rdR_eq (v' := sfw S r t) (by rw [b1]; (repeat' split) <;> omega) ?_
              refine z_iload14 407 dL_rode_405 rfl ?_
              refine z_if_eq 465 410 dL_rode_407 (by decide) rfl (by omega) (fun hz => absurd hz ((by omega))) (fun h407 => ?_)
              refine z_iload12 412 dL_rode_410 rfl ?_
              refine z_iload15 414 dL_rode_412 rfl ?_
              refine z_icmp_ne 461 417 dL_rode_414 (by decide) rfl (by omega) (by omega) (fun hz => absurd hz ((by omega))) (fun h414 => ?_)
              refine z_iload12 419 dL_rode_417 rfl ?_
              refine z_if_le 461 422 dL_rode_419 (by decide) rfl (by omega) (fun hz => absurd hz (by omega)) (fun h419 => ?_)
              refine z_iload12 424 dL_rode_422 rfl ?_
              refine z_iload9 426 dL_rode_424 rfl ?_
              refine z_icmp_gt 461 429 dL_rode_426 (by decide) rfl (by omega) (by omega) (fun hz => absurd hz (by omega)) (fun h426 => ?_)
              refine z_iload11 431 dL_rode_429 rfl ?_
              refine z_iload8 433 dL_rode_431 rfl ?_
              refine z_icmp_ge 443 436 dL_rode_433 (by decide) rfl (by omega) (by omega) (fun h433 => ?_) (fun h433 => ?_)
              · refine z_iload11 445 dL_rode_443 rfl ?_
                refine z_iload8 447 dL_rode_445 rfl ?_
                refine z_icmp_ne 457 450 dL_rode_447 (by decide) rfl (by omega) (by omega) (fun h447 => ?_) (fun h447 => ?_)
                · refine z_iconst 458 dL_rode_457 rfl ?_
                  refine z_goto 492 dL_rode_458 (by decide) ?_
                  refine z_istore4 494 dL_rode_492 (Nat.le_of_ble_eq_true rfl) rfl rfl ?_
                  refine z_iload12 496 dL_rode_494 rfl ?_
                  refine z_istore10 498 dL_rode_496 (Nat.le_of_ble_eq_true rfl) rfl rfl ?_
                  refine z_iinc11 501 dL_rode_498 (Nat.le_of_ble_eq_true rfl) rfl rfl ?_
                  refine z_goto 266 dL_rode_501 (by decide) ?_
                  exact rc _ _ _ _ _ _ _ h
                · refine z_iload12 452 dL_rode_450 rfl ?_
                  refine z_iload9 454 dL_rode_452 rfl ?_
                  refine z_icmp_ne 461 457 dL_rode_454 (by decide) rfl (by omega) (by omega) (fun hz => absurd hz (by omega)) (fun h454 => ?_)
                  refine z_iconst 458 dL_rode_457 rfl ?_
                  refine z_goto 492 dL_rode_458 (by decide) ?_
                  refine z_istore4 494 dL_rode_492 (Nat.le_of_ble_eq_true rfl) rfl rfl ?_
                  refine z_iload12 496 dL_rode_494 rfl ?_
                  refine z_istore10 498 dL_rode_496 (Nat.le_of_ble_eq_true rfl) rfl rfl ?_
                  refine z_iinc11 501 dL_rode_498 (Nat.le_of_ble_eq_true rfl) rfl rfl ?_
                  refine z_goto 266 dL_rode_501 (by decide) ?_
                  exact rc _ _ _ _ _ _ _ h
              · refine z_iload12 438 dL_rode_436 rfl ?_
                refine z_iload9 440 dL_rode_438 rfl ?_
                refine z_icmp_ge 461 443 dL_rode_440 (by decide) rfl (by omega) (by omega) (fun hz => absurd hz (by omega)) (fun h440 => ?_)
                refine z_iload11 445 dL_rode_443 rfl ?_
                refine z_iload8 447 dL_rode_445 rfl ?_
                refine z_icmp_ne 457 450 dL_rode_447 (by decide) rfl (by omega) (by omega) (fun h447 => ?_) (fun h447 => ?_)
                · refine z_iconst 458 dL_rode_457 rfl ?_
                  refine z_goto 492 dL_rode_458 (by decide) ?_
                  refine z_istore4 494 dL_rode_492 (Nat.le_of_ble_eq_true rfl) rfl rfl ?_
                  refine z_iload12 496 dL_rode_494 rfl ?_
                  refine z_istore10 498 dL_rode_496 (Nat.le_of_ble_eq_true rfl) rfl rfl ?_
                  refine z_iinc11 501 dL_rode_498 (Nat.le_of_ble_eq_true rfl) rfl rfl ?_
                  refine z_goto 266 dL_rode_501 (by decide) ?_
                  exact rc _ _ _ _ _ _ _ h
                · refine z_iload12 452 dL_rode_450 rfl ?_
                  refine z_iload9 454 dL_rode_452 rfl ?_
                  refine z_icmp_ne 461 457 dL_rode_454 (by decide) rfl (by omega) (by omega) (fun hz => absurd hz (by omega)) (fun h454 => ?_)
                  refine z_iconst 458 dL_rode_457 rfl ?_
                  refine z_goto 492 dL_rode_458 (by decide) ?_
                  refine z_istore4 494 dL_rode_492 (Nat.le_of_ble_eq_true rfl) rfl rfl ?_
                  refine z_iload12 496 dL_rode_494 rfl ?_
                  refine z_istore10 498 dL_rode_496 (Nat.le_of_ble_eq_true rfl) rfl rfl ?_
                  refine z_iinc11 501 dL_rode_498 (Nat.le_of_ble_eq_true rfl) rfl rfl ?_
                  refine z_goto 266 dL_rode_501 (by decide) ?_
                  exact rc _ _ _ _ _ _ _ h
            · refine z_iload15 391 dL_rode_389 rfl ?_
              refine z_if_le 401 394 dL_rode_391 (by decide) rfl (by omega) (fun h391 => ?_) (fun h391 => ?_)
              · refine z_iload15 403 dL_rode_401 rfl ?_
                refine z_istore15 405 dL_rode_403 (Nat.le_of_ble_eq_true rfl) rfl rfl ?_
                refine rdR_eq (v' := sfw S r t) (by rw [b1]; (repeat' split) <;> omega) ?_
                refine z_iload14 407 dL_rode_405 rfl ?_
                refine z_if_eq 465 410 dL_rode_407 (by decide) rfl (by omega) (fun hz => absurd hz ((by omega))) (fun h407 => ?_)
                refine z_iload12 412 dL_rode_410 rfl ?_
                refine z_iload15 414 dL_rode_412 rfl ?_
                refine z_icmp_ne 461 417 dL_rode_414 (by decide) rfl (by omega) (by omega) (fun hz => absurd hz ((by omega))) (fun h414 => ?_)
                refine z_iload12 419 dL_rode_417 rfl ?_
                refine z_if_le 461 422 dL_rode_419 (by decide) rfl (by omega) (fun hz => absurd hz (by omega)) (fun h419 => ?_)
                refine z_iload12 424 dL_rode_422 rfl ?_
                refine z_iload9 426 dL_rode_424 rfl ?_
                refine z_icmp_gt 461 429 dL_rode_426 (by decide) rfl (by omega) (by omega) (fun hz => absurd hz (by omega)) (fun h426 => ?_)
                refine z_iload11 431 dL_rode_429 rfl ?_
                refine z_iload8 433 dL_rode_431 rfl ?_
                refine z_icmp_ge 443 436 dL_rode_433 (by decide) rfl (by omega) (by omega) (fun h433 => ?_) (fun h433 => ?_)
                · refine z_iload11 445 dL_rode_443 rfl ?_
                  refine z_iload8 447 dL_rode_445 rfl ?_
                  refine z_icmp_ne 457 450 dL_rode_447 (by decide) rfl (by omega) (by omega) (fun h447 => ?_) (fun h447 => ?_)
                  · refine z_iconst 458 dL_rode_457 rfl ?_
                    refine z_goto 492 dL_rode_458 (by decide) ?_
                    refine z_istore4 494 dL_rode_492 (Nat.le_of_ble_eq_true rfl) rfl rfl ?_
                    refine z_iload12 496 dL_rode_494 rfl ?_
                    refine z_istore10 498 dL_rode_496 (Nat.le_of_ble_eq_true rfl) rfl rfl ?_
                    refine z_iinc11 501 dL_rode_498 (Nat.le_of_ble_eq_true rfl) rfl rfl ?_
                    refine z_goto 266 dL_rode_501 (by decide) ?_
                    exact rc _ _ _ _ _ _ _ h
                  · refine z_iload12 452 dL_rode_450 rfl ?_
                    refine z_iload9 454 dL_rode_452 rfl ?_
                    refine z_icmp_ne 461 457 dL_rode_454 (by decide) rfl (by omega) (by omega) (fun hz => absurd hz (by omega)) (fun h454 => ?_)
                    refine z_iconst 458 dL_rode_457 rfl ?_
                    refine z_goto 492 dL_rode_458 (by decide) ?_
                    refine z_istore4 494 dL_rode_492 (Nat.le_of_ble_eq_true rfl) rfl rfl ?_
                    refine z_iload12 496 dL_rode_494 rfl ?_
                    refine z_istore10 498 dL_rode_496 (Nat.le_of_ble_eq_true rfl) rfl rfl ?_
                    refine z_iinc11 501 dL_rode_498 (Nat.le_of_ble_eq_true rfl) rfl rfl ?_
                    refine z_goto 266 dL_rode_501 (by decide) ?_
                    exact rc _ _ _ _ _ _ _ h
                · refine z_iload12 438 dL_rode_436 rfl ?_
                  refine z_iload9 440 dL_rode_438 rfl ?_
                  refine z_icmp_ge 461 443 dL_rode_440 (by decide) rfl (by omega) (by omega) (fun hz => absurd hz (by omega)) (fun h440 => ?_)
                  refine z_iload11 445 dL_rode_443 rfl ?_
                  refine z_iload8 447 dL_rode_445 rfl ?_
                  refine z_icmp_ne 457 450 dL_rode_447 (by decide) rfl (by omega) (by omega) (fun h447 => ?_) (fun h447 => ?_)
                  · refine z_iconst 458 dL_rode_457 rfl ?_
                    refine z_goto 492 dL_rode_458 (by decide) ?_
                    refine z_istore4 494 dL_rode_492 (Nat.le_of_ble_eq_true rfl) rfl rfl ?_
                    refine z_iload12 496 dL_rode_494 rfl ?_
                    refine z_istore10 498 dL_rode_496 (Nat.le_of_ble_eq_true rfl) rfl rfl ?_
                    refine z_iinc11 501 dL_rode_498 (Nat.le_of_ble_eq_true rfl) rfl rfl ?_
                    refine z_goto 266 dL_rode_501 (by decide) ?_
                    exact rc _ _ _ _ _ _ _ h
                  · refine z_iload12 452 dL_rode_450 rfl ?_
                    refine z_iload9 454 dL_rode_452 rfl ?_
                    refine z_icmp_ne 461 457 dL_rode_454 (by decide) rfl (by omega) (by omega) (fun hz => absurd hz (by omega)) (fun h454 => ?_)
                    refine z_iconst 458 dL_rode_457 rfl ?_
                    refine z_goto 492 dL_rode_458 (by decide) ?_
                    refine z_istore4 494 dL_rode_492 (Nat.le_of_ble_eq_true rfl) rfl rfl ?_
                    refine z_iload12 496 dL_rode_494 rfl ?_
                    refine z_istore10 498 dL_rode_496 (Nat.le_of_ble_eq_true rfl) rfl rfl ?_
                    refine z_iinc11 501 dL_rode_498 (Nat.le_of_ble_eq_true rfl) rfl rfl ?_
                    refine z_goto 266 dL_rode_501 (by decide) ?_
                    exact rc _ _ _ _ _ _ _ h
              · refine z_iload15 396 dL_rode_394 rfl ?_
                refine z_iconst 397 dL_rode_396 rfl ?_
                refine z_idiv 398 dL_rode_397 (by omega) (by omega) rfl ?_
                refine z_goto 403 dL_rode_398 (by decide) ?_
                refine z_istore15 405 dL_rode_403 (Nat.le_of_ble_eq_true rfl) rfl rfl ?_
                refine rdR_eq (v' := sfw S r t) (by rw [b1]; (repeat' split) <;> omega) ?_
                refine z_iload14 407 dL_rode_405 rfl ?_
                refine z_if_eq 465 410 dL_rode_407 (by decide) rfl (by omega) (fun hz => absurd hz ((by omega))) (fun h407 => ?_)
                refine z_iload12 412 dL_rode_410 rfl ?_
                refine z_iload15 414 dL_rode_412 rfl ?_
                refine z_icmp_ne 461 417 dL_rode_414 (by decide) rfl (by omega) (by omega) (fun hz => absurd hz ((by omega))) (fun h414 => ?_)
                refine z_iload12 419 dL_rode_417 rfl ?_
                refine z_if_le 461 422 dL_rode_419 (by decide) rfl (by omega) (fun hz => absurd hz (by omega)) (fun h419 => ?_)
                refine z_iload12 424 dL_rode_422 rfl ?_
                refine z_iload9 426 dL_rode_424 rfl ?_
                refine z_icmp_gt 461 429 dL_rode_426 (by decide) rfl (by omega) (by omega) (fun hz => absurd hz (by omega)) (fun h426 => ?_)
                refine z_iload11 431 dL_rode_429 rfl ?_
                refine z_iload8 433 dL_rode_431 rfl ?_
                refine z_icmp_ge 443 436 dL_rode_433 (by decide) rfl (by omega) (by omega) (fun h433 => ?_) (fun h433 => ?_)
                · refine z_iload11 445 dL_rode_443 rfl ?_
                  refine z_iload8 447 dL_rode_445 rfl ?_
                  refine z_icmp_ne 457 450 dL_rode_447 (by decide) rfl (by omega) (by omega) (fun h447 => ?_) (fun h447 => ?_)
                  · refine z_iconst 458 dL_rode_457 rfl ?_
                    refine z_goto 492 dL_rode_458 (by decide) ?_
                    refine z_istore4 494 dL_rode_492 (Nat.le_of_ble_eq_true rfl) rfl rfl ?_
                    refine z_iload12 496 dL_rode_494 rfl ?_
                    refine z_istore10 498 dL_rode_496 (Nat.le_of_ble_eq_true rfl) rfl rfl ?_
                    refine z_iinc11 501 dL_rode_498 (Nat.le_of_ble_eq_true rfl) rfl rfl ?_
                    refine z_goto 266 dL_rode_501 (by decide) ?_
                    exact rc _ _ _ _ _ _ _ h
                  · refine z_iload12 452 dL_rode_450 rfl ?_
                    refine z_iload9 454 dL_rode_452 rfl ?_
                    refine z_icmp_ne 461 457 dL_rode_454 (by decide) rfl (by omega) (by omega) (fun hz => absurd hz (by omega)) (fun h454 => ?_)
                    refine z_iconst 458 dL_rode_457 rfl ?_
                    refine z_goto 492 dL_rode_458 (by decide) ?_
                    refine z_istore4 494 dL_rode_492 (Nat.le_of_ble_eq_true rfl) rfl rfl ?_
                    refine z_iload12 496 dL_rode_494 rfl ?_
                    refine z_istore10 498 dL_rode_496 (Nat.le_of_ble_eq_true rfl) rfl rfl ?_
                    refine z_iinc11 501 dL_rode_498 (Nat.le_of_ble_eq_true rfl) rfl rfl ?_
                    refine z_goto 266 dL_rode_501 (by decide) ?_
                    exact rc _ _ _ _ _ _ _ h
                · refine z_iload12 438 dL_rode_436 rfl ?_
                  refine z_iload9 440 dL_rode_438 rfl ?_
                  refine z_icmp_ge 461 443 dL_rode_440 (by decide) rfl (by omega) (by omega) (fun hz => absurd hz (by omega)) (fun h440 => ?_)
                  refine z_iload11 445 dL_rode_443 rfl ?_
                  refine z_iload8 447 dL_rode_445 rfl ?_
                  refine z_icmp_ne 457 450 dL_rode_447 (by decide) rfl (by omega) (by omega) (fun h447 => ?_) (fun h447 => ?_)
                  · refine z_iconst 458 dL_rode_457 rfl ?_
                    refine z_goto 492 dL_rode_458 (by decide) ?_
                    refine z_istore4 494 dL_rode_492 (Nat.le_of_ble_eq_true rfl) rfl rfl ?_
                    refine z_iload12 496 dL_rode_494 rfl ?_
                    refine z_istore10 498 dL_rode_496 (Nat.le_of_ble_eq_true rfl) rfl rfl ?_
                    refine z_iinc11 501 dL_rode_498 (Nat.le_of_ble_eq_true rfl) rfl rfl ?_
                    refine z_goto 266 dL_rode_501 (by decide) ?_
                    exact rc _ _ _ _ _ _ _ h
                  · refine z_iload12 452 dL_rode_450 rfl ?_
                    refine z_iload9 454 dL_rode_452 rfl ?_
                    refine z_icmp_ne 461 457 dL_rode_454 (by decide) rfl (by omega) (by omega) (fun hz => absurd hz (by omega)) (fun h454 => ?_)
                    refine z_iconst 458 dL_rode_457 rfl ?_
                    refine z_goto 492 dL_rode_458 (by decide) ?_
                    refine z_istore4 494 dL_rode_492 (Nat.le_of_ble_eq_true rfl) rfl rfl ?_
                    refine z_iload12 496 dL_rode_494 rfl ?_
                    refine z_istore10 498 dL_rode_496 (Nat.le_of_ble_eq_true rfl) rfl rfl ?_
                    refine z_iinc11 501 dL_rode_498 (Nat.le_of_ble_eq_true rfl) rfl rfl ?_
                    refine z_goto 266 dL_rode_501 (by decide) ?_
                    exact rc _ _ _ _ _ _ _ h
        · refine z_bipush 370 dL_rode_368 (by decide) rfl ?_
          refine z_goto 375 dL_rode_370 (by decide) ?_
          refine z_istore15 377 dL_rode_375 (Nat.le_of_ble_eq_true rfl) rfl rfl ?_
          refine z_iload13 379 dL_rode_377 rfl ?_
          refine z_if_lt 401 382 dL_rode_379 (by decide) rfl (by omega) (fun h379 => ?_) (fun h379 => ?_)
          · refine z_iload15 403 dL_rode_401 rfl ?_
            refine z_istore15 405 dL_rode_403 (Nat.le_of_ble_eq_true rfl) rfl rfl ?_
            refine rdR_eq (v' := sfw S r t) (by rw [b1]; (repeat' split) <;> omega) ?_
            refine z_iload14 407 dL_rode_405 rfl ?_
            refine z_if_eq 465 410 dL_rode_407 (by decide) rfl (by omega) (fun hz => absurd hz ((by omega))) (fun h407 => ?_)
            refine z_iload12 412 dL_rode_410 rfl ?_
            refine z_iload15 414 dL_rode_412 rfl ?_
            refine z_icmp_ne 461 417 dL_rode_414 (by decide) rfl (by omega) (by omega) (fun hz => absurd hz ((by omega))) (fun h414 => ?_)
            refine z_iload12 419 dL_rode_417 rfl ?_
            refine z_if_le 461 422 dL_rode_419 (by decide) rfl (by omega) (fun hz => absurd hz (by omega)) (fun h419 => ?_)
            refine z_iload12 424 dL_rode_422 rfl ?_
            refine z_iload9 426 dL_rode_424 rfl ?_
            refine z_icmp_gt 461 429 dL_rode_426 (by decide) rfl (by omega) (by omega) (fun hz => absurd hz (by omega)) (fun h426 => ?_)
            refine z_iload11 431 dL_rode_429 rfl ?_
            refine z_iload8 433 dL_rode_431 rfl ?_
            refine z_icmp_ge 443 436 dL_rode_433 (by decide) rfl (by omega) (by omega) (fun h433 => ?_) (fun h433 => ?_)
            · refine z_iload11 445 dL_rode_443 rfl ?_
              refine z_iload8 447 dL_rode_445 rfl ?_
              refine z_icmp_ne 457 450 dL_rode_447 (by decide) rfl (by omega) (by omega) (fun h447 => ?_) (fun h447 => ?_)
              · refine z_iconst 458 dL_rode_457 rfl ?_
                refine z_goto 492 dL_rode_458 (by decide) ?_
                refine z_istore4 494 dL_rode_492 (Nat.le_of_ble_eq_true rfl) rfl rfl ?_
                refine z_iload12 496 dL_rode_494 rfl ?_
                refine z_istore10 498 dL_rode_496 (Nat.le_of_ble_eq_true rfl) rfl rfl ?_
                refine z_iinc11 501 dL_rode_498 (Nat.le_of_ble_eq_true rfl) rfl rfl ?_
                refine z_goto 266 dL_rode_501 (by decide) ?_
                exact rc _ _ _ _ _ _ _ h
              · refine z_iload12 452 dL_rode_450 rfl ?_
                refine z_iload9 454 dL_rode_452 rfl ?_
                refine z_icmp_ne 461 457 dL_rode_454 (by decide) rfl (by omega) (by omega) (fun hz => absurd hz (by omega)) (fun h454 => ?_)
                refine z_iconst 458 dL_rode_457 rfl ?_
                refine z_goto 492 dL_rode_458 (by decide) ?_
                refine z_istore4 494 dL_rode_492 (Nat.le_of_ble_eq_true rfl) rfl rfl ?_
                refine z_iload12 496 dL_rode_494 rfl ?_
                refine z_istore10 498 dL_rode_496 (Nat.le_of_ble_eq_true rfl) rfl rfl ?_
                refine z_iinc11 501 dL_rode_498 (Nat.le_of_ble_eq_true rfl) rfl rfl ?_
                refine z_goto 266 dL_rode_501 (by decide) ?_
                exact rc _ _ _ _ _ _ _ h
            · refine z_iload12 438 dL_rode_436 rfl ?_
              refine z_iload9 440 dL_rode_438 rfl ?_
              refine z_icmp_ge 461 443 dL_rode_440 (by decide) rfl (by omega) (by omega) (fun hz => absurd hz (by omega)) (fun h440 => ?_)
              refine z_iload11 445 dL_rode_443 rfl ?_
              refine z_iload8 447 dL_rode_445 rfl ?_
              refine z_icmp_ne 457 450 dL_rode_447 (by decide) rfl (by omega) (by omega) (fun h447 => ?_) (fun h447 => ?_)
              · refine z_iconst 458 dL_rode_457 rfl ?_
                refine z_goto 492 dL_rode_458 (by decide) ?_
                refine z_istore4 494 dL_rode_492 (Nat.le_of_ble_eq_true rfl) rfl rfl ?_
                refine z_iload12 496 dL_rode_494 rfl ?_
                refine z_istore10 498 dL_rode_496 (Nat.le_of_ble_eq_true rfl) rfl rfl ?_
                refine z_iinc11 501 dL_rode_498 (Nat.le_of_ble_eq_true rfl) rfl rfl ?_
                refine z_goto 266 dL_rode_501 (by decide) ?_
                exact rc _ _ _ _ _ _ _ h
              · refine z_iload12 452 dL_rode_450 rfl ?_
                refine z_iload9 454 dL_rode_452 rfl ?_
                refine z_icmp_ne 461 457 dL_rode_454 (by decide) rfl (by omega) (by omega) (fun hz => absurd hz (by omega)) (fun h454 => ?_)
                refine z_iconst 458 dL_rode_457 rfl ?_
                refine z_goto 492 dL_rode_458 (by decide) ?_
                refine z_istore4 494 dL_rode_492 (Nat.le_of_ble_eq_true rfl) rfl rfl ?_
                refine z_iload12 496 dL_rode_494 rfl ?_
                refine z_istore10 498 dL_rode_496 (Nat.le_of_ble_eq_true rfl) rfl rfl ?_
                refine z_iinc11 501 dL_rode_498 (Nat.le_of_ble_eq_true rfl) rfl rfl ?_
                refine z_goto 266 dL_rode_501 (by decide) ?_
                exact rc _ _ _ _ _ _ _ h
          · refine z_iload13 384 dL_rode_382 rfl ?_
            refine z_iload6 386 dL_rode_384 rfl ?_
            refine z_icmp_eq 401 389 dL_rode_386 (by decide) rfl (by omega) (by omega) (fun h386 => ?_) (fun h386 => ?_)
            · refine z_iload15 403 dL_rode_401 rfl ?_
              refine z_istore15 405 dL_rode_403 (Nat.le_of_ble_eq_true rfl) rfl rfl ?_
              refine rdR_eq (v' := sfw S r t) (by rw [b1]; (repeat' split) <;> omega) ?_
              refine z_iload14 407 dL_rode_405 rfl ?_
              refine z_if_eq 465 410 dL_rode_407 (by decide) rfl (by omega) (fun hz => absurd hz ((by omega))) (fun h407 => ?_)
              refine z_iload12 412 dL_rode_410 rfl ?_
              refine z_iload15 414 dL_rode_412 rfl ?_
              refine z_icmp_ne 461 417 dL_rode_414 (by decide) rfl (by omega) (by omega) (fun hz => absurd hz ((by omega))) (fun h414 => ?_)
              refine z_iload12 419 dL_rode_417 rfl ?_
              refine z_if_le 461 422 dL_rode_419 (by decide) rfl (by omega) (fun hz => absurd hz (by omega)) (fun h419 => ?_)
              refine z_iload12 424 dL_rode_422 rfl ?_
              refine z_iload9 426 dL_rode_424 rfl ?_
              refine z_icmp_gt 461 429 dL_rode_426 (by decide) rfl (by omega) (by omega) (fun hz => absurd hz (by omega)) (fun h426 => ?_)
              refine z_iload11 431 dL_rode_429 rfl ?_
              refine z_iload8 433 dL_rode_431 rfl ?_
              refine z_icmp_ge 443 436 dL_rode_433 (by decide) rfl (by omega) (by omega) (fun h433 => ?_) (fun h433 => ?_)
              · refine z_iload11 445 dL_rode_443 rfl ?_
                refine z_iload8 447 dL_rode_445 rfl ?_
                refine z_icmp_ne 457 450 dL_rode_447 (by decide) rfl (by omega) (by omega) (fun h447 => ?_) (fun h447 => ?_)
                · refine z_iconst 458 dL_rode_457 rfl ?_
                  refine z_goto 492 dL_rode_458 (by decide) ?_
                  refine z_istore4 494 dL_rode_492 (Nat.le_of_ble_eq_true rfl) rfl rfl ?_
                  refine z_iload12 496 dL_rode_494 rfl ?_
                  refine z_istore10 498 dL_rode_496 (Nat.le_of_ble_eq_true rfl) rfl rfl ?_
                  refine z_iinc11 501 dL_rode_498 (Nat.le_of_ble_eq_true rfl) rfl rfl ?_
                  refine z_goto 266 dL_rode_501 (by decide) ?_
                  exact rc _ _ _ _ _ _ _ h
                · refine z_iload12 452 dL_rode_450 rfl ?_
                  refine z_iload9 454 dL_rode_452 rfl ?_
                  refine z_icmp_ne 461 457 dL_rode_454 (by decide) rfl (by omega) (by omega) (fun hz => absurd hz (by omega)) (fun h454 => ?_)
                  refine z_iconst 458 dL_rode_457 rfl ?_
                  refine z_goto 492 dL_rode_458 (by decide) ?_
                  refine z_istore4 494 dL_rode_492 (Nat.le_of_ble_eq_true rfl) rfl rfl ?_
                  refine z_iload12 496 dL_rode_494 rfl ?_
                  refine z_istore10 498 dL_rode_496 (Nat.le_of_ble_eq_true rfl) rfl rfl ?_
                  refine z_iinc11 501 dL_rode_498 (Nat.le_of_ble_eq_true rfl) rfl rfl ?_
                  refine z_goto 266 dL_rode_501 (by decide) ?_
                  exact rc _ _ _ _ _ _ _ h
              · refine z_iload12 438 dL_rode_436 rfl ?_
                refine z_iload9 440 dL_rode_438 rfl ?_
                refine z_icmp_ge 461 443 dL_rode_440 (by decide) rfl (by omega) (by omega) (fun hz => absurd hz (by omega)) (fun h440 => ?_)
                refine z_iload11 445 dL_rode_443 rfl ?_
                refine z_iload8 447 dL_rode_445 rfl ?_
                refine z_icmp_ne 457 450 dL_rode_447 (by decide) rfl (by omega) (by omega) (fun h447 => ?_) (fun h447 => ?_)
                · refine z_iconst 458 dL_rode_457 rfl ?_
                  refine z_goto 492 dL_rode_458 (by decide) ?_
                  refine z_istore4 494 dL_rode_492 (Nat.le_of_ble_eq_true rfl) rfl rfl ?_
                  refine z_iload12 496 dL_rode_494 rfl ?_
                  refine z_istore10 498 dL_rode_496 (Nat.le_of_ble_eq_true rfl) rfl rfl ?_
                  refine z_iinc11 501 dL_rode_498 (Nat.le_of_ble_eq_true rfl) rfl rfl ?_
                  refine z_goto 266 dL_rode_501 (by decide) ?_
                  exact rc _ _ _ _ _ _ _ h
                · refine z_iload12 452 dL_rode_450 rfl ?_
                  refine z_iload9 454 dL_rode_452 rfl ?_
                  refine z_icmp_ne 461 457 dL_rode_454 (by decide) rfl (by omega) (by omega) (fun hz => absurd hz (by omega)) (fun h454 => ?_)
                  refine z_iconst 458 dL_rode_457 rfl ?_
                  refine z_goto 492 dL_rode_458 (by decide) ?_
                  refine z_istore4 494 dL_rode_492 (Nat.le_of_ble_eq_true rfl) rfl rfl ?_
                  refine z_iload12 496 dL_rode_494 rfl ?_
                  refine z_istore10 498 dL_rode_496 (Nat.le_of_ble_eq_true rfl) rfl rfl ?_
                  refine z_iinc11 501 dL_rode_498 (Nat.le_of_ble_eq_true rfl) rfl rfl ?_
                  refine z_goto 266 dL_rode_501 (by decide) ?_
                  exact rc _ _ _ _ _ _ _ h
            · refine z_iload15 391 dL_rode_389 rfl ?_
              refine z_if_le 401 394 dL_rode_391 (by decide) rfl (by omega) (fun hz => absurd hz (by omega)) (fun h391 => ?_)
              refine z_iload15 396 dL_rode_394 rfl ?_
              refine z_iconst 397 dL_rode_396 rfl ?_
              refine z_idiv 398 dL_rode_397 (by omega) (by omega) rfl ?_
              refine z_goto 403 dL_rode_398 (by decide) ?_
              refine z_istore15 405 dL_rode_403 (Nat.le_of_ble_eq_true rfl) rfl rfl ?_
              refine rdR_eq (v' := sfw S r t) (by rw [b1]; (repeat' split) <;> omega) ?_
              refine z_iload14 407 dL_rode_405 rfl ?_
              refine z_if_eq 465 410 dL_rode_407 (by decide) rfl (by omega) (fun hz => absurd hz ((by omega))) (fun h407 => ?_)
              refine z_iload12 412 dL_rode_410 rfl ?_
              refine z_iload15 414 dL_rode_412 rfl ?_
              refine z_icmp_ne 461 417 dL_rode_414 (by decide) rfl (by omega) (by omega) (fun hz => absurd hz ((by omega))) (fun h414 => ?_)
              refine z_iload12 419 dL_rode_417 rfl ?_
              refine z_if_le 461 422 dL_rode_419 (by decide) rfl (by omega) (fun hz => absurd hz (by omega)) (fun h419 => ?_)
              refine z_iload12 424 dL_rode_422 rfl ?_
              refine z_iload9 426 dL_rode_424 rfl ?_
              refine z_icmp_gt 461 429 dL_rode_426 (by decide) rfl (by omega) (by omega) (fun hz => absurd hz (by omega)) (fun h426 => ?_)
              refine z_iload11 431 dL_rode_429 rfl ?_
              refine z_iload8 433 dL_rode_431 rfl ?_
              refine z_icmp_ge 443 436 dL_rode_433 (by decide) rfl (by omega) (by omega) (fun h433 => ?_) (fun h433 => ?_)
              · refine z_iload11 445 dL_rode_443 rfl ?_
                refine z_iload8 447 dL_rode_445 rfl ?_
                refine z_icmp_ne 457 450 dL_rode_447 (by decide) rfl (by omega) (by omega) (fun h447 => ?_) (fun h447 => ?_)
                · refine z_iconst 458 dL_rode_457 rfl ?_
                  refine z_goto 492 dL_rode_458 (by decide) ?_
                  refine z_istore4 494 dL_rode_492 (Nat.le_of_ble_eq_true rfl) rfl rfl ?_
                  refine z_iload12 496 dL_rode_494 rfl ?_
                  refine z_istore10 498 dL_rode_496 (Nat.le_of_ble_eq_true rfl) rfl rfl ?_
                  refine z_iinc11 501 dL_rode_498 (Nat.le_of_ble_eq_true rfl) rfl rfl ?_
                  refine z_goto 266 dL_rode_501 (by decide) ?_
                  exact rc _ _ _ _ _ _ _ h
                · refine z_iload12 452 dL_rode_450 rfl ?_
                  refine z_iload9 454 dL_rode_452 rfl ?_
                  refine z_icmp_ne 461 457 dL_rode_454 (by decide) rfl (by omega) (by omega) (fun hz => absurd hz (by omega)) (fun h454 => ?_)
                  refine z_iconst 458 dL_rode_457 rfl ?_
                  refine z_goto 492 dL_rode_458 (by decide) ?_
                  refine z_istore4 494 dL_rode_492 (Nat.le_of_ble_eq_true rfl) rfl rfl ?_
                  refine z_iload12 496 dL_rode_494 rfl ?_
                  refine z_istore10 498 dL_rode_496 (Nat.le_of_ble_eq_true rfl) rfl rfl ?_
                  refine z_iinc11 501 dL_rode_498 (Nat.le_of_ble_eq_true rfl) rfl rfl ?_
                  refine z_goto 266 dL_rode_501 (by decide) ?_
                  exact rc _ _ _ _ _ _ _ h
              · refine z_iload12 438 dL_rode_436 rfl ?_
                refine z_iload9 440 dL_rode_438 rfl ?_
                refine z_icmp_ge 461 443 dL_rode_440 (by decide) rfl (by omega) (by omega) (fun hz => absurd hz (by omega)) (fun h440 => ?_)
                refine z_iload11 445 dL_rode_443 rfl ?_
                refine z_iload8 447 dL_rode_445 rfl ?_
                refine z_icmp_ne 457 450 dL_rode_447 (by decide) rfl (by omega) (by omega) (fun h447 => ?_) (fun h447 => ?_)
                · refine z_iconst 458 dL_rode_457 rfl ?_
                  refine z_goto 492 dL_rode_458 (by decide) ?_
                  refine z_istore4 494 dL_rode_492 (Nat.le_of_ble_eq_true rfl) rfl rfl ?_
                  refine z_iload12 496 dL_rode_494 rfl ?_
                  refine z_istore10 498 dL_rode_496 (Nat.le_of_ble_eq_true rfl) rfl rfl ?_
                  refine z_iinc11 501 dL_rode_498 (Nat.le_of_ble_eq_true rfl) rfl rfl ?_
                  refine z_goto 266 dL_rode_501 (by decide) ?_
                  exact rc _ _ _ _ _ _ _ h
                · refine z_iload12 452 dL_rode_450 rfl ?_
                  refine z_iload9 454 dL_rode_452 rfl ?_
                  refine z_icmp_ne 461 457 dL_rode_454 (by decide) rfl (by omega) (by omega) (fun hz => absurd hz (by omega)) (fun h454 => ?_)
                  refine z_iconst 458 dL_rode_457 rfl ?_
                  refine z_goto 492 dL_rode_458 (by decide) ?_
                  refine z_istore4 494 dL_rode_492 (Nat.le_of_ble_eq_true rfl) rfl rfl ?_
                  refine z_iload12 496 dL_rode_494 rfl ?_
                  refine z_istore10 498 dL_rode_496 (Nat.le_of_ble_eq_true rfl) rfl rfl ?_
                  refine z_iinc11 501 dL_rode_498 (Nat.le_of_ble_eq_true rfl) rfl rfl ?_
                  refine z_goto 266 dL_rode_501 (by decide) ?_
                  exact rc _ _ _ _ _ _ _ h
      · refine z_iload11 306 dL_rode_304 rfl ?_
        refine z_iload7 308 dL_rode_306 rfl ?_
        refine z_bipush 310 dL_rode_308 (by decide) rfl ?_
        refine z_isub 311 dL_rode_310 rfl ?_
        refine z_icmp_ge 318 314 dL_rode_311 (by decide) rfl (by omega) (by omega) (fun hz => absurd hz (by omega)) (fun h311 => ?_)
        refine z_iconst 315 dL_rode_314 rfl ?_
        refine z_goto 319 dL_rode_315 (by decide) ?_
        refine z_istore14 321 dL_rode_319 (Nat.le_of_ble_eq_true rfl) rfl rfl ?_
        refine z_iload10 323 dL_rode_321 rfl ?_
        refine z_iload10 325 dL_rode_323 rfl ?_
        refine z_if_le 341 328 dL_rode_325 (by decide) rfl (by omega) (fun hz => absurd hz (by omega)) (fun h325 => ?_)
        refine z_aload0 329 dL_rode_328 rfl ?_
        refine z_iload6 331 dL_rode_329 rfl ?_
        refine z_iload11 333 dL_rode_331 rfl ?_
        refine z_iload10 335 dL_rode_333 rfl ?_
        refine z_pV3 338 dL_rode_335 lk_L_rode_139 (pc_gains h n5.2 hr (by omega) (by omega)) rfl (Nat.le_of_ble_eq_true rfl) (Nat.le_of_ble_eq_true rfl) (by assumption) rfl rfl (fun r0 sh0 I0 L0 R0 hpq => ?_)
        obtain ⟨rfl, rfl, h⟩ := pO hpq
        show zE X mL_rode 0 0 338 _ [zI (sgn S r t ah), zI ah] sh _ _ _ Q
        refine z_goto 342 dL_rode_338 (by decide) ?_
        refine z_iadd 343 dL_rode_342 rfl ?_
        refine z_aload0 344 dL_rode_343 rfl ?_
        refine z_iload11 346 dL_rode_344 rfl ?_
        refine z_iconst 347 dL_rode_346 rfl ?_
        refine z_pV2 350 dL_rode_347 lk_L_rode_66 (pc_at0 h (by omega)) rfl (Nat.le_of_ble_eq_true rfl) (Nat.le_of_ble_eq_true rfl) (by assumption) rfl rfl (fun r0 sh0 I0 L0 R0 hpq => ?_)
        obtain ⟨rfl, rfl, h⟩ := pO hpq
        show zE X mL_rode 0 0 350 _ [zI (S 1 t), zI (ah + sgn S r t ah)] sh _ _ _ Q
        refine z_isub 351 dL_rode_350 rfl ?_
        refine z_aload0 352 dL_rode_351 rfl ?_
        refine z_iload11 354 dL_rode_352 rfl ?_
        refine z_iconst 355 dL_rode_354 rfl ?_
        refine z_pV2 358 dL_rode_355 lk_L_rode_66 (pc_at1 h (by omega)) rfl (Nat.le_of_ble_eq_true rfl) (Nat.le_of_ble_eq_true rfl) (by assumption) rfl rfl (fun r0 sh0 I0 L0 R0 hpq => ?_)
        obtain ⟨rfl, rfl, h⟩ := pO hpq
        show zE X mL_rode 0 0 358 _ [zI (S 2 t), zI (ah + sgn S r t ah - S 1 t)] sh _ _ _ Q
        refine z_isub 359 dL_rode_358 rfl ?_
        refine z_istore15 361 dL_rode_359 (Nat.le_of_ble_eq_true rfl) rfl rfl ?_
        refine z_iload15 363 dL_rode_361 rfl ?_
        refine z_bipush 365 dL_rode_363 (by decide) rfl ?_
        refine z_icmp_le 373 368 dL_rode_365 (by decide) rfl (by omega) (by omega) (fun h365 => ?_) (fun h365 => ?_)
        · refine z_iload15 375 dL_rode_373 rfl ?_
          refine z_istore15 377 dL_rode_375 (Nat.le_of_ble_eq_true rfl) rfl rfl ?_
          refine z_iload13 379 dL_rode_377 rfl ?_
          refine z_if_lt 401 382 dL_rode_379 (by decide) rfl (by omega) (fun h379 => ?_) (fun h379 => ?_)
          · refine z_iload15 403 dL_rode_401 rfl ?_
            refine z_istore15 405 dL_rode_403 (Nat.le_of_ble_eq_true rfl) rfl rfl ?_
            refine rdR_eq (v' := sfw S r t) (by rw [b1]; (repeat' split) <;> omega) ?_
            refine z_iload14 407 dL_rode_405 rfl ?_
            refine z_if_eq 465 410 dL_rode_407 (by decide) rfl (by omega) (fun hz => absurd hz ((by omega))) (fun h407 => ?_)
            refine z_iload12 412 dL_rode_410 rfl ?_
            refine z_iload15 414 dL_rode_412 rfl ?_
            refine z_icmp_ne 461 417 dL_rode_414 (by decide) rfl (by omega) (by omega) (fun hz => absurd hz ((by omega))) (fun h414 => ?_)
            refine z_iload12 419 dL_rode_417 rfl ?_
            refine z_if_le 461 422 dL_rode_419 (by decide) rfl (by omega) (fun hz => absurd hz (by omega)) (fun h419 => ?_)
            refine z_iload12 424 dL_rode_422 rfl ?_
            refine z_iload9 426 dL_rode_424 rfl ?_
            refine z_icmp_gt 461 429 dL_rode_426 (by decide) rfl (by omega) (by omega) (fun hz => absurd hz (by omega)) (fun h426 => ?_)
            refine z_iload11 431 dL_rode_429 rfl ?_
            refine z_iload8 433 dL_rode_431 rfl ?_
            refine z_icmp_ge 443 436 dL_rode_433 (by decide) rfl (by omega) (by omega) (fun h433 => ?_) (fun h433 => ?_)
            · refine z_iload11 445 dL_rode_443 rfl ?_
              refine z_iload8 447 dL_rode_445 rfl ?_
              refine z_icmp_ne 457 450 dL_rode_447 (by decide) rfl (by omega) (by omega) (fun h447 => ?_) (fun h447 => ?_)
              · refine z_iconst 458 dL_rode_457 rfl ?_
                refine z_goto 492 dL_rode_458 (by decide) ?_
                refine z_istore4 494 dL_rode_492 (Nat.le_of_ble_eq_true rfl) rfl rfl ?_
                refine z_iload12 496 dL_rode_494 rfl ?_
                refine z_istore10 498 dL_rode_496 (Nat.le_of_ble_eq_true rfl) rfl rfl ?_
                refine z_iinc11 501 dL_rode_498 (Nat.le_of_ble_eq_true rfl) rfl rfl ?_
                refine z_goto 266 dL_rode_501 (by decide) ?_
                exact rc _ _ _ _ _ _ _ h
              · refine z_iload12 452 dL_rode_450 rfl ?_
                refine z_iload9 454 dL_rode_452 rfl ?_
                refine z_icmp_ne 461 457 dL_rode_454 (by decide) rfl (by omega) (by omega) (fun hz => absurd hz (by omega)) (fun h454 => ?_)
                refine z_iconst 458 dL_rode_457 rfl ?_
                refine z_goto 492 dL_rode_458 (by decide) ?_
                refine z_istore4 494 dL_rode_492 (Nat.le_of_ble_eq_true rfl) rfl rfl ?_
                refine z_iload12 496 dL_rode_494 rfl ?_
                refine z_istore10 498 dL_rode_496 (Nat.le_of_ble_eq_true rfl) rfl rfl ?_
                refine z_iinc11 501 dL_rode_498 (Nat.le_of_ble_eq_true rfl) rfl rfl ?_
                refine z_goto 266 dL_rode_501 (by decide) ?_
                exact rc _ _ _ _ _ _ _ h
            · refine z_iload12 438 dL_rode_436 rfl ?_
              refine z_iload9 440 dL_rode_438 rfl ?_
              refine z_icmp_ge 461 443 dL_rode_440 (by decide) rfl (by omega) (by omega) (fun hz => absurd hz (by omega)) (fun h440 => ?_)
              refine z_iload11 445 dL_rode_443 rfl ?_
              refine z_iload8 447 dL_rode_445 rfl ?_
              refine z_icmp_ne 457 450 dL_rode_447 (by decide) rfl (by omega) (by omega) (fun h447 => ?_) (fun h447 => ?_)
              · refine z_iconst 458 dL_rode_457 rfl ?_
                refine z_goto 492 dL_rode_458 (by decide) ?_
                refine z_istore4 494 dL_rode_492 (Nat.le_of_ble_eq_true rfl) rfl rfl ?_
                refine z_iload12 496 dL_rode_494 rfl ?_
                refine z_istore10 498 dL_rode_496 (Nat.le_of_ble_eq_true rfl) rfl rfl ?_
                refine z_iinc11 501 dL_rode_498 (Nat.le_of_ble_eq_true rfl) rfl rfl ?_
                refine z_goto 266 dL_rode_501 (by decide) ?_
                exact rc _ _ _ _ _ _ _ h
              · refine z_iload12 452 dL_rode_450 rfl ?_
                refine z_iload9 454 dL_rode_452 rfl ?_
                refine z_icmp_ne 461 457 dL_rode_454 (by decide) rfl (by omega) (by omega) (fun hz => absurd hz (by omega)) (fun h454 => ?_)
                refine z_iconst 458 dL_rode_457 rfl ?_
                refine z_goto 492 dL_rode_458 (by decide) ?_
                refine z_istore4 494 dL_rode_492 (Nat.le_of_ble_eq_true rfl) rfl rfl ?_
                refine z_iload12 496 dL_rode_494 rfl ?_
                refine z_istore10 498 dL_rode_496 (Nat.le_of_ble_eq_true rfl) rfl rfl ?_
                refine z_iinc11 501 dL_rode_498 (Nat.le_of_ble_eq_true rfl) rfl rfl ?_
                refine z_goto 266 dL_rode_501 (by decide) ?_
                exact rc _ _ _ _ _ _ _ h
          · refine z_iload13 384 dL_rode_382 rfl ?_
            refine z_iload6 386 dL_rode_384 rfl ?_
            refine z_icmp_eq 401 389 dL_rode_386 (by decide) rfl (by omega) (by omega) (fun h386 => ?_) (fun h386 => ?_)
            · refine z_iload15 403 dL_rode_401 rfl ?_
              refine z_istore15 405 dL_rode_403 (Nat.le_of_ble_eq_true rfl) rfl rfl ?_
              refine rdR_eq (v' := sfw S r t) (by rw [b1]; (repeat' split) <;> omega) ?_
              refine z_iload14 407 dL_rode_405 rfl ?_
              refine z_if_eq 465 410 dL_rode_407 (by decide) rfl (by omega) (fun hz => absurd hz ((by omega))) (fun h407 => ?_)
              refine z_iload12 412 dL_rode_410 rfl ?_
              refine z_iload15 414 dL_rode_412 rfl ?_
              refine z_icmp_ne 461 417 dL_rode_414 (by decide) rfl (by omega) (by omega) (fun hz => absurd hz ((by omega))) (fun h414 => ?_)
              refine z_iload12 419 dL_rode_417 rfl ?_
              refine z_if_le 461 422 dL_rode_419 (by decide) rfl (by omega) (fun hz => absurd hz (by omega)) (fun h419 => ?_)
              refine z_iload12 424 dL_rode_422 rfl ?_
              refine z_iload9 426 dL_rode_424 rfl ?_
              refine z_icmp_gt 461 429 dL_rode_426 (by decide) rfl (by omega) (by omega) (fun hz => absurd hz (by omega)) (fun h426 => ?_)
              refine z_iload11 431 dL_rode_429 rfl ?_
              refine z_iload8 433 dL_rode_431 rfl ?_
              refine z_icmp_ge 443 436 dL_rode_433 (by decide) rfl (by omega) (by omega) (fun h433 => ?_) (fun h433 => ?_)
              · refine z_iload11 445 dL_rode_443 rfl ?_
                refine z_iload8 447 dL_rode_445 rfl ?_
                refine z_icmp_ne 457 450 dL_rode_447 (by decide) rfl (by omega) (by omega) (fun h447 => ?_) (fun h447 => ?_)
                · refine z_iconst 458 dL_rode_457 rfl ?_
                  refine z_goto 492 dL_rode_458 (by decide) ?_
                  refine z_istore4 494 dL_rode_492 (Nat.le_of_ble_eq_true rfl) rfl rfl ?_
                  refine z_iload12 496 dL_rode_494 rfl ?_
                  refine z_istore10 498 dL_rode_496 (Nat.le_of_ble_eq_true rfl) rfl rfl ?_
                  refine z_iinc11 501 dL_rode_498 (Nat.le_of_ble_eq_true rfl) rfl rfl ?_
                  refine z_goto 266 dL_rode_501 (by decide) ?_
                  exact rc _ _ _ _ _ _ _ h
                · refine z_iload12 452 dL_rode_450 rfl ?_
                  refine z_iload9 454 dL_rode_452 rfl ?_
                  refine z_icmp_ne 461 457 dL_rode_454 (by decide) rfl (by omega) (by omega) (fun hz => absurd hz (by omega)) (fun h454 => ?_)
                  refine z_iconst 458 dL_rode_457 rfl ?_
                  refine z_goto 492 dL_rode_458 (by decide) ?_
                  refine z_istore4 494 dL_rode_492 (Nat.le_of_ble_eq_true rfl) rfl rfl ?_
                  refine z_iload12 496 dL_rode_494 rfl ?_
                  refine z_istore10 498 dL_rode_496 (Nat.le_of_ble_eq_true rfl) rfl rfl ?_
                  refine z_iinc11 501 dL_rode_498 (Nat.le_of_ble_eq_true rfl) rfl rfl ?_
                  refine z_goto 266 dL_rode_501 (by decide) ?_
                  exact rc _ _ _ _ _ _ _ h
              · refine z_iload12 438 dL_rode_436 rfl ?_
                refine z_iload9 440 dL_rode_438 rfl ?_
                refine z_icmp_ge 461 443 dL_rode_440 (by decide) rfl (by omega) (by omega) (fun hz => absurd hz (by omega)) (fun h440 => ?_)
                refine z_iload11 445 dL_rode_443 rfl ?_
                refine z_iload8 447 dL_rode_445 rfl ?_
                refine z_icmp_ne 457 450 dL_rode_447 (by decide) rfl (by omega) (by omega) (fun h447 => ?_) (fun h447 => ?_)
                · refine z_iconst 458 dL_rode_457 rfl ?_
                  refine z_goto 492 dL_rode_458 (by decide) ?_
                  refine z_istore4 494 dL_rode_492 (Nat.le_of_ble_eq_true rfl) rfl rfl ?_
                  refine z_iload12 496 dL_rode_494 rfl ?_
                  refine z_istore10 498 dL_rode_496 (Nat.le_of_ble_eq_true rfl) rfl rfl ?_
                  refine z_iinc11 501 dL_rode_498 (Nat.le_of_ble_eq_true rfl) rfl rfl ?_
                  refine z_goto 266 dL_rode_501 (by decide) ?_
                  exact rc _ _ _ _ _ _ _ h
                · refine z_iload12 452 dL_rode_450 rfl ?_
                  refine z_iload9 454 dL_rode_452 rfl ?_
                  refine z_icmp_ne 461 457 dL_rode_454 (by decide) rfl (by omega) (by omega) (fun hz => absurd hz (by omega)) (fun h454 => ?_)
                  refine z_iconst 458 dL_rode_457 rfl ?_
                  refine z_goto 492 dL_rode_458 (by decide) ?_
                  refine z_istore4 494 dL_rode_492 (Nat.le_of_ble_eq_true rfl) rfl rfl ?_
                  refine z_iload12 496 dL_rode_494 rfl ?_
                  refine z_istore10 498 dL_rode_496 (Nat.le_of_ble_eq_true rfl) rfl rfl ?_
                  refine z_iinc11 501 dL_rode_498 (Nat.le_of_ble_eq_true rfl) rfl rfl ?_
                  refine z_goto 266 dL_rode_501 (by decide) ?_
                  exact rc _ _ _ _ _ _ _ h
            · refine z_iload15 391 dL_rode_389 rfl ?_
              refine z_if_le 401 394 dL_rode_391 (by decide) rfl (by omega) (fun h391 => ?_) (fun h391 => ?_)
              · refine z_iload15 403 dL_rode_401 rfl ?_
                refine z_istore15 405 dL_rode_403 (Nat.le_of_ble_eq_true rfl) rfl rfl ?_
                refine rdR_eq (v' := sfw S r t) (by rw [b1]; (repeat' split) <;> omega) ?_
                refine z_iload14 407 dL_rode_405 rfl ?_
                refine z_if_eq 465 410 dL_rode_407 (by decide) rfl (by omega) (fun hz => absurd hz ((by omega))) (fun h407 => ?_)
                refine z_iload12 412 dL_rode_410 rfl ?_
                refine z_iload15 414 dL_rode_412 rfl ?_
                refine z_icmp_ne 461 417 dL_rode_414 (by decide) rfl (by omega) (by omega) (fun hz => absurd hz ((by omega))) (fun h414 => ?_)
                refine z_iload12 419 dL_rode_417 rfl ?_
                refine z_if_le 461 422 dL_rode_419 (by decide) rfl (by omega) (fun hz => absurd hz (by omega)) (fun h419 => ?_)
                refine z_iload12 424 dL_rode_422 rfl ?_
                refine z_iload9 426 dL_rode_424 rfl ?_
                refine z_icmp_gt 461 429 dL_rode_426 (by decide) rfl (by omega) (by omega) (fun hz => absurd hz (by omega)) (fun h426 => ?_)
                refine z_iload11 431 dL_rode_429 rfl ?_
                refine z_iload8 433 dL_rode_431 rfl ?_
                refine z_icmp_ge 443 436 dL_rode_433 (by decide) rfl (by omega) (by omega) (fun h433 => ?_) (fun h433 => ?_)
                · refine z_iload11 445 dL_rode_443 rfl ?_
                  refine z_iload8 447 dL_rode_445 rfl ?_
                  refine z_icmp_ne 457 450 dL_rode_447 (by decide) rfl (by omega) (by omega) (fun h447 => ?_) (fun h447 => ?_)
                  · refine z_iconst 458 dL_rode_457 rfl ?_
                    refine z_goto 492 dL_rode_458 (by decide) ?_
                    refine z_istore4 494 dL_rode_492 (Nat.le_of_ble_eq_true rfl) rfl rfl ?_
                    refine z_iload12 496 dL_rode_494 rfl ?_
                    refine z_istore10 498 dL_rode_496 (Nat.le_of_ble_eq_true rfl) rfl rfl ?_
                    refine z_iinc11 501 dL_rode_498 (Nat.le_of_ble_eq_true rfl) rfl rfl ?_
                    refine z_goto 266 dL_rode_501 (by decide) ?_
                    exact rc _ _ _ _ _ _ _ h
                  · refine z_iload12 452 dL_rode_450 rfl ?_
                    refine z_iload9 454 dL_rode_452 rfl ?_
                    refine z_icmp_ne 461 457 dL_rode_454 (by decide) rfl (by omega) (by omega) (fun hz => absurd hz (by omega)) (fun h454 => ?_)
                    refine z_iconst 458 dL_rode_457 rfl ?_
                    refine z_goto 492 dL_rode_458 (by decide) ?_
                    refine z_istore4 494 dL_rode_492 (Nat.le_of_ble_eq_true rfl) rfl rfl ?_
                    refine z_iload12 496 dL_rode_494 rfl ?_
                    refine z_istore10 498 dL_rode_496 (Nat.le_of_ble_eq_true rfl) rfl rfl ?_
                    refine z_iinc11 501 dL_rode_498 (Nat.le_of_ble_eq_true rfl) rfl rfl ?_
                    refine z_goto 266 dL_rode_501 (by decide) ?_
                    exact rc _ _ _ _ _ _ _ h
                · refine z_iload12 438 dL_rode_436 rfl ?_
                  refine z_iload9 440 dL_rode_438 rfl ?_
                  refine z_icmp_ge 461 443 dL_rode_440 (by decide) rfl (by omega) (by omega) (fun hz => absurd hz (by omega)) (fun h440 => ?_)
                  refine z_iload11 445 dL_rode_443 rfl ?_
                  refine z_iload8 447 dL_rode_445 rfl ?_
                  refine z_icmp_ne 457 450 dL_rode_447 (by decide) rfl (by omega) (by omega) (fun h447 => ?_) (fun h447 => ?_)
                  · refine z_iconst 458 dL_rode_457 rfl ?_
                    refine z_goto 492 dL_rode_458 (by decide) ?_
                    refine z_istore4 494 dL_rode_492 (Nat.le_of_ble_eq_true rfl) rfl rfl ?_
                    refine z_iload12 496 dL_rode_494 rfl ?_
                    refine z_istore10 498 dL_rode_496 (Nat.le_of_ble_eq_true rfl) rfl rfl ?_
                    refine z_iinc11 501 dL_rode_498 (Nat.le_of_ble_eq_true rfl) rfl rfl ?_
                    refine z_goto 266 dL_rode_501 (by decide) ?_
                    exact rc _ _ _ _ _ _ _ h
                  · refine z_iload12 452 dL_rode_450 rfl ?_
                    refine z_iload9 454 dL_rode_452 rfl ?_
                    refine z_icmp_ne 461 457 dL_rode_454 (by decide) rfl (by omega) (by omega) (fun hz => absurd hz (by omega)) (fun h454 => ?_)
                    refine z_iconst 458 dL_rode_457 rfl ?_
                    refine z_goto 492 dL_rode_458 (by decide) ?_
                    refine z_istore4 494 dL_rode_492 (Nat.le_of_ble_eq_true rfl) rfl rfl ?_
                    refine z_iload12 496 dL_rode_494 rfl ?_
                    refine z_istore10 498 dL_rode_496 (Nat.le_of_ble_eq_true rfl) rfl rfl ?_
                    refine z_iinc11 501 dL_rode_498 (Nat.le_of_ble_eq_true rfl) rfl rfl ?_
                    refine z_goto 266 dL_rode_501 (by decide) ?_
                    exact rc _ _ _ _ _ _ _ h
              · refine z_iload15 396 dL_rode_394 rfl ?_
                refine z_iconst 397 dL_rode_396 rfl ?_
                refine z_idiv 398 dL_rode_397 (by omega) (by omega) rfl ?_
                refine z_goto 403 dL_rode_398 (by decide) ?_
                refine z_istore15 405 dL_rode_403 (Nat.le_of_ble_eq_true rfl) rfl rfl ?_
                refine rdR_eq (v' := sfw S r t) (by rw [b1]; (repeat' split) <;> omega) ?_
                refine z_iload14 407 dL_rode_405 rfl ?_
                refine z_if_eq 465 410 dL_rode_407 (by decide) rfl (by omega) (fun hz => absurd hz ((by omega))) (fun h407 => ?_)
                refine z_iload12 412 dL_rode_410 rfl ?_
                refine z_iload15 414 dL_rode_412 rfl ?_
                refine z_icmp_ne 461 417 dL_rode_414 (by decide) rfl (by omega) (by omega) (fun hz => absurd hz ((by omega))) (fun h414 => ?_)
                refine z_iload12 419 dL_rode_417 rfl ?_
                refine z_if_le 461 422 dL_rode_419 (by decide) rfl (by omega) (fun hz => absurd hz (by omega)) (fun h419 => ?_)
                refine z_iload12 424 dL_rode_422 rfl ?_
                refine z_iload9 426 dL_rode_424 rfl ?_
                refine z_icmp_gt 461 429 dL_rode_426 (by decide) rfl (by omega) (by omega) (fun hz => absurd hz (by omega)) (fun h426 => ?_)
                refine z_iload11 431 dL_rode_429 rfl ?_
                refine z_iload8 433 dL_rode_431 rfl ?_
                refine z_icmp_ge 443 436 dL_rode_433 (by decide) rfl (by omega) (by omega) (fun h433 => ?_) (fun h433 => ?_)
                · refine z_iload11 445 dL_rode_443 rfl ?_
                  refine z_iload8 447 dL_rode_445 rfl ?_
                  refine z_icmp_ne 457 450 dL_rode_447 (by decide) rfl (by omega) (by omega) (fun h447 => ?_) (fun h447 => ?_)
                  · refine z_iconst 458 dL_rode_457 rfl ?_
                    refine z_goto 492 dL_rode_458 (by decide) ?_
                    refine z_istore4 494 dL_rode_492 (Nat.le_of_ble_eq_true rfl) rfl rfl ?_
                    refine z_iload12 496 dL_rode_494 rfl ?_
                    refine z_istore10 498 dL_rode_496 (Nat.le_of_ble_eq_true rfl) rfl rfl ?_
                    refine z_iinc11 501 dL_rode_498 (Nat.le_of_ble_eq_true rfl) rfl rfl ?_
                    refine z_goto 266 dL_rode_501 (by decide) ?_
                    exact rc _ _ _ _ _ _ _ h
                  · refine z_iload12 452 dL_rode_450 rfl ?_
                    refine z_iload9 454 dL_rode_452 rfl ?_
                    refine z_icmp_ne 461 457 dL_rode_454 (by decide) rfl (by omega) (by omega) (fun hz => absurd hz (by omega)) (fun h454 => ?_)
                    refine z_iconst 458 dL_rode_457 rfl ?_
                    refine z_goto 492 dL_rode_458 (by decide) ?_
                    refine z_istore4 494 dL_rode_492 (Nat.le_of_ble_eq_true rfl) rfl rfl ?_
                    refine z_iload12 496 dL_rode_494 rfl ?_
                    refine z_istore10 498 dL_rode_496 (Nat.le_of_ble_eq_true rfl) rfl rfl ?_
                    refine z_iinc11 501 dL_rode_498 (Nat.le_of_ble_eq_true rfl) rfl rfl ?_
                    refine z_goto 266 dL_rode_501 (by decide) ?_
                    exact rc _ _ _ _ _ _ _ h
                · refine z_iload12 438 dL_rode_436 rfl ?_
                  refine z_iload9 440 dL_rode_438 rfl ?_
                  refine z_icmp_ge 461 443 dL_rode_440 (by decide) rfl (by omega) (by omega) (fun hz => absurd hz (by omega)) (fun h440 => ?_)
                  refine z_iload11 445 dL_rode_443 rfl ?_
                  refine z_iload8 447 dL_rode_445 rfl ?_
                  refine z_icmp_ne 457 450 dL_rode_447 (by decide) rfl (by omega) (by omega) (fun h447 => ?_) (fun h447 => ?_)
                  · refine z_iconst 458 dL_rode_457 rfl ?_
                    refine z_goto 492 dL_rode_458 (by decide) ?_
                    refine z_istore4 494 dL_rode_492 (Nat.le_of_ble_eq_true rfl) rfl rfl ?_
                    refine z_iload12 496 dL_rode_494 rfl ?_
                    refine z_istore10 498 dL_rode_496 (Nat.le_of_ble_eq_true rfl) rfl rfl ?_
                    refine z_iinc11 501 dL_rode_498 (Nat.le_of_ble_eq_true rfl) rfl rfl ?_
                    refine z_goto 266 dL_rode_501 (by decide) ?_
                    exact rc _ _ _ _ _ _ _ h
                  · refine z_iload12 452 dL_rode_450 rfl ?_
                    refine z_iload9 454 dL_rode_452 rfl ?_
                    refine z_icmp_ne 461 457 dL_rode_454 (by decide) rfl (by omega) (by omega) (fun hz => absurd hz (by omega)) (fun h454 => ?_)
                    refine z_iconst 458 dL_rode_457 rfl ?_
                    refine z_goto 492 dL_rode_458 (by decide) ?_
                    refine z_istore4 494 dL_rode_492 (Nat.le_of_ble_eq_true rfl) rfl rfl ?_
                    refine z_iload12 496 dL_rode_494 rfl ?_
                    refine z_istore10 498 dL_rode_496 (Nat.le_of_ble_eq_true rfl) rfl rfl ?_
                    refine z_iinc11 501 dL_rode_498 (Nat.le_of_ble_eq_true rfl) rfl rfl ?_
                    refine z_goto 266 dL_rode_501 (by decide) ?_
                    exact rc _ _ _ _ _ _ _ h
        · refine z_bipush 370 dL_rode_368 (by decide) rfl ?_
          refine z_goto 375 dL_rode_370 (by decide) ?_
          refine z_istore15 377 dL_rode_375 (Nat.le_of_ble_eq_true rfl) rfl rfl ?_
          refine z_iload13 379 dL_rode_377 rfl ?_
          refine z_if_lt 401 382 dL_rode_379 (by decide) rfl (by omega) (fun h379 => ?_) (fun h379 => ?_)
          · refine z_iload15 403 dL_rode_401 rfl ?_
            refine z_istore15 405 dL_rode_403 (Nat.le_of_ble_eq_true rfl) rfl rfl ?_
            refine rdR_eq (v' := sfw S r t) (by rw [b1]; (repeat' split) <;> omega) ?_
            refine z_iload14 407 dL_rode_405 rfl ?_
            refine z_if_eq 465 410 dL_rode_407 (by decide) rfl (by omega) (fun hz => absurd hz ((by omega))) (fun h407 => ?_)
            refine z_iload12 412 dL_rode_410 rfl ?_
            refine z_iload15 414 dL_rode_412 rfl ?_
            refine z_icmp_ne 461 417 dL_rode_414 (by decide) rfl (by omega) (by omega) (fun hz => absurd hz ((by omega))) (fun h414 => ?_)
            refine z_iload12 419 dL_rode_417 rfl ?_
            refine z_if_le 461 422 dL_rode_419 (by decide) rfl (by omega) (fun hz => absurd hz (by omega)) (fun h419 => ?_)
            refine z_iload12 424 dL_rode_422 rfl ?_
            refine z_iload9 426 dL_rode_424 rfl ?_
            refine z_icmp_gt 461 429 dL_rode_426 (by decide) rfl (by omega) (by omega) (fun hz => absurd hz (by omega)) (fun h426 => ?_)
            refine z_iload11 431 dL_rode_429 rfl ?_
            refine z_iload8 433 dL_rode_431 rfl ?_
            refine z_icmp_ge 443 436 dL_rode_433 (by decide) rfl (by omega) (by omega) (fun h433 => ?_) (fun h433 => ?_)
            · refine z_iload11 445 dL_rode_443 rfl ?_
              refine z_iload8 447 dL_rode_445 rfl ?_
              refine z_icmp_ne 457 450 dL_rode_447 (by decide) rfl (by omega) (by omega) (fun h447 => ?_) (fun h447 => ?_)
              · refine z_iconst 458 dL_rode_457 rfl ?_
                refine z_goto 492 dL_rode_458 (by decide) ?_
                refine z_istore4 494 dL_rode_492 (Nat.le_of_ble_eq_true rfl) rfl rfl ?_
                refine z_iload12 496 dL_rode_494 rfl ?_
                refine z_istore10 498 dL_rode_496 (Nat.le_of_ble_eq_true rfl) rfl rfl ?_
                refine z_iinc11 501 dL_rode_498 (Nat.le_of_ble_eq_true rfl) rfl rfl ?_
                refine z_goto 266 dL_rode_501 (by decide) ?_
                exact rc _ _ _ _ _ _ _ h
              · refine z_iload12 452 dL_rode_450 rfl ?_
                refine z_iload9 454 dL_rode_452 rfl ?_
                refine z_icmp_ne 461 457 dL_rode_454 (by decide) rfl (by omega) (by omega) (fun hz => absurd hz (by omega)) (fun h454 => ?_)
                refine z_iconst 458 dL_rode_457 rfl ?_
                refine z_goto 492 dL_rode_458 (by decide) ?_
                refine z_istore4 494 dL_rode_492 (Nat.le_of_ble_eq_true rfl) rfl rfl ?_
                refine z_iload12 496 dL_rode_494 rfl ?_
                refine z_istore10 498 dL_rode_496 (Nat.le_of_ble_eq_true rfl) rfl rfl ?_
                refine z_iinc11 501 dL_rode_498 (Nat.le_of_ble_eq_true rfl) rfl rfl ?_
                refine z_goto 266 dL_rode_501 (by decide) ?_
                exact rc _ _ _ _ _ _ _ h
            · refine z_iload12 438 dL_rode_436 rfl ?_
              refine z_iload9 440 dL_rode_438 rfl ?_
              refine z_icmp_ge 461 443 dL_rode_440 (by decide) rfl (by omega) (by omega) (fun hz => absurd hz (by omega)) (fun h440 => ?_)
              refine z_iload11 445 dL_rode_443 rfl ?_
              refine z_iload8 447 dL_rode_445 rfl ?_
              refine z_icmp_ne 457 450 dL_rode_447 (by decide) rfl (by omega) (by omega) (fun h447 => ?_) (fun h447 => ?_)
              · refine z_iconst 458 dL_rode_457 rfl ?_
                refine z_goto 492 dL_rode_458 (by decide) ?_
                refine z_istore4 494 dL_rode_492 (Nat.le_of_ble_eq_true rfl) rfl rfl ?_
                refine z_iload12 496 dL_rode_494 rfl ?_
                refine z_istore10 498 dL_rode_496 (Nat.le_of_ble_eq_true rfl) rfl rfl ?_
                refine z_iinc11 501 dL_rode_498 (Nat.le_of_ble_eq_true rfl) rfl rfl ?_
                refine z_goto 266 dL_rode_501 (by decide) ?_
                exact rc _ _ _ _ _ _ _ h
              · refine z_iload12 452 dL_rode_450 rfl ?_
                refine z_iload9 454 dL_rode_452 rfl ?_
                refine z_icmp_ne 461 457 dL_rode_454 (by decide) rfl (by omega) (by omega) (fun hz => absurd hz (by omega)) (fun h454 => ?_)
                refine z_iconst 458 dL_rode_457 rfl ?_
                refine z_goto 492 dL_rode_458 (by decide) ?_
                refine z_istore4 494 dL_rode_492 (Nat.le_of_ble_eq_true rfl) rfl rfl ?_
                refine z_iload12 496 dL_rode_494 rfl ?_
                refine z_istore10 498 dL_rode_496 (Nat.le_of_ble_eq_true rfl) rfl rfl ?_
                refine z_iinc11 501 dL_rode_498 (Nat.le_of_ble_eq_true rfl) rfl rfl ?_
                refine z_goto 266 dL_rode_501 (by decide) ?_
                exact rc _ _ _ _ _ _ _ h
          · refine z_iload13 384 dL_rode_382 rfl ?_
            refine z_iload6 386 dL_rode_384 rfl ?_
            refine z_icmp_eq 401 389 dL_rode_386 (by decide) rfl (by omega) (by omega) (fun h386 => ?_) (fun h386 => ?_)
            · refine z_iload15 403 dL_rode_401 rfl ?_
              refine z_istore15 405 dL_rode_403 (Nat.le_of_ble_eq_true rfl) rfl rfl ?_
              refine rdR_eq (v' := sfw S r t) (by rw [b1]; (repeat' split) <;> omega) ?_
              refine z_iload14 407 dL_rode_405 rfl ?_
              refine z_if_eq 465 410 dL_rode_407 (by decide) rfl (by omega) (fun hz => absurd hz ((by omega))) (fun h407 => ?_)
              refine z_iload12 412 dL_rode_410 rfl ?_
              refine z_iload15 414 dL_rode_412 rfl ?_
              refine z_icmp_ne 461 417 dL_rode_414 (by decide) rfl (by omega) (by omega) (fun hz => absurd hz ((by omega))) (fun h414 => ?_)
              refine z_iload12 419 dL_rode_417 rfl ?_
              refine z_if_le 461 422 dL_rode_419 (by decide) rfl (by omega) (fun hz => absurd hz (by omega)) (fun h419 => ?_)
              refine z_iload12 424 dL_rode_422 rfl ?_
              refine z_iload9 426 dL_rode_424 rfl ?_
              refine z_icmp_gt 461 429 dL_rode_426 (by decide) rfl (by omega) (by omega) (fun hz => absurd hz (by omega)) (fun h426 => ?_)
              refine z_iload11 431 dL_rode_429 rfl ?_
              refine z_iload8 433 dL_rode_431 rfl ?_
              refine z_icmp_ge 443 436 dL_rode_433 (by decide) rfl (by omega) (by omega) (fun h433 => ?_) (fun h433 => ?_)
              · refine z_iload11 445 dL_rode_443 rfl ?_
                refine z_iload8 447 dL_rode_445 rfl ?_
                refine z_icmp_ne 457 450 dL_rode_447 (by decide) rfl (by omega) (by omega) (fun h447 => ?_) (fun h447 => ?_)
                · refine z_iconst 458 dL_rode_457 rfl ?_
                  refine z_goto 492 dL_rode_458 (by decide) ?_
                  refine z_istore4 494 dL_rode_492 (Nat.le_of_ble_eq_true rfl) rfl rfl ?_
                  refine z_iload12 496 dL_rode_494 rfl ?_
                  refine z_istore10 498 dL_rode_496 (Nat.le_of_ble_eq_true rfl) rfl rfl ?_
                  refine z_iinc11 501 dL_rode_498 (Nat.le_of_ble_eq_true rfl) rfl rfl ?_
                  refine z_goto 266 dL_rode_501 (by decide) ?_
                  exact rc _ _ _ _ _ _ _ h
                · refine z_iload12 452 dL_rode_450 rfl ?_
                  refine z_iload9 454 dL_rode_452 rfl ?_
                  refine z_icmp_ne 461 457 dL_rode_454 (by decide) rfl (by omega) (by omega) (fun hz => absurd hz (by omega)) (fun h454 => ?_)
                  refine z_iconst 458 dL_rode_457 rfl ?_
                  refine z_goto 492 dL_rode_458 (by decide) ?_
                  refine z_istore4 494 dL_rode_492 (Nat.le_of_ble_eq_true rfl) rfl rfl ?_
                  refine z_iload12 496 dL_rode_494 rfl ?_
                  refine z_istore10 498 dL_rode_496 (Nat.le_of_ble_eq_true rfl) rfl rfl ?_
                  refine z_iinc11 501 dL_rode_498 (Nat.le_of_ble_eq_true rfl) rfl rfl ?_
                  refine z_goto 266 dL_rode_501 (by decide) ?_
                  exact rc _ _ _ _ _ _ _ h
              · refine z_iload12 438 dL_rode_436 rfl ?_
                refine z_iload9 440 dL_rode_438 rfl ?_
                refine z_icmp_ge 461 443 dL_rode_440 (by decide) rfl (by omega) (by omega) (fun hz => absurd hz (by omega)) (fun h440 => ?_)
                refine z_iload11 445 dL_rode_443 rfl ?_
                refine z_iload8 447 dL_rode_445 rfl ?_
                refine z_icmp_ne 457 450 dL_rode_447 (by decide) rfl (by omega) (by omega) (fun h447 => ?_) (fun h447 => ?_)
                · refine z_iconst 458 dL_rode_457 rfl ?_
                  refine z_goto 492 dL_rode_458 (by decide) ?_
                  refine z_istore4 494 dL_rode_492 (Nat.le_of_ble_eq_true rfl) rfl rfl ?_
                  refine z_iload12 496 dL_rode_494 rfl ?_
                  refine z_istore10 498 dL_rode_496 (Nat.le_of_ble_eq_true rfl) rfl rfl ?_
                  refine z_iinc11 501 dL_rode_498 (Nat.le_of_ble_eq_true rfl) rfl rfl ?_
                  refine z_goto 266 dL_rode_501 (by decide) ?_
                  exact rc _ _ _ _ _ _ _ h
                · refine z_iload12 452 dL_rode_450 rfl ?_
                  refine z_iload9 454 dL_rode_452 rfl ?_
                  refine z_icmp_ne 461 457 dL_rode_454 (by decide) rfl (by omega) (by omega) (fun hz => absurd hz (by omega)) (fun h454 => ?_)
                  refine z_iconst 458 dL_rode_457 rfl ?_
                  refine z_goto 492 dL_rode_458 (by decide) ?_
                  refine z_istore4 494 dL_rode_492 (Nat.le_of_ble_eq_true rfl) rfl rfl ?_
                  refine z_iload12 496 dL_rode_494 rfl ?_
                  refine z_istore10 498 dL_rode_496 (Nat.le_of_ble_eq_true rfl) rfl rfl ?_
                  refine z_iinc11 501 dL_rode_498 (Nat.le_of_ble_eq_true rfl) rfl rfl ?_
                  refine z_goto 266 dL_rode_501 (by decide) ?_
                  exact rc _ _ _ _ _ _ _ h
            · refine z_iload15 391 dL_rode_389 rfl ?_
              refine z_if_le 401 394 dL_rode_391 (by decide) rfl (by omega) (fun hz => absurd hz (by omega)) (fun h391 => ?_)
              refine z_iload15 396 dL_rode_394 rfl ?_
              refine z_iconst 397 dL_rode_396 rfl ?_
              refine z_idiv 398 dL_rode_397 (by omega) (by omega) rfl ?_
              refine z_goto 403 dL_rode_398 (by decide) ?_
              refine z_istore15 405 dL_rode_403 (Nat.le_of_ble_eq_true rfl) rfl rfl ?_
              refine rdR_eq (v' := sfw S r t) (by rw [b1]; (repeat' split) <;> omega) ?_
              refine z_iload14 407 dL_rode_405 rfl ?_
              refine z_if_eq 465 410 dL_rode_407 (by decide) rfl (by omega) (fun hz => absurd hz ((by omega))) (fun h407 => ?_)
              refine z_iload12 412 dL_rode_410 rfl ?_
              refine z_iload15 414 dL_rode_412 rfl ?_
              refine z_icmp_ne 461 417 dL_rode_414 (by decide) rfl (by omega) (by omega) (fun hz => absurd hz ((by omega))) (fun h414 => ?_)
              refine z_iload12 419 dL_rode_417 rfl ?_
              refine z_if_le 461 422 dL_rode_419 (by decide) rfl (by omega) (fun hz => absurd hz (by omega)) (fun h419 => ?_)
              refine z_iload12 424 dL_rode_422 rfl ?_
              refine z_iload9 426 dL_rode_424 rfl ?_
              refine z_icmp_gt 461 429 dL_rode_426 (by decide) rfl (by omega) (by omega) (fun hz => absurd hz (by omega)) (fun h426 => ?_)
              refine z_iload11 431 dL_rode_429 rfl ?_
              refine z_iload8 433 dL_rode_431 rfl ?_
              refine z_icmp_ge 443 436 dL_rode_433 (by decide) rfl (by omega) (by omega) (fun h433 => ?_) (fun h433 => ?_)
              · refine z_iload11 445 dL_rode_443 rfl ?_
                refine z_iload8 447 dL_rode_445 rfl ?_
                refine z_icmp_ne 457 450 dL_rode_447 (by decide) rfl (by omega) (by omega) (fun h447 => ?_) (fun h447 => ?_)
                · refine z_iconst 458 dL_rode_457 rfl ?_
                  refine z_goto 492 dL_rode_458 (by decide) ?_
                  refine z_istore4 494 dL_rode_492 (Nat.le_of_ble_eq_true rfl) rfl rfl ?_
                  refine z_iload12 496 dL_rode_494 rfl ?_
                  refine z_istore10 498 dL_rode_496 (Nat.le_of_ble_eq_true rfl) rfl rfl ?_
                  refine z_iinc11 501 dL_rode_498 (Nat.le_of_ble_eq_true rfl) rfl rfl ?_
                  refine z_goto 266 dL_rode_501 (by decide) ?_
                  exact rc _ _ _ _ _ _ _ h
                · refine z_iload12 452 dL_rode_450 rfl ?_
                  refine z_iload9 454 dL_rode_452 rfl ?_
                  refine z_icmp_ne 461 457 dL_rode_454 (by decide) rfl (by omega) (by omega) (fun hz => absurd hz (by omega)) (fun h454 => ?_)
                  refine z_iconst 458 dL_rode_457 rfl ?_
                  refine z_goto 492 dL_rode_458 (by decide) ?_
                  refine z_istore4 494 dL_rode_492 (Nat.le_of_ble_eq_true rfl) rfl rfl ?_
                  refine z_iload12 496 dL_rode_494 rfl ?_
                  refine z_istore10 498 dL_rode_496 (Nat.le_of_ble_eq_true rfl) rfl rfl ?_
                  refine z_iinc11 501 dL_rode_498 (Nat.le_of_ble_eq_true rfl) rfl rfl ?_
                  refine z_goto 266 dL_rode_501 (by decide) ?_
                  exact rc _ _ _ _ _ _ _ h
              · refine z_iload12 438 dL_rode_436 rfl ?_
                refine z_iload9 440 dL_rode_438 rfl ?_
                refine z_icmp_ge 461 443 dL_rode_440 (by decide) rfl (by omega) (by omega) (fun hz => absurd hz (by omega)) (fun h440 => ?_)
                refine z_iload11 445 dL_rode_443 rfl ?_
                refine z_iload8 447 dL_rode_445 rfl ?_
                refine z_icmp_ne 457 450 dL_rode_447 (by decide) rfl (by omega) (by omega) (fun h447 => ?_) (fun h447 => ?_)
                · refine z_iconst 458 dL_rode_457 rfl ?_
                  refine z_goto 492 dL_rode_458 (by decide) ?_
                  refine z_istore4 494 dL_rode_492 (Nat.le_of_ble_eq_true rfl) rfl rfl ?_
                  refine z_iload12 496 dL_rode_494 rfl ?_
                  refine z_istore10 498 dL_rode_496 (Nat.le_of_ble_eq_true rfl) rfl rfl ?_
                  refine z_iinc11 501 dL_rode_498 (Nat.le_of_ble_eq_true rfl) rfl rfl ?_
                  refine z_goto 266 dL_rode_501 (by decide) ?_
                  exact rc _ _ _ _ _ _ _ h
                · refine z_iload12 452 dL_rode_450 rfl ?_
                  refine z_iload9 454 dL_rode_452 rfl ?_
                  refine z_icmp_ne 461 457 dL_rode_454 (by decide) rfl (by omega) (by omega) (fun hz => absurd hz (by omega)) (fun h454 => ?_)
                  refine z_iconst 458 dL_rode_457 rfl ?_
                  refine z_goto 492 dL_rode_458 (by decide) ?_
                  refine z_istore4 494 dL_rode_492 (Nat.le_of_ble_eq_true rfl) rfl rfl ?_
                  refine z_iload12 496 dL_rode_494 rfl ?_
                  refine z_istore10 498 dL_rode_496 (Nat.le_of_ble_eq_true rfl) rfl rfl ?_
                  refine z_iinc11 501 dL_rode_498 (Nat.le_of_ble_eq_true rfl) rfl rfl ?_
                  refine z_goto 266 dL_rode_501 (by decide) ?_
                  exact rc _ _ _ _ _ _ _ h
    · by_cases het : t = s
      · have heq : sfe S r = 10 + (t : Int) ∧ sbh S t r ah (S 1 t) ≤ 0 := by
          rw [hah, het]
          rcases he with ⟨e1, _⟩ | ⟨_, e1, e2⟩
          · omega
          · exact ⟨e1, e2⟩
        obtain ⟨q1, q2⟩ := heq
        have hap2 := hap (by omega)
        have gn2 := gn (by omega)
        have wn := hN t (by omega)
        obtain ⟨D, hD⟩ : ∃ D, D = sbh S t r ah (S 1 t) := ⟨_, rfl⟩
        have hD0 := sbh_ge S t r ah (S 1 t) hg.sr (by omega) (by omega) (by omega) (by omega)
        rw [← hD] at q2 hD0
        unfold sbh at hD
        refine z_iload11 268 dL_rode_266 rfl ?_
        refine z_bipush 270 dL_rode_268 (by decide) rfl ?_
        refine z_icmp_ge 504 273 dL_rode_270 (by decide) rfl (by omega) (by omega) (fun hz => absurd hz (by omega)) (fun h270 => ?_)
        refine z_iload4 275 dL_rode_273 rfl ?_
        refine z_if_eq 504 278 dL_rode_275 (by decide) rfl (by omega) (fun hz => absurd hz ((by omega))) (fun h275 => ?_)
        refine z_aload0 279 dL_rode_278 rfl ?_
        refine z_iload6 281 dL_rode_279 rfl ?_
        refine z_iload11 283 dL_rode_281 rfl ?_
        refine z_pV2 286 dL_rode_283 lk_L_rode_136 (pc_speed h n5.2 hr (by omega)) rfl (Nat.le_of_ble_eq_true rfl) (Nat.le_of_ble_eq_true rfl) (by assumption) rfl rfl (fun r0 sh0 I0 L0 R0 hpq => ?_)
        obtain ⟨rfl, rfl, h⟩ := pO hpq
        show zE X mL_rode 0 0 286 _ [zI (sfw S r t)] sh _ _ _ Q
        refine z_istore12 288 dL_rode_286 (Nat.le_of_ble_eq_true rfl) rfl rfl ?_
        refine z_aload0 289 dL_rode_288 rfl ?_
        refine z_iload11 291 dL_rode_289 rfl ?_
        refine z_iconst 292 dL_rode_291 rfl ?_
        refine z_pV2 295 dL_rode_292 lk_L_rode_66 (pc_at2 h (by omega)) rfl (Nat.le_of_ble_eq_true rfl) (Nat.le_of_ble_eq_true rfl) (by assumption) rfl rfl (fun r0 sh0 I0 L0 R0 hpq => ?_)
        obtain ⟨rfl, rfl, h⟩ := pO hpq
        show zE X mL_rode 0 0 295 _ [zI (sst S t)] sh _ _ _ Q
        refine z_istore13 297 dL_rode_295 (Nat.le_of_ble_eq_true rfl) rfl rfl ?_
        refine z_iload7 299 dL_rode_297 rfl ?_
        refine z_bipush 301 dL_rode_299 (by decide) rfl ?_
        refine z_icmp_lt 314 304 dL_rode_301 (by decide) rfl (by omega) (by omega) (fun hz => absurd hz (by omega)) (fun h301 => ?_)
        refine z_iload11 306 dL_rode_304 rfl ?_
        refine z_iload7 308 dL_rode_306 rfl ?_
        refine z_bipush 310 dL_rode_308 (by decide) rfl ?_
        refine z_isub 311 dL_rode_310 rfl ?_
        refine z_icmp_ge 318 314 dL_rode_311 (by decide) rfl (by omega) (by omega) (fun h311 => ?_) (fun hz => absurd hz (by omega))
        refine z_iconst 319 dL_rode_318 rfl ?_
        refine z_istore14 321 dL_rode_319 (Nat.le_of_ble_eq_true rfl) rfl rfl ?_
        refine z_iload10 323 dL_rode_321 rfl ?_
        refine z_iload10 325 dL_rode_323 rfl ?_
        refine z_if_le 341 328 dL_rode_325 (by decide) rfl (by omega) (fun hz => absurd hz (by omega)) (fun h325 => ?_)
        refine z_aload0 329 dL_rode_328 rfl ?_
        refine z_iload6 331 dL_rode_329 rfl ?_
        refine z_iload11 333 dL_rode_331 rfl ?_
        refine z_iload10 335 dL_rode_333 rfl ?_
        refine z_pV3 338 dL_rode_335 lk_L_rode_139 (pc_gains h n5.2 hr (by omega) (by omega)) rfl (Nat.le_of_ble_eq_true rfl) (Nat.le_of_ble_eq_true rfl) (by assumption) rfl rfl (fun r0 sh0 I0 L0 R0 hpq => ?_)
        obtain ⟨rfl, rfl, h⟩ := pO hpq
        show zE X mL_rode 0 0 338 _ [zI (sgn S r t ah), zI ah] sh _ _ _ Q
        refine z_goto 342 dL_rode_338 (by decide) ?_
        refine z_iadd 343 dL_rode_342 rfl ?_
        refine z_aload0 344 dL_rode_343 rfl ?_
        refine z_iload11 346 dL_rode_344 rfl ?_
        refine z_iconst 347 dL_rode_346 rfl ?_
        refine z_pV2 350 dL_rode_347 lk_L_rode_66 (pc_at0 h (by omega)) rfl (Nat.le_of_ble_eq_true rfl) (Nat.le_of_ble_eq_true rfl) (by assumption) rfl rfl (fun r0 sh0 I0 L0 R0 hpq => ?_)
        obtain ⟨rfl, rfl, h⟩ := pO hpq
        show zE X mL_rode 0 0 350 _ [zI (S 1 t), zI (ah + sgn S r t ah)] sh _ _ _ Q
        refine z_isub 351 dL_rode_350 rfl ?_
        refine z_aload0 352 dL_rode_351 rfl ?_
        refine z_iload11 354 dL_rode_352 rfl ?_
        refine z_iconst 355 dL_rode_354 rfl ?_
        refine z_pV2 358 dL_rode_355 lk_L_rode_66 (pc_at1 h (by omega)) rfl (Nat.le_of_ble_eq_true rfl) (Nat.le_of_ble_eq_true rfl) (by assumption) rfl rfl (fun r0 sh0 I0 L0 R0 hpq => ?_)
        obtain ⟨rfl, rfl, h⟩ := pO hpq
        show zE X mL_rode 0 0 358 _ [zI (S 2 t), zI (ah + sgn S r t ah - S 1 t)] sh _ _ _ Q
        refine z_isub 359 dL_rode_358 rfl ?_
        refine z_istore15 361 dL_rode_359 (Nat.le_of_ble_eq_true rfl) rfl rfl ?_
        refine z_iload15 363 dL_rode_361 rfl ?_
        refine z_bipush 365 dL_rode_363 (by decide) rfl ?_
        refine z_icmp_le 373 368 dL_rode_365 (by decide) rfl (by omega) (by omega) (fun h365 => ?_) (fun h365 => ?_)
        · refine z_iload15 375 dL_rode_373 rfl ?_
          refine z_istore15 377 dL_rode_375 (Nat.le_of_ble_eq_true rfl) rfl rfl ?_
          refine z_iload13 379 dL_rode_377 rfl ?_
          refine z_if_lt 401 382 dL_rode_379 (by decide) rfl (by omega) (fun h379 => ?_) (fun h379 => ?_)
          · refine z_iload15 403 dL_rode_401 rfl ?_
            refine z_istore15 405 dL_rode_403 (Nat.le_of_ble_eq_true rfl) rfl rfl ?_
            refine rdR_eq (v' := D) (by rw [hD]; (repeat' split) <;> omega) ?_
            refine z_iload14 407 dL_rode_405 rfl ?_
            refine z_if_eq 465 410 dL_rode_407 (by decide) rfl (by omega) (fun h407 => ?_) (fun hz => absurd hz ((by omega)))
            refine z_iload12 467 dL_rode_465 rfl ?_
            refine z_bipush 469 dL_rode_467 (by decide) rfl ?_
            refine z_icmp_ne 491 472 dL_rode_469 (by decide) rfl (by omega) (by omega) (fun hz => absurd hz ((by omega))) (fun h469 => ?_)
            refine z_iload7 474 dL_rode_472 rfl ?_
            refine z_bipush 476 dL_rode_474 (by decide) rfl ?_
            refine z_iload11 478 dL_rode_476 rfl ?_
            refine z_iadd 479 dL_rode_478 rfl ?_
            refine z_icmp_ne 487 482 dL_rode_479 (by decide) rfl (by omega) (by omega) (fun hz => absurd hz ((by omega))) (fun h479 => ?_)
            refine z_iload15 484 dL_rode_482 rfl ?_
            refine z_if_gt 491 487 dL_rode_484 (by decide) rfl (by omega) (fun hz => absurd hz (by omega)) (fun h484 => ?_)
            refine z_iconst 488 dL_rode_487 rfl ?_
            refine z_goto 492 dL_rode_488 (by decide) ?_
            refine z_istore4 494 dL_rode_492 (Nat.le_of_ble_eq_true rfl) rfl rfl ?_
            refine z_iload12 496 dL_rode_494 rfl ?_
            refine z_istore10 498 dL_rode_496 (Nat.le_of_ble_eq_true rfl) rfl rfl ?_
            refine z_iinc11 501 dL_rode_498 (Nat.le_of_ble_eq_true rfl) rfl rfl ?_
            refine z_goto 266 dL_rode_501 (by decide) ?_
            exact rc _ _ _ _ _ _ _ h
          · refine z_iload13 384 dL_rode_382 rfl ?_
            refine z_iload6 386 dL_rode_384 rfl ?_
            refine z_icmp_eq 401 389 dL_rode_386 (by decide) rfl (by omega) (by omega) (fun h386 => ?_) (fun h386 => ?_)
            · refine z_iload15 403 dL_rode_401 rfl ?_
              refine z_istore15 405 dL_rode_403 (Nat.le_of_ble_eq_true rfl) rfl rfl ?_
              refine rdR_eq (v' := D) (by rw [hD]; (repeat' split) <;> omega) ?_
              refine z_iload14 407 dL_rode_405 rfl ?_
              refine z_if_eq 465 410 dL_rode_407 (by decide) rfl (by omega) (fun h407 => ?_) (fun hz => absurd hz ((by omega)))
              refine z_iload12 467 dL_rode_465 rfl ?_
              refine z_bipush 469 dL_rode_467 (by decide) rfl ?_
              refine z_icmp_ne 491 472 dL_rode_469 (by decide) rfl (by omega) (by omega) (fun hz => absurd hz ((by omega))) (fun h469 => ?_)
              refine z_iload7 474 dL_rode_472 rfl ?_
              refine z_bipush 476 dL_rode_474 (by decide) rfl ?_
              refine z_iload11 478 dL_rode_476 rfl ?_
              refine z_iadd 479 dL_rode_478 rfl ?_
              refine z_icmp_ne 487 482 dL_rode_479 (by decide) rfl (by omega) (by omega) (fun hz => absurd hz ((by omega))) (fun h479 => ?_)
              refine z_iload15 484 dL_rode_482 rfl ?_
              refine z_if_gt 491 487 dL_rode_484 (by decide) rfl (by omega) (fun hz => absurd hz (by omega)) (fun h484 => ?_)
              refine z_iconst 488 dL_rode_487 rfl ?_
              refine z_goto 492 dL_rode_488 (by decide) ?_
              refine z_istore4 494 dL_rode_492 (Nat.le_of_ble_eq_true rfl) rfl rfl ?_
              refine z_iload12 496 dL_rode_494 rfl ?_
              refine z_istore10 498 dL_rode_496 (Nat.le_of_ble_eq_true rfl) rfl rfl ?_
              refine z_iinc11 501 dL_rode_498 (Nat.le_of_ble_eq_true rfl) rfl rfl ?_
              refine z_goto 266 dL_rode_501 (by decide) ?_
              exact rc _ _ _ _ _ _ _ h
            · refine z_iload15 391 dL_rode_389 rfl ?_
              refine z_if_le 401 394 dL_rode_391 (by decide) rfl (by omega) (fun h391 => ?_) (fun h391 => ?_)
              · refine z_iload15 403 dL_rode_401 rfl ?_
                refine z_istore15 405 dL_rode_403 (Nat.le_of_ble_eq_true rfl) rfl rfl ?_
                refine rdR_eq (v' := D) (by rw [hD]; (repeat' split) <;> omega) ?_
                refine z_iload14 407 dL_rode_405 rfl ?_
                refine z_if_eq 465 410 dL_rode_407 (by decide) rfl (by omega) (fun h407 => ?_) (fun hz => absurd hz ((by omega)))
                refine z_iload12 467 dL_rode_465 rfl ?_
                refine z_bipush 469 dL_rode_467 (by decide) rfl ?_
                refine z_icmp_ne 491 472 dL_rode_469 (by decide) rfl (by omega) (by omega) (fun hz => absurd hz ((by omega))) (fun h469 => ?_)
                refine z_iload7 474 dL_rode_472 rfl ?_
                refine z_bipush 476 dL_rode_474 (by decide) rfl ?_
                refine z_iload11 478 dL_rode_476 rfl ?_
                refine z_iadd 479 dL_rode_478 rfl ?_
                refine z_icmp_ne 487 482 dL_rode_479 (by decide) rfl (by omega) (by omega) (fun hz => absurd hz ((by omega))) (fun h479 => ?_)
                refine z_iload15 484 dL_rode_482 rfl ?_
                refine z_if_gt 491 487 dL_rode_484 (by decide) rfl (by omega) (fun hz => absurd hz (by omega)) (fun h484 => ?_)
                refine z_iconst 488 dL_rode_487 rfl ?_
                refine z_goto 492 dL_rode_488 (by decide) ?_
                refine z_istore4 494 dL_rode_492 (Nat.le_of_ble_eq_true rfl) rfl rfl ?_
                refine z_iload12 496 dL_rode_494 rfl ?_
                refine z_istore10 498 dL_rode_496 (Nat.le_of_ble_eq_true rfl) rfl rfl ?_
                refine z_iinc11 501 dL_rode_498 (Nat.le_of_ble_eq_true rfl) rfl rfl ?_
                refine z_goto 266 dL_rode_501 (by decide) ?_
                exact rc _ _ _ _ _ _ _ h
              · refine z_iload15 396 dL_rode_394 rfl ?_
                refine z_iconst 397 dL_rode_396 rfl ?_
                refine z_idiv 398 dL_rode_397 (by omega) (by omega) rfl ?_
                refine z_goto 403 dL_rode_398 (by decide) ?_
                refine z_istore15 405 dL_rode_403 (Nat.le_of_ble_eq_true rfl) rfl rfl ?_
                refine rdR_eq (v' := D) (by rw [hD]; (repeat' split) <;> omega) ?_
                refine z_iload14 407 dL_rode_405 rfl ?_
                refine z_if_eq 465 410 dL_rode_407 (by decide) rfl (by omega) (fun h407 => ?_) (fun hz => absurd hz ((by omega)))
                refine z_iload12 467 dL_rode_465 rfl ?_
                refine z_bipush 469 dL_rode_467 (by decide) rfl ?_
                refine z_icmp_ne 491 472 dL_rode_469 (by decide) rfl (by omega) (by omega) (fun hz => absurd hz ((by omega))) (fun h469 => ?_)
                refine z_iload7 474 dL_rode_472 rfl ?_
                refine z_bipush 476 dL_rode_474 (by decide) rfl ?_
                refine z_iload11 478 dL_rode_476 rfl ?_
                refine z_iadd 479 dL_rode_478 rfl ?_
                refine z_icmp_ne 487 482 dL_rode_479 (by decide) rfl (by omega) (by omega) (fun hz => absurd hz ((by omega))) (fun h479 => ?_)
                refine z_iload15 484 dL_rode_482 rfl ?_
                refine z_if_gt 491 487 dL_rode_484 (by decide) rfl (by omega) (fun hz => absurd hz (by omega)) (fun h484 => ?_)
                refine z_iconst 488 dL_rode_487 rfl ?_
                refine z_goto 492 dL_rode_488 (by decide) ?_
                refine z_istore4 494 dL_rode_492 (Nat.le_of_ble_eq_true rfl) rfl rfl ?_
                refine z_iload12 496 dL_rode_494 rfl ?_
                refine z_istore10 498 dL_rode_496 (Nat.le_of_ble_eq_true rfl) rfl rfl ?_
                refine z_iinc11 501 dL_rode_498 (Nat.le_of_ble_eq_true rfl) rfl rfl ?_
                refine z_goto 266 dL_rode_501 (by decide) ?_
                exact rc _ _ _ _ _ _ _ h
        · refine z_bipush 370 dL_rode_368 (by decide) rfl ?_
          refine z_goto 375 dL_rode_370 (by decide) ?_
          refine z_istore15 377 dL_rode_375 (Nat.le_of_ble_eq_true rfl) rfl rfl ?_
          refine z_iload13 379 dL_rode_377 rfl ?_
          refine z_if_lt 401 382 dL_rode_379 (by decide) rfl (by omega) (fun h379 => ?_) (fun h379 => ?_)
          · refine z_iload15 403 dL_rode_401 rfl ?_
            refine z_istore15 405 dL_rode_403 (Nat.le_of_ble_eq_true rfl) rfl rfl ?_
            refine rdR_eq (v' := D) (by rw [hD]; (repeat' split) <;> omega) ?_
            refine z_iload14 407 dL_rode_405 rfl ?_
            refine z_if_eq 465 410 dL_rode_407 (by decide) rfl (by omega) (fun h407 => ?_) (fun hz => absurd hz ((by omega)))
            refine z_iload12 467 dL_rode_465 rfl ?_
            refine z_bipush 469 dL_rode_467 (by decide) rfl ?_
            refine z_icmp_ne 491 472 dL_rode_469 (by decide) rfl (by omega) (by omega) (fun hz => absurd hz ((by omega))) (fun h469 => ?_)
            refine z_iload7 474 dL_rode_472 rfl ?_
            refine z_bipush 476 dL_rode_474 (by decide) rfl ?_
            refine z_iload11 478 dL_rode_476 rfl ?_
            refine z_iadd 479 dL_rode_478 rfl ?_
            refine z_icmp_ne 487 482 dL_rode_479 (by decide) rfl (by omega) (by omega) (fun hz => absurd hz ((by omega))) (fun h479 => ?_)
            refine z_iload15 484 dL_rode_482 rfl ?_
            refine z_if_gt 491 487 dL_rode_484 (by decide) rfl (by omega) (fun hz => absurd hz (by omega)) (fun h484 => ?_)
            refine z_iconst 488 dL_rode_487 rfl ?_
            refine z_goto 492 dL_rode_488 (by decide) ?_
            refine z_istore4 494 dL_rode_492 (Nat.le_of_ble_eq_true rfl) rfl rfl ?_
            refine z_iload12 496 dL_rode_494 rfl ?_
            refine z_istore10 498 dL_rode_496 (Nat.le_of_ble_eq_true rfl) rfl rfl ?_
            refine z_iinc11 501 dL_rode_498 (Nat.le_of_ble_eq_true rfl) rfl rfl ?_
            refine z_goto 266 dL_rode_501 (by decide) ?_
            exact rc _ _ _ _ _ _ _ h
          · refine z_iload13 384 dL_rode_382 rfl ?_
            refine z_iload6 386 dL_rode_384 rfl ?_
            refine z_icmp_eq 401 389 dL_rode_386 (by decide) rfl (by omega) (by omega) (fun h386 => ?_) (fun h386 => ?_)
            · refine z_iload15 403 dL_rode_401 rfl ?_
              refine z_istore15 405 dL_rode_403 (Nat.le_of_ble_eq_true rfl) rfl rfl ?_
              refine rdR_eq (v' := D) (by rw [hD]; (repeat' split) <;> omega) ?_
              refine z_iload14 407 dL_rode_405 rfl ?_
              refine z_if_eq 465 410 dL_rode_407 (by decide) rfl (by omega) (fun h407 => ?_) (fun hz => absurd hz ((by omega)))
              refine z_iload12 467 dL_rode_465 rfl ?_
              refine z_bipush 469 dL_rode_467 (by decide) rfl ?_
              refine z_icmp_ne 491 472 dL_rode_469 (by decide) rfl (by omega) (by omega) (fun hz => absurd hz ((by omega))) (fun h469 => ?_)
              refine z_iload7 474 dL_rode_472 rfl ?_
              refine z_bipush 476 dL_rode_474 (by decide) rfl ?_
              refine z_iload11 478 dL_rode_476 rfl ?_
              refine z_iadd 479 dL_rode_478 rfl ?_
              refine z_icmp_ne 487 482 dL_rode_479 (by decide) rfl (by omega) (by omega) (fun hz => absurd hz ((by omega))) (fun h479 => ?_)
              refine z_iload15 484 dL_rode_482 rfl ?_
              refine z_if_gt 491 487 dL_rode_484 (by decide) rfl (by omega) (fun hz => absurd hz (by omega)) (fun h484 => ?_)
              refine z_iconst 488 dL_rode_487 rfl ?_
              refine z_goto 492 dL_rode_488 (by decide) ?_
              refine z_istore4 494 dL_rode_492 (Nat.le_of_ble_eq_true rfl) rfl rfl ?_
              refine z_iload12 496 dL_rode_494 rfl ?_
              refine z_istore10 498 dL_rode_496 (Nat.le_of_ble_eq_true rfl) rfl rfl ?_
              refine z_iinc11 501 dL_rode_498 (Nat.le_of_ble_eq_true rfl) rfl rfl ?_
              refine z_goto 266 dL_rode_501 (by decide) ?_
              exact rc _ _ _ _ _ _ _ h
            · refine z_iload15 391 dL_rode_389 rfl ?_
              refine z_if_le 401 394 dL_rode_391 (by decide) rfl (by omega) (fun hz => absurd hz (by omega)) (fun h391 => ?_)
              refine z_iload15 396 dL_rode_394 rfl ?_
              refine z_iconst 397 dL_rode_396 rfl ?_
              refine z_idiv 398 dL_rode_397 (by omega) (by omega) rfl ?_
              refine z_goto 403 dL_rode_398 (by decide) ?_
              refine z_istore15 405 dL_rode_403 (Nat.le_of_ble_eq_true rfl) rfl rfl ?_
              refine rdR_eq (v' := D) (by rw [hD]; (repeat' split) <;> omega) ?_
              refine z_iload14 407 dL_rode_405 rfl ?_
              refine z_if_eq 465 410 dL_rode_407 (by decide) rfl (by omega) (fun h407 => ?_) (fun hz => absurd hz ((by omega)))
              refine z_iload12 467 dL_rode_465 rfl ?_
              refine z_bipush 469 dL_rode_467 (by decide) rfl ?_
              refine z_icmp_ne 491 472 dL_rode_469 (by decide) rfl (by omega) (by omega) (fun hz => absurd hz ((by omega))) (fun h469 => ?_)
              refine z_iload7 474 dL_rode_472 rfl ?_
              refine z_bipush 476 dL_rode_474 (by decide) rfl ?_
              refine z_iload11 478 dL_rode_476 rfl ?_
              refine z_iadd 479 dL_rode_478 rfl ?_
              refine z_icmp_ne 487 482 dL_rode_479 (by decide) rfl (by omega) (by omega) (fun hz => absurd hz ((by omega))) (fun h479 => ?_)
              refine z_iload15 484 dL_rode_482 rfl ?_
              refine z_if_gt 491 487 dL_rode_484 (by decide) rfl (by omega) (fun hz => absurd hz (by omega)) (fun h484 => ?_)
              refine z_iconst 488 dL_rode_487 rfl ?_
              refine z_goto 492 dL_rode_488 (by decide) ?_
              refine z_istore4 494 dL_rode_492 (Nat.le_of_ble_eq_true rfl) rfl rfl ?_
              refine z_iload12 496 dL_rode_494 rfl ?_
              refine z_istore10 498 dL_rode_496 (Nat.le_of_ble_eq_true rfl) rfl rfl ?_
              refine z_iinc11 501 dL_rode_498 (Nat.le_of_ble_eq_true rfl) rfl rfl ?_
              refine z_goto 266 dL_rode_501 (by decide) ?_
              exact rc _ _ _ _ _ _ _ h
      · have hsl : sfe S r = 10 + (s : Int) := by omega
        have wn := hN t (by omega)
        have ha4 : ah = -4 := by
          rw [hah]
          unfold spv
          rw [if_neg (by omega)]
          exact hN (t - 1) (by omega)
        refine z_iload11 268 dL_rode_266 rfl ?_
        refine z_bipush 270 dL_rode_268 (by decide) rfl ?_
        refine z_icmp_ge 504 273 dL_rode_270 (by decide) rfl (by omega) (by omega) (fun hz => absurd hz (by omega)) (fun h270 => ?_)
        refine z_iload4 275 dL_rode_273 rfl ?_
        refine z_if_eq 504 278 dL_rode_275 (by decide) rfl (by omega) (fun hz => absurd hz ((by omega))) (fun h275 => ?_)
        refine z_aload0 279 dL_rode_278 rfl ?_
        refine z_iload6 281 dL_rode_279 rfl ?_
        refine z_iload11 283 dL_rode_281 rfl ?_
        refine z_pV2 286 dL_rode_283 lk_L_rode_136 (pc_speed h n5.2 hr (by omega)) rfl (Nat.le_of_ble_eq_true rfl) (Nat.le_of_ble_eq_true rfl) (by assumption) rfl rfl (fun r0 sh0 I0 L0 R0 hpq => ?_)
        obtain ⟨rfl, rfl, h⟩ := pO hpq
        show zE X mL_rode 0 0 286 _ [zI (sfw S r t)] sh _ _ _ Q
        refine z_istore12 288 dL_rode_286 (Nat.le_of_ble_eq_true rfl) rfl rfl ?_
        refine z_aload0 289 dL_rode_288 rfl ?_
        refine z_iload11 291 dL_rode_289 rfl ?_
        refine z_iconst 292 dL_rode_291 rfl ?_
        refine z_pV2 295 dL_rode_292 lk_L_rode_66 (pc_at2 h (by omega)) rfl (Nat.le_of_ble_eq_true rfl) (Nat.le_of_ble_eq_true rfl) (by assumption) rfl rfl (fun r0 sh0 I0 L0 R0 hpq => ?_)
        obtain ⟨rfl, rfl, h⟩ := pO hpq
        show zE X mL_rode 0 0 295 _ [zI (sst S t)] sh _ _ _ Q
        refine z_istore13 297 dL_rode_295 (Nat.le_of_ble_eq_true rfl) rfl rfl ?_
        refine z_iload7 299 dL_rode_297 rfl ?_
        refine z_bipush 301 dL_rode_299 (by decide) rfl ?_
        refine z_icmp_lt 314 304 dL_rode_301 (by decide) rfl (by omega) (by omega) (fun hz => absurd hz (by omega)) (fun h301 => ?_)
        refine z_iload11 306 dL_rode_304 rfl ?_
        refine z_iload7 308 dL_rode_306 rfl ?_
        refine z_bipush 310 dL_rode_308 (by decide) rfl ?_
        refine z_isub 311 dL_rode_310 rfl ?_
        refine z_icmp_ge 318 314 dL_rode_311 (by decide) rfl (by omega) (by omega) (fun h311 => ?_) (fun hz => absurd hz (by omega))
        refine z_iconst 319 dL_rode_318 rfl ?_
        refine z_istore14 321 dL_rode_319 (Nat.le_of_ble_eq_true rfl) rfl rfl ?_
        refine z_iload10 323 dL_rode_321 rfl ?_
        refine z_iload10 325 dL_rode_323 rfl ?_
        refine z_if_le 341 328 dL_rode_325 (by decide) rfl (by omega) (fun h325 => ?_) (fun hz => absurd hz (by omega))
        refine z_iconst 342 dL_rode_341 rfl ?_
        refine z_iadd 343 dL_rode_342 rfl ?_
        refine z_aload0 344 dL_rode_343 rfl ?_
        refine z_iload11 346 dL_rode_344 rfl ?_
        refine z_iconst 347 dL_rode_346 rfl ?_
        refine z_pV2 350 dL_rode_347 lk_L_rode_66 (pc_at0 h (by omega)) rfl (Nat.le_of_ble_eq_true rfl) (Nat.le_of_ble_eq_true rfl) (by assumption) rfl rfl (fun r0 sh0 I0 L0 R0 hpq => ?_)
        obtain ⟨rfl, rfl, h⟩ := pO hpq
        show zE X mL_rode 0 0 350 _ [zI (S 1 t), zI (ah + 0)] sh _ _ _ Q
        refine z_isub 351 dL_rode_350 rfl ?_
        refine z_aload0 352 dL_rode_351 rfl ?_
        refine z_iload11 354 dL_rode_352 rfl ?_
        refine z_iconst 355 dL_rode_354 rfl ?_
        refine z_pV2 358 dL_rode_355 lk_L_rode_66 (pc_at1 h (by omega)) rfl (Nat.le_of_ble_eq_true rfl) (Nat.le_of_ble_eq_true rfl) (by assumption) rfl rfl (fun r0 sh0 I0 L0 R0 hpq => ?_)
        obtain ⟨rfl, rfl, h⟩ := pO hpq
        show zE X mL_rode 0 0 358 _ [zI (S 2 t), zI (ah + 0 - S 1 t)] sh _ _ _ Q
        refine z_isub 359 dL_rode_358 rfl ?_
        refine z_istore15 361 dL_rode_359 (Nat.le_of_ble_eq_true rfl) rfl rfl ?_
        refine z_iload15 363 dL_rode_361 rfl ?_
        refine z_bipush 365 dL_rode_363 (by decide) rfl ?_
        refine z_icmp_le 373 368 dL_rode_365 (by decide) rfl (by omega) (by omega) (fun h365 => ?_) (fun hz => absurd hz (by omega))
        refine z_iload15 375 dL_rode_373 rfl ?_
        refine z_istore15 377 dL_rode_375 (Nat.le_of_ble_eq_true rfl) rfl rfl ?_
        refine z_iload13 379 dL_rode_377 rfl ?_
        refine z_if_lt 401 382 dL_rode_379 (by decide) rfl (by omega) (fun h379 => ?_) (fun h379 => ?_)
        · refine z_iload15 403 dL_rode_401 rfl ?_
          refine z_istore15 405 dL_rode_403 (Nat.le_of_ble_eq_true rfl) rfl rfl ?_
          refine z_iload14 407 dL_rode_405 rfl ?_
          refine z_if_eq 465 410 dL_rode_407 (by decide) rfl (by omega) (fun h407 => ?_) (fun hz => absurd hz ((by omega)))
          refine z_iload12 467 dL_rode_465 rfl ?_
          refine z_bipush 469 dL_rode_467 (by decide) rfl ?_
          refine z_icmp_ne 491 472 dL_rode_469 (by decide) rfl (by omega) (by omega) (fun hz => absurd hz ((by omega))) (fun h469 => ?_)
          refine z_iload7 474 dL_rode_472 rfl ?_
          refine z_bipush 476 dL_rode_474 (by decide) rfl ?_
          refine z_iload11 478 dL_rode_476 rfl ?_
          refine z_iadd 479 dL_rode_478 rfl ?_
          refine z_icmp_ne 487 482 dL_rode_479 (by decide) rfl (by omega) (by omega) (fun h479 => ?_) (fun hz => absurd hz ((by omega)))
          refine z_iconst 488 dL_rode_487 rfl ?_
          refine z_goto 492 dL_rode_488 (by decide) ?_
          refine z_istore4 494 dL_rode_492 (Nat.le_of_ble_eq_true rfl) rfl rfl ?_
          refine z_iload12 496 dL_rode_494 rfl ?_
          refine z_istore10 498 dL_rode_496 (Nat.le_of_ble_eq_true rfl) rfl rfl ?_
          refine z_iinc11 501 dL_rode_498 (Nat.le_of_ble_eq_true rfl) rfl rfl ?_
          refine z_goto 266 dL_rode_501 (by decide) ?_
          exact rc _ _ _ _ _ _ _ h
        · refine z_iload13 384 dL_rode_382 rfl ?_
          refine z_iload6 386 dL_rode_384 rfl ?_
          refine z_icmp_eq 401 389 dL_rode_386 (by decide) rfl (by omega) (by omega) (fun h386 => ?_) (fun h386 => ?_)
          · refine z_iload15 403 dL_rode_401 rfl ?_
            refine z_istore15 405 dL_rode_403 (Nat.le_of_ble_eq_true rfl) rfl rfl ?_
            refine z_iload14 407 dL_rode_405 rfl ?_
            refine z_if_eq 465 410 dL_rode_407 (by decide) rfl (by omega) (fun h407 => ?_) (fun hz => absurd hz ((by omega)))
            refine z_iload12 467 dL_rode_465 rfl ?_
            refine z_bipush 469 dL_rode_467 (by decide) rfl ?_
            refine z_icmp_ne 491 472 dL_rode_469 (by decide) rfl (by omega) (by omega) (fun hz => absurd hz ((by omega))) (fun h469 => ?_)
            refine z_iload7 474 dL_rode_472 rfl ?_
            refine z_bipush 476 dL_rode_474 (by decide) rfl ?_
            refine z_iload11 478 dL_rode_476 rfl ?_
            refine z_iadd 479 dL_rode_478 rfl ?_
            refine z_icmp_ne 487 482 dL_rode_479 (by decide) rfl (by omega) (by omega) (fun h479 => ?_) (fun hz => absurd hz ((by omega)))
            refine z_iconst 488 dL_rode_487 rfl ?_
            refine z_goto 492 dL_rode_488 (by decide) ?_
            refine z_istore4 494 dL_rode_492 (Nat.le_of_ble_eq_true rfl) rfl rfl ?_
            refine z_iload12 496 dL_rode_494 rfl ?_
            refine z_istore10 498 dL_rode_496 (Nat.le_of_ble_eq_true rfl) rfl rfl ?_
            refine z_iinc11 501 dL_rode_498 (Nat.le_of_ble_eq_true rfl) rfl rfl ?_
            refine z_goto 266 dL_rode_501 (by decide) ?_
            exact rc _ _ _ _ _ _ _ h
          · refine z_iload15 391 dL_rode_389 rfl ?_
            refine z_if_le 401 394 dL_rode_391 (by decide) rfl (by omega) (fun h391 => ?_) (fun hz => absurd hz (by omega))
            refine z_iload15 403 dL_rode_401 rfl ?_
            refine z_istore15 405 dL_rode_403 (Nat.le_of_ble_eq_true rfl) rfl rfl ?_
            refine z_iload14 407 dL_rode_405 rfl ?_
            refine z_if_eq 465 410 dL_rode_407 (by decide) rfl (by omega) (fun h407 => ?_) (fun hz => absurd hz ((by omega)))
            refine z_iload12 467 dL_rode_465 rfl ?_
            refine z_bipush 469 dL_rode_467 (by decide) rfl ?_
            refine z_icmp_ne 491 472 dL_rode_469 (by decide) rfl (by omega) (by omega) (fun hz => absurd hz ((by omega))) (fun h469 => ?_)
            refine z_iload7 474 dL_rode_472 rfl ?_
            refine z_bipush 476 dL_rode_474 (by decide) rfl ?_
            refine z_iload11 478 dL_rode_476 rfl ?_
            refine z_iadd 479 dL_rode_478 rfl ?_
            refine z_icmp_ne 487 482 dL_rode_479 (by decide) rfl (by omega) (by omega) (fun h479 => ?_) (fun hz => absurd hz ((by omega)))
            refine z_iconst 488 dL_rode_487 rfl ?_
            refine z_goto 492 dL_rode_488 (by decide) ?_
            refine z_istore4 494 dL_rode_492 (Nat.le_of_ble_eq_true rfl) rfl rfl ?_
            refine z_iload12 496 dL_rode_494 rfl ?_
            refine z_istore10 498 dL_rode_496 (Nat.le_of_ble_eq_true rfl) rfl rfl ?_
            refine z_iinc11 501 dL_rode_498 (Nat.le_of_ble_eq_true rfl) rfl rfl ?_
            refine z_goto 266 dL_rode_501 (by decide) ?_
            exact rc _ _ _ _ _ _ _ h
theorem oFast_s {r s : Nat} (hg : gd S) (hr : (r : Int) < S 0 6) (hs10 : s ≤ 10) (hF : ∀ j, j < s → 0 < sfw S r j) (hN : ∀ j, s ≤ j → sfw S r j = -4) : ∃ f mo : Int, oFast (pA S hh TS) (r : Int) 0 = f ∧ oFast (pA S hh TS) (r : Int) 1 = mo ∧ (-4 ≤ mo ∧ mo ≤ 30) ∧ (-4 ≤ f ∧ f ≤ 9) ∧ (∀ j, j < s → sfw S r j ≤ mo) ∧ (∀ j, j < s → (j : Int) < f → sfw S r j < mo) ∧ (∀ j, j < s → (j : Int) = f → sfw S r j = mo) ∧ (s = 0 → f = -4 ∧ mo = -4) ∧ (0 < s → 0 ≤ f ∧ 0 < mo) := by
  have n5 := hg.n5
  obtain ⟨k1, k2, k3⟩ := gmx_s (sfw S r) 9 1 0 (by omega) (fun j hj => by rw [show j = 0 by omega]; exact Int.le_refl _) (fun j hj => by omega)
  have wk := sfw_r S r (gmx (sfw S r) 9 1 0) (by omega)
  have c1 : (0 ≤ (r : Int) ∧ (r : Int) ≤ S 0 6 - 1) ∧ (0 ≤ (0 : Int) ∧ (0 : Int) ≤ 1) := by omega
  have c2 : (0 ≤ (r : Int) ∧ (r : Int) ≤ S 0 6 - 1) ∧ (0 ≤ (1 : Int) ∧ (1 : Int) ≤ 1) := by omega
  have ef : oFast (pA S hh TS) (r : Int) 0 = if sfw S r (gmx (sfw S r) 9 1 0) = -4 then -4 else (gmx (sfw S r) 9 1 0 : Int) := by
    unfold oFast
    rw [if_pos c1, Int.toNat_natCast, if_pos rfl]
  have em : oFast (pA S hh TS) (r : Int) 1 = if sfw S r (gmx (sfw S r) 9 1 0) = -4 then -4 else sfw S r (gmx (sfw S r) 9 1 0) := by
    unfold oFast
    rw [if_pos c2, Int.toNat_natCast]
    show (if sfw S r (gmx (sfw S r) 9 1 0) = -4 then -4 else if (1 : Int) = 0 then _ else _) = _
    rw [if_neg (show ¬ (1 : Int) = 0 by decide)]
  generalize gmx (sfw S r) 9 1 0 = k at *
  refine ⟨_, _, ef, em, ?_⟩
  by_cases h0 : s = 0
  · have := hN k (by omega)
    rw [if_pos this, if_pos this]
    exact ⟨by omega, by omega, fun j hj => by omega, fun j hj => by omega, fun j hj => by omega, fun _ => ⟨rfl, rfl⟩, fun z => by omega⟩
  · have a0 := hF 0 (by omega)
    have a1 := k2 0 (by omega)
    have hn : ¬ sfw S r k = -4 := by omega
    rw [if_neg hn, if_neg hn]
    exact ⟨by omega, by omega, fun j hj => k2 j (by omega), fun j hj hf => k3 j (by omega), fun j hj hf => by rw [show j = k by omega], fun z => by omega, fun _ => by omega⟩
theorem lp_rode129 {c : Nat} (hs : sh[157]? = some (20, 43)) (hw : J0 157 0 = S 0 6) (hg : gd S) (h7 : S 0 7 ≤ 100) (hc2 : c < 2 ^ 5) (hc : ∀ r : Nat, (r : Int) < S 0 6 → (c.testBit r = true ↔ sfe S r < 8)) : ∀ (m r : Nat) (z7 z8 z9 z10 z11 z12 z13 z14 z15 : zV) (I L : zI2) (R : zR2), r + m = (S 0 6).toNat → pH sh J0 K0 Z0 I L R (pA S hh TS) → zE X mL_rode 0 0 129 [zR 0, zR 157, zL (phash (pA S hh TS)), zX, zI 1, zI (c : Int), zI (r : Int), z7, z8, z9, z10, z11, z12, z13, z14, z15] [] sh I L R (zOp sh J0 K0 Z0 (zI 1) (pA S hh TS))
  | 0, r, z7, z8, z9, z10, z11, z12, z13, z14, z15, I, L, R, hm, h => by
    have n5 := hg.n5
    refine z_iload6 131 dL_rode_129 rfl ?_
    refine z_aload1 132 dL_rode_131 rfl ?_
    refine z_iconst 133 dL_rode_132 rfl ?_
    refine z_ialdx 134 (0) dL_rode_133 (by assumption) (by omega) (by omega) ((congrFun (h.2 157 (by decide)).1 0).trans hw) rfl ?_
    refine z_icmp_ge 666 137 dL_rode_134 (by decide) rfl (by omega) (by omega) (fun h134 => ?_) (fun hz => absurd hz (by omega))
    refine z_iload4 668 dL_rode_666 rfl ?_
    refine z_if_eq 685 671 dL_rode_668 (by decide) rfl (by omega) (fun hz => absurd hz ((by omega))) (fun h668 => ?_)
    refine z_aload0 672 dL_rode_671 rfl ?_
    refine z_aload1 673 dL_rode_672 rfl ?_
    refine z_pS2 676 dL_rode_673 lk_L_rode_87 (ct_L_hash hs hw hg h) rfl (Nat.le_of_ble_eq_true rfl) (Nat.le_of_ble_eq_true rfl) rfl (fun r0 sh0 I0 L0 R0 hpq => ?_)
    obtain ⟨rfl, rfl, h⟩ := pO hpq
    refine z_lload2 677 dL_rode_676 rfl ?_
    refine z_lcmpS 678 dL_rode_677 rfl ?_
    refine z_if_ne 685 681 dL_rode_678 (by decide) rfl (by omega) (fun hz => absurd hz (by omega)) (fun h678 => ?_)
    refine z_iconst 682 dL_rode_681 rfl ?_
    refine z_goto 686 dL_rode_682 (by decide) ?_
    exact z_zreturn dL_rode_686 rfl (by omega) (zOp_h h)
  | m + 1, r, z7, z8, z9, z10, z11, z12, z13, z14, z15, I, L, R, hm, h => by
    have s0 := h.sh0
    have n5 := hg.n5
    have hr : (r : Int) < S 0 6 := by omega
    obtain ⟨s, hs10, hF, hN, hE⟩ := sfe_s S r
    have hre := sfe_r S r hg.sr (by omega)
    obtain ⟨f, mo, ef, em, hmo, hfr, hm1, hm2, hm3, hz, hp⟩ := oFast_s (hh := hh) (TS := TS) hg hr hs10 (fun j hj => (hF j hj).2) hN
    have kr := fun z7 z8 z9 z10 z11 z12 z13 z14 z15 I L R => lp_rode129 hs hw hg h7 hc2 hc m (r + 1) z7 z8 z9 z10 z11 z12 z13 z14 z15 I L R (by omega)
    have k5 := fun z12 z13 z14 z15 I L R h => tl_rode504 (X := X) (J0 := J0) (K0 := K0) (Z0 := Z0) (x := phash (pA S hh TS)) (c := c) (z8 := zI f) (z9 := zI mo) (z12 := z12) (z13 := z13) (z14 := z14) (z15 := z15) (I := I) (L := L) (R := R) hs hw hg h7 hr hs10 (fun j hj => (hF j hj).2) (by
      rcases hE with q | q
      · exact Or.inl q
      · exact Or.inr ⟨q.1, q.2.1⟩) h kr
    have hE2 : (s = 10 ∧ 0 ≤ sfe S r ∧ sfe S r < 8) ∨ (s < 10 ∧ sfe S r = 10 + (s : Int) ∧ sbh S s r (spv (sfw S r) s) (S 1 s) ≤ 0) := by
      rcases hE with q | q
      · exact Or.inl ⟨q.1, by omega⟩
      · exact Or.inr q
    have hb := hc r hr
    have k2 := lp_rode266 (X := X) (J0 := J0) (K0 := K0) (Z0 := Z0) (x := phash (pA S hh TS)) (c := c) hg hr hs10 hF hN hE2 hmo hfr hm1 hm2 hm3 k5 10 0 2
    have eb : zand (zshr (c : Int) (r : Int)) 1 = bti c r := zb_bit (by omega) (by omega)
    by_cases h8 : sfe S r < 8
    · have b1 : bti c r = 1 := bti_1.mpr (hb.mpr h8)
      have hsp : 0 < s := by omega
      have hpp := hp hsp
      clear hb hc hz hp hm1 hm2 hm3
      refine z_iload6 131 dL_rode_129 rfl ?_
      refine z_aload1 132 dL_rode_131 rfl ?_
      refine z_iconst 133 dL_rode_132 rfl ?_
      refine z_ialdx 134 (0) dL_rode_133 (by assumption) (by omega) (by omega) ((congrFun (h.2 157 (by decide)).1 0).trans hw) rfl ?_
      refine z_icmp_ge 666 137 dL_rode_134 (by decide) rfl (by omega) (by omega) (fun hz => absurd hz (by omega)) (fun h134 => ?_)
      refine z_iload4 139 dL_rode_137 rfl ?_
      refine z_if_eq 666 142 dL_rode_139 (by decide) rfl (by omega) (fun hz => absurd hz ((by omega))) (fun h139 => ?_)
      refine z_aload0 143 dL_rode_142 rfl ?_
      refine z_iload6 145 dL_rode_143 rfl ?_
      refine z_pV1 148 dL_rode_145 lk_L_rode_130 (pc_ends h n5.2 hr) rfl (Nat.le_of_ble_eq_true rfl) (Nat.le_of_ble_eq_true rfl) (by assumption) rfl rfl (fun r0 sh0 I0 L0 R0 hpq => ?_)
      obtain ⟨rfl, rfl, h⟩ := pO hpq
      show zE X mL_rode 0 0 148 _ [zI (sfe S r)] sh _ _ _ _
      refine z_istore7 150 dL_rode_148 (Nat.le_of_ble_eq_true rfl) rfl rfl ?_
      refine z_aload0 151 dL_rode_150 rfl ?_
      refine z_iload6 153 dL_rode_151 rfl ?_
      refine z_iconst 154 dL_rode_153 rfl ?_
      refine z_pV2 157 dL_rode_154 lk_L_rode_133 (pc_fast h n5.2 hr (Or.inl rfl)) rfl (Nat.le_of_ble_eq_true rfl) (Nat.le_of_ble_eq_true rfl) (by assumption) rfl rfl (fun r0 sh0 I0 L0 R0 hpq => ?_)
      obtain ⟨rfl, rfl, h⟩ := pO hpq
      rw [ef]
      refine z_istore8 159 dL_rode_157 (Nat.le_of_ble_eq_true rfl) rfl rfl ?_
      refine z_aload0 160 dL_rode_159 rfl ?_
      refine z_iload6 162 dL_rode_160 rfl ?_
      refine z_iconst 163 dL_rode_162 rfl ?_
      refine z_pV2 166 dL_rode_163 lk_L_rode_133 (pc_fast h n5.2 hr (Or.inr rfl)) rfl (Nat.le_of_ble_eq_true rfl) (Nat.le_of_ble_eq_true rfl) (by assumption) rfl rfl (fun r0 sh0 I0 L0 R0 hpq => ?_)
      obtain ⟨rfl, rfl, h⟩ := pO hpq
      rw [em]
      refine z_istore9 168 dL_rode_166 (Nat.le_of_ble_eq_true rfl) rfl rfl ?_
      refine z_iconst 169 dL_rode_168 rfl ?_
      refine z_istore10 171 dL_rode_169 (Nat.le_of_ble_eq_true rfl) rfl rfl ?_
      refine z_iload5 173 dL_rode_171 rfl ?_
      refine z_iload6 175 dL_rode_173 rfl ?_
      refine z_ishr 176 dL_rode_175 rfl ?_
      refine z_iconst 177 dL_rode_176 rfl ?_
      refine z_iand 178 dL_rode_177 rfl ?_
      rw [eb, b1]
      refine z_iconst 179 dL_rode_178 rfl ?_
      refine z_icmp_ne 186 182 dL_rode_179 (by decide) rfl (by omega) (by omega) (fun hz => absurd hz ((by omega))) (fun h179 => ?_)
      refine z_iconst 183 dL_rode_182 rfl ?_
      refine z_goto 187 dL_rode_183 (by decide) ?_
      refine z_iload7 189 dL_rode_187 rfl ?_
      refine z_bipush 191 dL_rode_189 (by decide) rfl ?_
      refine z_icmp_ge 198 194 dL_rode_191 (by decide) rfl (by omega) (by omega) (fun hz => absurd hz (by omega)) (fun h191 => ?_)
      refine z_iconst 195 dL_rode_194 rfl ?_
      refine z_goto 199 dL_rode_195 (by decide) ?_
      refine z_icmp_ne 260 202 dL_rode_199 (by decide) rfl (by omega) (by omega) (fun hz => absurd hz ((by omega))) (fun h199 => ?_)
      refine z_iload8 204 dL_rode_202 rfl ?_
      refine z_bipush 206 dL_rode_204 (by decide) rfl ?_
      refine z_icmp_ne 213 209 dL_rode_206 (by decide) rfl (by omega) (by omega) (fun h206 => ?_) (fun hz => absurd hz ((by omega)))
      refine z_iconst 214 dL_rode_213 rfl ?_
      refine z_iload7 216 dL_rode_214 rfl ?_
      refine z_bipush 218 dL_rode_216 (by decide) rfl ?_
      refine z_icmp_ne 225 221 dL_rode_218 (by decide) rfl (by omega) (by omega) (fun h218 => ?_) (fun hz => absurd hz ((by omega)))
      refine z_iconst 226 dL_rode_225 rfl ?_
      refine z_icmp_ne 260 229 dL_rode_226 (by decide) rfl (by omega) (by omega) (fun hz => absurd hz ((by omega))) (fun h226 => ?_)
      refine z_iload9 231 dL_rode_229 rfl ?_
      refine z_bipush 233 dL_rode_231 (by decide) rfl ?_
      refine z_icmp_ne 240 236 dL_rode_233 (by decide) rfl (by omega) (by omega) (fun h233 => ?_) (fun hz => absurd hz ((by omega)))
      refine z_iconst 241 dL_rode_240 rfl ?_
      refine z_iload8 243 dL_rode_241 rfl ?_
      refine z_bipush 245 dL_rode_243 (by decide) rfl ?_
      refine z_icmp_ne 252 248 dL_rode_245 (by decide) rfl (by omega) (by omega) (fun h245 => ?_) (fun hz => absurd hz ((by omega)))
      refine z_iconst 253 dL_rode_252 rfl ?_
      refine z_icmp_ne 260 256 dL_rode_253 (by decide) rfl (by omega) (by omega) (fun hz => absurd hz ((by omega))) (fun h253 => ?_)
      refine z_iconst 257 dL_rode_256 rfl ?_
      refine z_goto 261 dL_rode_257 (by decide) ?_
      refine z_istore4 263 dL_rode_261 (Nat.le_of_ble_eq_true rfl) rfl rfl ?_
      refine z_iconst 264 dL_rode_263 rfl ?_
      refine z_istore11 266 dL_rode_264 (Nat.le_of_ble_eq_true rfl) rfl rfl ?_
      exact k2 _ _ _ _ _ _ _ rfl rfl h
    · have b1 : bti c r = 0 := bti_0.mpr (by
        rw [Bool.eq_false_iff]
        intro z
        exact h8 (hb.mp z))
      clear hb hc hm1 hm2 hm3
      by_cases hs0 : s = 0
      · obtain ⟨f4, m4⟩ := hz hs0
        have e10 : sfe S r = 10 := by omega
        clear hz hp
        refine z_iload6 131 dL_rode_129 rfl ?_
        refine z_aload1 132 dL_rode_131 rfl ?_
        refine z_iconst 133 dL_rode_132 rfl ?_
        refine z_ialdx 134 (0) dL_rode_133 (by assumption) (by omega) (by omega) ((congrFun (h.2 157 (by decide)).1 0).trans hw) rfl ?_
        refine z_icmp_ge 666 137 dL_rode_134 (by decide) rfl (by omega) (by omega) (fun hz => absurd hz (by omega)) (fun h134 => ?_)
        refine z_iload4 139 dL_rode_137 rfl ?_
        refine z_if_eq 666 142 dL_rode_139 (by decide) rfl (by omega) (fun hz => absurd hz ((by omega))) (fun h139 => ?_)
        refine z_aload0 143 dL_rode_142 rfl ?_
        refine z_iload6 145 dL_rode_143 rfl ?_
        refine z_pV1 148 dL_rode_145 lk_L_rode_130 (pc_ends h n5.2 hr) rfl (Nat.le_of_ble_eq_true rfl) (Nat.le_of_ble_eq_true rfl) (by assumption) rfl rfl (fun r0 sh0 I0 L0 R0 hpq => ?_)
        obtain ⟨rfl, rfl, h⟩ := pO hpq
        show zE X mL_rode 0 0 148 _ [zI (sfe S r)] sh _ _ _ _
        refine z_istore7 150 dL_rode_148 (Nat.le_of_ble_eq_true rfl) rfl rfl ?_
        refine z_aload0 151 dL_rode_150 rfl ?_
        refine z_iload6 153 dL_rode_151 rfl ?_
        refine z_iconst 154 dL_rode_153 rfl ?_
        refine z_pV2 157 dL_rode_154 lk_L_rode_133 (pc_fast h n5.2 hr (Or.inl rfl)) rfl (Nat.le_of_ble_eq_true rfl) (Nat.le_of_ble_eq_true rfl) (by assumption) rfl rfl (fun r0 sh0 I0 L0 R0 hpq => ?_)
        obtain ⟨rfl, rfl, h⟩ := pO hpq
        rw [ef]
        refine z_istore8 159 dL_rode_157 (Nat.le_of_ble_eq_true rfl) rfl rfl ?_
        refine z_aload0 160 dL_rode_159 rfl ?_
        refine z_iload6 162 dL_rode_160 rfl ?_
        refine z_iconst 163 dL_rode_162 rfl ?_
        refine z_pV2 166 dL_rode_163 lk_L_rode_133 (pc_fast h n5.2 hr (Or.inr rfl)) rfl (Nat.le_of_ble_eq_true rfl) (Nat.le_of_ble_eq_true rfl) (by assumption) rfl rfl (fun r0 sh0 I0 L0 R0 hpq => ?_)
        obtain ⟨rfl, rfl, h⟩ := pO hpq
        rw [em]
        refine z_istore9 168 dL_rode_166 (Nat.le_of_ble_eq_true rfl) rfl rfl ?_
        refine z_iconst 169 dL_rode_168 rfl ?_
        refine z_istore10 171 dL_rode_169 (Nat.le_of_ble_eq_true rfl) rfl rfl ?_
        refine z_iload5 173 dL_rode_171 rfl ?_
        refine z_iload6 175 dL_rode_173 rfl ?_
        refine z_ishr 176 dL_rode_175 rfl ?_
        refine z_iconst 177 dL_rode_176 rfl ?_
        refine z_iand 178 dL_rode_177 rfl ?_
        rw [eb, b1]
        refine z_iconst 179 dL_rode_178 rfl ?_
        refine z_icmp_ne 186 182 dL_rode_179 (by decide) rfl (by omega) (by omega) (fun h179 => ?_) (fun hz => absurd hz ((by omega)))
        refine z_iconst 187 dL_rode_186 rfl ?_
        refine z_iload7 189 dL_rode_187 rfl ?_
        refine z_bipush 191 dL_rode_189 (by decide) rfl ?_
        refine z_icmp_ge 198 194 dL_rode_191 (by decide) rfl (by omega) (by omega) (fun h191 => ?_) (fun hz => absurd hz (by omega))
        refine z_iconst 199 dL_rode_198 rfl ?_
        refine z_icmp_ne 260 202 dL_rode_199 (by decide) rfl (by omega) (by omega) (fun hz => absurd hz ((by omega))) (fun h199 => ?_)
        refine z_iload8 204 dL_rode_202 rfl ?_
        refine z_bipush 206 dL_rode_204 (by decide) rfl ?_
        refine z_icmp_ne 213 209 dL_rode_206 (by decide) rfl (by omega) (by omega) (fun hz => absurd hz ((by omega))) (fun h206 => ?_)
        refine z_iconst 210 dL_rode_209 rfl ?_
        refine z_goto 214 dL_rode_210 (by decide) ?_
        refine z_iload7 216 dL_rode_214 rfl ?_
        refine z_bipush 218 dL_rode_216 (by decide) rfl ?_
        refine z_icmp_ne 225 221 dL_rode_218 (by decide) rfl (by omega) (by omega) (fun hz => absurd hz ((by omega))) (fun h218 => ?_)
        refine z_iconst 222 dL_rode_221 rfl ?_
        refine z_goto 226 dL_rode_222 (by decide) ?_
        refine z_icmp_ne 260 229 dL_rode_226 (by decide) rfl (by omega) (by omega) (fun hz => absurd hz ((by omega))) (fun h226 => ?_)
        refine z_iload9 231 dL_rode_229 rfl ?_
        refine z_bipush 233 dL_rode_231 (by decide) rfl ?_
        refine z_icmp_ne 240 236 dL_rode_233 (by decide) rfl (by omega) (by omega) (fun hz => absurd hz ((by omega))) (fun h233 => ?_)
        refine z_iconst 237 dL_rode_236 rfl ?_
        refine z_goto 241 dL_rode_237 (by decide) ?_
        refine z_iload8 243 dL_rode_241 rfl ?_
        refine z_bipush 245 dL_rode_243 (by decide) rfl ?_
        refine z_icmp_ne 252 248 dL_rode_245 (by decide) rfl (by omega) (by omega) (fun hz => absurd hz ((by omega))) (fun h245 => ?_)
        refine z_iconst 249 dL_rode_248 rfl ?_
        refine z_goto 253 dL_rode_249 (by decide) ?_
        refine z_icmp_ne 260 256 dL_rode_253 (by decide) rfl (by omega) (by omega) (fun hz => absurd hz ((by omega))) (fun h253 => ?_)
        refine z_iconst 257 dL_rode_256 rfl ?_
        refine z_goto 261 dL_rode_257 (by decide) ?_
        refine z_istore4 263 dL_rode_261 (Nat.le_of_ble_eq_true rfl) rfl rfl ?_
        refine z_iconst 264 dL_rode_263 rfl ?_
        refine z_istore11 266 dL_rode_264 (Nat.le_of_ble_eq_true rfl) rfl rfl ?_
        exact k2 _ _ _ _ _ _ _ rfl rfl h
      · have hpp := hp (by omega)
        clear hz hp
        refine z_iload6 131 dL_rode_129 rfl ?_
        refine z_aload1 132 dL_rode_131 rfl ?_
        refine z_iconst 133 dL_rode_132 rfl ?_
        refine z_ialdx 134 (0) dL_rode_133 (by assumption) (by omega) (by omega) ((congrFun (h.2 157 (by decide)).1 0).trans hw) rfl ?_
        refine z_icmp_ge 666 137 dL_rode_134 (by decide) rfl (by omega) (by omega) (fun hz => absurd hz (by omega)) (fun h134 => ?_)
        refine z_iload4 139 dL_rode_137 rfl ?_
        refine z_if_eq 666 142 dL_rode_139 (by decide) rfl (by omega) (fun hz => absurd hz ((by omega))) (fun h139 => ?_)
        refine z_aload0 143 dL_rode_142 rfl ?_
        refine z_iload6 145 dL_rode_143 rfl ?_
        refine z_pV1 148 dL_rode_145 lk_L_rode_130 (pc_ends h n5.2 hr) rfl (Nat.le_of_ble_eq_true rfl) (Nat.le_of_ble_eq_true rfl) (by assumption) rfl rfl (fun r0 sh0 I0 L0 R0 hpq => ?_)
        obtain ⟨rfl, rfl, h⟩ := pO hpq
        show zE X mL_rode 0 0 148 _ [zI (sfe S r)] sh _ _ _ _
        refine z_istore7 150 dL_rode_148 (Nat.le_of_ble_eq_true rfl) rfl rfl ?_
        refine z_aload0 151 dL_rode_150 rfl ?_
        refine z_iload6 153 dL_rode_151 rfl ?_
        refine z_iconst 154 dL_rode_153 rfl ?_
        refine z_pV2 157 dL_rode_154 lk_L_rode_133 (pc_fast h n5.2 hr (Or.inl rfl)) rfl (Nat.le_of_ble_eq_true rfl) (Nat.le_of_ble_eq_true rfl) (by assumption) rfl rfl (fun r0 sh0 I0 L0 R0 hpq => ?_)
        obtain ⟨rfl, rfl, h⟩ := pO hpq
        rw [ef]
        refine z_istore8 159 dL_rode_157 (Nat.le_of_ble_eq_true rfl) rfl rfl ?_
        refine z_aload0 160 dL_rode_159 rfl ?_
        refine z_iload6 162 dL_rode_160 rfl ?_
        refine z_iconst 163 dL_rode_162 rfl ?_
        refine z_pV2 166 dL_rode_163 lk_L_rode_133 (pc_fast h n5.2 hr (Or.inr rfl)) rfl (Nat.le_of_ble_eq_true rfl) (Nat.le_of_ble_eq_true rfl) (by assumption) rfl rfl (fun r0 sh0 I0 L0 R0 hpq => ?_)
        obtain ⟨rfl, rfl, h⟩ := pO hpq
        rw [em]
        refine z_istore9 168 dL_rode_166 (Nat.le_of_ble_eq_true rfl) rfl rfl ?_
        refine z_iconst 169 dL_rode_168 rfl ?_
        refine z_istore10 171 dL_rode_169 (Nat.le_of_ble_eq_true rfl) rfl rfl ?_
        refine z_iload5 173 dL_rode_171 rfl ?_
        refine z_iload6 175 dL_rode_173 rfl ?_
        refine z_ishr 176 dL_rode_175 rfl ?_
        refine z_iconst 177 dL_rode_176 rfl ?_
        refine z_iand 178 dL_rode_177 rfl ?_
        rw [eb, b1]
        refine z_iconst 179 dL_rode_178 rfl ?_
        refine z_icmp_ne 186 182 dL_rode_179 (by decide) rfl (by omega) (by omega) (fun h179 => ?_) (fun hz => absurd hz ((by omega)))
        refine z_iconst 187 dL_rode_186 rfl ?_
        refine z_iload7 189 dL_rode_187 rfl ?_
        refine z_bipush 191 dL_rode_189 (by decide) rfl ?_
        refine z_icmp_ge 198 194 dL_rode_191 (by decide) rfl (by omega) (by omega) (fun h191 => ?_) (fun hz => absurd hz (by omega))
        refine z_iconst 199 dL_rode_198 rfl ?_
        refine z_icmp_ne 260 202 dL_rode_199 (by decide) rfl (by omega) (by omega) (fun hz => absurd hz ((by omega))) (fun h199 => ?_)
        refine z_iload8 204 dL_rode_202 rfl ?_
        refine z_bipush 206 dL_rode_204 (by decide) rfl ?_
        refine z_icmp_ne 213 209 dL_rode_206 (by decide) rfl (by omega) (by omega) (fun h206 => ?_) (fun hz => absurd hz ((by omega)))
        refine z_iconst 214 dL_rode_213 rfl ?_
        refine z_iload7 216 dL_rode_214 rfl ?_
        refine z_bipush 218 dL_rode_216 (by decide) rfl ?_
        refine z_icmp_ne 225 221 dL_rode_218 (by decide) rfl (by omega) (by omega) (fun h218 => ?_) (fun hz => absurd hz ((by omega)))
        refine z_iconst 226 dL_rode_225 rfl ?_
        refine z_icmp_ne 260 229 dL_rode_226 (by decide) rfl (by omega) (by omega) (fun hz => absurd hz ((by omega))) (fun h226 => ?_)
        refine z_iload9 231 dL_rode_229 rfl ?_
        refine z_bipush 233 dL_rode_231 (by decide) rfl ?_
        refine z_icmp_ne 240 236 dL_rode_233 (by decide) rfl (by omega) (by omega) (fun h233 => ?_) (fun hz => absurd hz ((by omega)))
        refine z_iconst 241 dL_rode_240 rfl ?_
        refine z_iload8 243 dL_rode_241 rfl ?_
        refine z_bipush 245 dL_rode_243 (by decide) rfl ?_
        refine z_icmp_ne 252 248 dL_rode_245 (by decide) rfl (by omega) (by omega) (fun h245 => ?_) (fun hz => absurd hz ((by omega)))
        refine z_iconst 253 dL_rode_252 rfl ?_
        refine z_icmp_ne 260 256 dL_rode_253 (by decide) rfl (by omega) (by omega) (fun hz => absurd hz ((by omega))) (fun h253 => ?_)
        refine z_iconst 257 dL_rode_256 rfl ?_
        refine z_goto 261 dL_rode_257 (by decide) ?_
        refine z_istore4 263 dL_rode_261 (Nat.le_of_ble_eq_true rfl) rfl rfl ?_
        refine z_iconst 264 dL_rode_263 rfl ?_
        refine z_istore11 266 dL_rode_264 (Nat.le_of_ble_eq_true rfl) rfl rfl ?_
        exact k2 _ _ _ _ _ _ _ rfl rfl h
theorem lp_rode59 {x c d : Nat} {y : Int} {Q : zQ} (hw : J0 157 0 = S 0 6) (hs : sh[157]? = some (20, 43)) (hg : gd S) (hx : x < 8) (hd2 : d < 2 ^ 5) (hd : ∀ r : Nat, (r : Int) < S 0 6 → (d.testBit r = true ↔ sfe S r = (x : Int)))
    (kk : ∀ (z8 z9 z10 z11 z12 z13 z14 z15 : zV) (I L : zI2) (R : zR2), pH sh J0 K0 Z0 I L R (pA S hh TS) → zE X mL_rode 0 0 9 [zR 0, zR 157, zL y, zX, zI 1, zI (c : Int), zI ((x : Int) + 1), zI (d : Int), z8, z9, z10, z11, z12, z13, z14, z15] [] sh I L R Q) : ∀ (m r : Nat) (z9 z10 z11 z12 z13 z14 z15 : zV) (I L : zI2) (R : zR2), r + m = (S 0 6).toNat → pH sh J0 K0 Z0 I L R (pA S hh TS) →
    zE X mL_rode 0 0 59 [zR 0, zR 157, zL y, zX, zI 1, zI (c : Int), zI (x : Int), zI (d : Int), zI (r : Int), z9, z10, z11, z12, z13, z14, z15] [] sh I L R Q
  | 0, r, z9, z10, z11, z12, z13, z14, z15, I, L, R, hm, h => by
    have n5 := hg.n5
    refine z_iload8 61 dL_rode_59 rfl ?_
    refine z_aload1 62 dL_rode_61 rfl ?_
    refine z_iconst 63 dL_rode_62 rfl ?_
    refine z_ialdx 64 (0) dL_rode_63 (by assumption) (by omega) (by omega) ((congrFun (h.2 157 (by decide)).1 0).trans hw) rfl ?_
    refine z_icmp_ge 120 67 dL_rode_64 (by decide) rfl (by omega) (by omega) (fun h64 => ?_) (fun hz => absurd hz (by omega))
    refine z_iinc6 123 dL_rode_120 (Nat.le_of_ble_eq_true rfl) rfl rfl ?_
    refine z_goto 9 dL_rode_123 (by decide) ?_
    exact kk _ _ _ _ _ _ _ _ _ _ _ h
  | m + 1, r, z9, z10, z11, z12, z13, z14, z15, I, L, R, hm, h => by
    have s0 := h.sh0
    have n5 := hg.n5
    have hr : (r : Int) < S 0 6 := by omega
    have hre := sfe_r S r hg.sr (by omega)
    have eb : zand (zshr (d : Int) (r : Int)) 1 = bti d r := zb_bit (by omega) (by omega)
    have hb := hd r hr
    have kr := fun z9 z10 z11 z12 z13 z14 z15 I L R => lp_rode59 hw hs hg hx hd2 hd kk m (r + 1) z9 z10 z11 z12 z13 z14 z15 I L R (by omega)
    by_cases h8 : sfe S r = (x : Int)
    · have b1 : bti d r = 1 := bti_1.mpr (hb.mpr h8)
      clear hb
      refine z_iload8 61 dL_rode_59 rfl ?_
      refine z_aload1 62 dL_rode_61 rfl ?_
      refine z_iconst 63 dL_rode_62 rfl ?_
      refine z_ialdx 64 (0) dL_rode_63 (by assumption) (by omega) (by omega) ((congrFun (h.2 157 (by decide)).1 0).trans hw) rfl ?_
      refine z_icmp_ge 120 67 dL_rode_64 (by decide) rfl (by omega) (by omega) (fun hz => absurd hz (by omega)) (fun h64 => ?_)
      refine z_iload4 69 dL_rode_67 rfl ?_
      refine z_if_eq 120 72 dL_rode_69 (by decide) rfl (by omega) (fun hz => absurd hz ((by omega))) (fun h69 => ?_)
      refine z_aload0 73 dL_rode_72 rfl ?_
      refine z_iload8 75 dL_rode_73 rfl ?_
      refine z_pV1 78 dL_rode_75 lk_L_rode_130 (pc_ends h n5.2 hr) rfl (Nat.le_of_ble_eq_true rfl) (Nat.le_of_ble_eq_true rfl) (by assumption) rfl rfl (fun r0 sh0 I0 L0 R0 hpq => ?_)
      obtain ⟨rfl, rfl, h⟩ := pO hpq
      show zE X mL_rode 0 0 78 _ [zI (sfe S r)] sh _ _ _ _
      refine z_iload6 80 dL_rode_78 rfl ?_
      refine z_icmp_ne 87 83 dL_rode_80 (by decide) rfl (by omega) (by omega) (fun hz => absurd hz ((by omega))) (fun h80 => ?_)
      refine z_iconst 84 dL_rode_83 rfl ?_
      refine z_goto 88 dL_rode_84 (by decide) ?_
      refine z_iload7 90 dL_rode_88 rfl ?_
      refine z_iload8 92 dL_rode_90 rfl ?_
      refine z_ishr 93 dL_rode_92 rfl ?_
      refine z_iconst 94 dL_rode_93 rfl ?_
      refine z_iand 95 dL_rode_94 rfl ?_
      rw [eb, b1]
      refine z_iconst 96 dL_rode_95 rfl ?_
      refine z_icmp_ne 103 99 dL_rode_96 (by decide) rfl (by omega) (by omega) (fun hz => absurd hz ((by omega))) (fun h96 => ?_)
      refine z_iconst 100 dL_rode_99 rfl ?_
      refine z_goto 104 dL_rode_100 (by decide) ?_
      refine z_icmp_ne 111 107 dL_rode_104 (by decide) rfl (by omega) (by omega) (fun hz => absurd hz ((by omega))) (fun h104 => ?_)
      refine z_iconst 108 dL_rode_107 rfl ?_
      refine z_goto 112 dL_rode_108 (by decide) ?_
      refine z_istore4 114 dL_rode_112 (Nat.le_of_ble_eq_true rfl) rfl rfl ?_
      refine z_iinc8 117 dL_rode_114 (Nat.le_of_ble_eq_true rfl) rfl rfl ?_
      refine z_goto 59 dL_rode_117 (by decide) ?_
      exact kr _ _ _ _ _ _ _ _ _ _ h
    · have b1 : bti d r = 0 := bti_0.mpr (by
        rw [Bool.eq_false_iff]
        intro z
        exact h8 (hb.mp z))
      clear hb
      refine z_iload8 61 dL_rode_59 rfl ?_
      refine z_aload1 62 dL_rode_61 rfl ?_
      refine z_iconst 63 dL_rode_62 rfl ?_
      refine z_ialdx 64 (0) dL_rode_63 (by assumption) (by omega) (by omega) ((congrFun (h.2 157 (by decide)).1 0).trans hw) rfl ?_
      refine z_icmp_ge 120 67 dL_rode_64 (by decide) rfl (by omega) (by omega) (fun hz => absurd hz (by omega)) (fun h64 => ?_)
      refine z_iload4 69 dL_rode_67 rfl ?_
      refine z_if_eq 120 72 dL_rode_69 (by decide) rfl (by omega) (fun hz => absurd hz ((by omega))) (fun h69 => ?_)
      refine z_aload0 73 dL_rode_72 rfl ?_
      refine z_iload8 75 dL_rode_73 rfl ?_
      refine z_pV1 78 dL_rode_75 lk_L_rode_130 (pc_ends h n5.2 hr) rfl (Nat.le_of_ble_eq_true rfl) (Nat.le_of_ble_eq_true rfl) (by assumption) rfl rfl (fun r0 sh0 I0 L0 R0 hpq => ?_)
      obtain ⟨rfl, rfl, h⟩ := pO hpq
      show zE X mL_rode 0 0 78 _ [zI (sfe S r)] sh _ _ _ _
      refine z_iload6 80 dL_rode_78 rfl ?_
      refine z_icmp_ne 87 83 dL_rode_80 (by decide) rfl (by omega) (by omega) (fun h80 => ?_) (fun hz => absurd hz (h8))
      refine z_iconst 88 dL_rode_87 rfl ?_
      refine z_iload7 90 dL_rode_88 rfl ?_
      refine z_iload8 92 dL_rode_90 rfl ?_
      refine z_ishr 93 dL_rode_92 rfl ?_
      refine z_iconst 94 dL_rode_93 rfl ?_
      refine z_iand 95 dL_rode_94 rfl ?_
      rw [eb, b1]
      refine z_iconst 96 dL_rode_95 rfl ?_
      refine z_icmp_ne 103 99 dL_rode_96 (by decide) rfl (by omega) (by omega) (fun h96 => ?_) (fun hz => absurd hz ((by omega)))
      refine z_iconst 104 dL_rode_103 rfl ?_
      refine z_icmp_ne 111 107 dL_rode_104 (by decide) rfl (by omega) (by omega) (fun hz => absurd hz ((by omega))) (fun h104 => ?_)
      refine z_iconst 108 dL_rode_107 rfl ?_
      refine z_goto 112 dL_rode_108 (by decide) ?_
      refine z_istore4 114 dL_rode_112 (Nat.le_of_ble_eq_true rfl) rfl rfl ?_
      refine z_iinc8 117 dL_rode_114 (Nat.le_of_ble_eq_true rfl) rfl rfl ?_
      refine z_goto 59 dL_rode_117 (by decide) ?_
      exact kr _ _ _ _ _ _ _ _ _ _ h
theorem lp_rode9 (hs : sh[157]? = some (20, 43)) (hw : J0 157 0 = S 0 6) (hg : gd S) (h7 : S 0 7 ≤ 100) : ∀ (m x c : Nat) (z7 z8 z9 z10 z11 z12 z13 z14 z15 : zV) (I L : zI2) (R : zR2), x + m = 8 → c < 2 ^ 5 → (∀ r : Nat, (c.testBit r = true ↔ ((r : Int) < S 0 6 ∧ ∃ y : Nat, y < x ∧ sfe S r = (y : Int)))) → pH sh J0 K0 Z0 I L R (pA S hh TS) → zE X mL_rode 0 0 9 [zR 0, zR 157, zL (phash (pA S hh TS)), zX, zI 1, zI (c : Int), zI (x : Int), z7, z8, z9, z10, z11, z12, z13, z14, z15] [] sh I L R (zOp sh J0 K0 Z0 (zI 1) (pA S hh TS))
  | 0, x, c, z7, z8, z9, z10, z11, z12, z13, z14, z15, I, L, R, hm, hc2, hc, h => by
    have n5 := hg.n5
    have k := lp_rode129 (X := X) (J0 := J0) (K0 := K0) (Z0 := Z0) (hh := hh) (TS := TS) hs hw hg h7 hc2 (fun r hr => by
      have hre := sfe_r S r hg.sr (by omega)
      rw [hc r]
      constructor
      · rintro ⟨_, y, a, b⟩; omega
      · intro a; exact ⟨hr, (sfe S r).toNat, by omega, by omega⟩) (S 0 6).toNat 0
    refine z_iload6 11 dL_rode_9 rfl ?_
    refine z_bipush 13 dL_rode_11 (by decide) rfl ?_
    refine z_icmp_ge 126 16 dL_rode_13 (by decide) rfl (by omega) (by omega) (fun h13 => ?_) (fun hz => absurd hz (by omega))
    refine z_iconst 127 dL_rode_126 rfl ?_
    refine z_istore6 129 dL_rode_127 (Nat.le_of_ble_eq_true rfl) rfl rfl ?_
    exact k _ _ _ _ _ _ _ _ _ _ _ _ (by omega) h
  | m + 1, x, c, z7, z8, z9, z10, z11, z12, z13, z14, z15, I, L, R, hm, hc2, hc, h => by
    have s0 := h.sh0
    have n5 := hg.n5
    obtain ⟨d, d1, d2, d3⟩ := zst_0 (P := fun i => sfe S i = (x : Int)) (n := 5) (by omega) (m := (S 0 6).toNat) (by omega)
    have ed : swho S (x : Int) (S 0 6).toNat 0 0 = (d : Int) := (swho_z S _ _ _ _).trans d1
    have e0 : d &&& c = 0 := by
      apply Nat.eq_of_testBit_eq
      intro j
      rw [Nat.testBit_and, Nat.zero_testBit, Bool.and_eq_false_iff]
      by_cases hj : d.testBit j = true
      · right
        rw [Bool.eq_false_iff]
        intro z
        obtain ⟨_, y, a, b⟩ := (hc j).mp z
        have := (d3 j).mp hj
        omega
      · left
        simpa using hj
    have ea : zand (d : Int) (c : Int) = 0 := by rw [zb_and (by omega), e0]; rfl
    have eo : zor (c : Int) (d : Int) = ((c ||| d : Nat) : Int) := zb_or (by omega) (by omega)
    have kr := fun z8 z9 z10 z11 z12 z13 z14 z15 I L R => lp_rode9 hs hw hg h7 m (x + 1) (c ||| d) (zI (d : Int)) z8 z9 z10 z11 z12 z13 z14 z15 I L R (by omega) (Nat.or_lt_two_pow hc2 d2) (fun r => by
      rw [Nat.testBit_or, Bool.or_eq_true, hc r, d3 r]
      constructor
      · rintro (⟨a, y, b, e⟩ | ⟨a, e⟩)
        · exact ⟨a, y, by omega, e⟩
        · exact ⟨by omega, x, by omega, e⟩
      · rintro ⟨a, y, b, e⟩
        by_cases hy : y = x
        · subst hy; exact Or.inr ⟨by omega, e⟩
        · exact Or.inl ⟨a, y, by omega, e⟩)
    have k5 := lp_rode59 (X := X) (J0 := J0) (K0 := K0) (Z0 := Z0) (x := x) (c := c ||| d) (y := phash (pA S hh TS)) (hh := hh) (TS := TS) hw hs hg (by omega) d2 (fun r hr => by
      rw [d3 r]
      constructor
      · rintro ⟨_, b⟩; exact b
      · intro b; exact ⟨by omega, b⟩) kr (S 0 6).toNat 0
    clear hc d3
    refine z_iload6 11 dL_rode_9 rfl ?_
    refine z_bipush 13 dL_rode_11 (by decide) rfl ?_
    refine z_icmp_ge 126 16 dL_rode_13 (by decide) rfl (by omega) (by omega) (fun hz => absurd hz (by omega)) (fun h13 => ?_)
    refine z_iload4 18 dL_rode_16 rfl ?_
    refine z_if_eq 126 21 dL_rode_18 (by decide) rfl (by omega) (fun hz => absurd hz ((by omega))) (fun h18 => ?_)
    refine z_aload0 22 dL_rode_21 rfl ?_
    refine z_iload6 24 dL_rode_22 rfl ?_
    refine z_pV1 27 dL_rode_24 lk_L_rode_127 (pc_who h (by omega)) rfl (Nat.le_of_ble_eq_true rfl) (Nat.le_of_ble_eq_true rfl) (by assumption) rfl rfl (fun r0 sh0 I0 L0 R0 hpq => ?_)
    obtain ⟨rfl, rfl, h⟩ := pO hpq
    rw [show (pA S hh TS).1 = S from rfl, ed]
    refine z_istore7 29 dL_rode_27 (Nat.le_of_ble_eq_true rfl) rfl rfl ?_
    refine z_iload7 31 dL_rode_29 rfl ?_
    refine z_iload5 33 dL_rode_31 rfl ?_
    refine z_iand 34 dL_rode_33 rfl ?_
    rw [ea]
    refine z_if_ne 46 37 dL_rode_34 (by decide) rfl (by omega) (fun hz => absurd hz ((by omega))) (fun h34 => ?_)
    refine z_iload7 39 dL_rode_37 rfl ?_
    refine z_if_lt 46 42 dL_rode_39 (by decide) rfl (by omega) (fun hz => absurd hz (by omega)) (fun h39 => ?_)
    refine z_iconst 43 dL_rode_42 rfl ?_
    refine z_goto 47 dL_rode_43 (by decide) ?_
    refine z_istore4 49 dL_rode_47 (Nat.le_of_ble_eq_true rfl) rfl rfl ?_
    refine z_iload5 51 dL_rode_49 rfl ?_
    refine z_iload7 53 dL_rode_51 rfl ?_
    refine z_ior 54 dL_rode_53 rfl ?_
    rw [eo]
    refine z_istore5 56 dL_rode_54 (Nat.le_of_ble_eq_true rfl) rfl rfl ?_
    refine z_iconst 57 dL_rode_56 rfl ?_
    refine z_istore8 59 dL_rode_57 (Nat.le_of_ble_eq_true rfl) rfl rfl ?_
    exact k5 _ _ _ _ _ _ _ _ _ _ (by omega) h
theorem ct_L_rode {I L : zI2} {R : zR2} (hs : sh[157]? = some (20, 43)) (hw : J0 157 0 = S 0 6) (hg : gd S) (h7 : S 0 7 ≤ 100) (h : pH sh J0 K0 Z0 I L R (pA S hh TS)) : zE X mL_rode 0 0 0 [zR 0, zR 157, zL (phash (pA S hh TS)), zX, zX, zX, zX, zX, zX, zX, zX, zX, zX, zX, zX, zX] [] sh I L R (zOp sh J0 K0 Z0 (zI 1) (pA S hh TS)) := by
  refine z_iconst 1 dL_rode_0 rfl ?_
  refine z_istore4 3 dL_rode_1 (Nat.le_of_ble_eq_true rfl) rfl rfl ?_
  refine z_iconst 4 dL_rode_3 rfl ?_
  refine z_istore5 6 dL_rode_4 (Nat.le_of_ble_eq_true rfl) rfl rfl ?_
  refine z_iconst 7 dL_rode_6 rfl ?_
  refine z_istore6 9 dL_rode_7 (Nat.le_of_ble_eq_true rfl) rfl rfl ?_
  exact lp_rode9 hs hw hg h7 8 0 0 _ _ _ _ _ _ _ _ _ _ _ _ rfl (by decide) (fun r => by rw [Nat.zero_testBit]; constructor; (intro z; cases z); (rintro ⟨_, y, b, _⟩; omega)) h
end RODE
