/-! ===== within and its kin; Arrays.fill ===== -/
def zwi (v lo hi : Int) : Int := if lo ≤ v ∧ v ≤ hi then 1 else 0
theorem zwi_1 {v lo hi : Int} (h : lo ≤ v ∧ v ≤ hi) : zwi v lo hi = 1 := by simp [zwi, h]
theorem zwi_0 {v lo hi : Int} (h : ¬ (lo ≤ v ∧ v ≤ hi)) : zwi v lo hi = 0 := by simp only [zwi, if_neg h]
theorem zwi_r (v lo hi : Int) : zwi v lo hi = 0 ∨ zwi v lo hi = 1 := by unfold zwi; split <;> simp
section SLIDEA
variable {X : zXs} {sh : zH} {I L : zI2} {R : zR2}
theorem ct_X6_within {v lo hi : Int} (hv : -2147483648 ≤ v ∧ v ≤ 2147483647) (hlo : -2147483648 ≤ lo ∧ lo ≤ 2147483647) (hhi : -2147483648 ≤ hi ∧ hi ≤ 2147483647) : zE X mX6_within 0 0 0 [zI v, zI lo, zI hi] [] sh I L R (zEq [zI (zwi v lo hi)] sh I L R) := by
  refine z_iload0 1 dX6_within_0 rfl ?_
  refine z_iload1 2 dX6_within_1 rfl ?_
  refine z_icmp_lt 14 5 dX6_within_2 (by decide) rfl (by omega) (by omega) (fun h2 => ?_) (fun h2 => ?_)
  · refine z_iconst 15 dX6_within_14 rfl ?_
    exact z_zreturn dX6_within_15 rfl (by omega) (⟨by unfold zwi; (first | rw [if_pos (by omega)] | rw [if_neg (by omega)]), rfl, rfl, rfl, rfl⟩)
  · refine z_iload0 6 dX6_within_5 rfl ?_
    refine z_iload2 7 dX6_within_6 rfl ?_
    refine z_icmp_gt 14 10 dX6_within_7 (by decide) rfl (by omega) (by omega) (fun h7 => ?_) (fun h7 => ?_)
    · refine z_iconst 15 dX6_within_14 rfl ?_
      exact z_zreturn dX6_within_15 rfl (by omega) (⟨by unfold zwi; (first | rw [if_pos (by omega)] | rw [if_neg (by omega)]), rfl, rfl, rfl, rfl⟩)
    · refine z_iconst 11 dX6_within_10 rfl ?_
      refine z_goto 15 dX6_within_11 (by decide) ?_
      exact z_zreturn dX6_within_15 rfl (by omega) (⟨by unfold zwi; (first | rw [if_pos (by omega)] | rw [if_neg (by omega)]), rfl, rfl, rfl, rfl⟩)
theorem ct_X6_isTurn {v : Int} (hv : -2147483648 ≤ v ∧ v ≤ 2147483647) : zE X mX6_isTurn 0 0 0 [zI v] [] sh I L R (zEq [zI (zwi v 0 9)] sh I L R) := by
  have h := zwi_r v 0 9
  refine z_iload0 1 dX6_isTurn_0 rfl ?_
  refine z_iconst 2 dX6_isTurn_1 rfl ?_
  refine z_bipush 4 dX6_isTurn_2 (by decide) rfl ?_
  refine z_xS3 7 dX6_isTurn_4 lk_X6_isTurn_71 (ct_X6_within (by omega) (by omega) (by omega)) rfl (Nat.le_of_ble_eq_true rfl) (Nat.le_of_ble_eq_true rfl) rfl ?_
  exact z_zreturn dX6_isTurn_7 rfl (by omega) (⟨rfl, rfl, rfl, rfl, rfl⟩)
theorem ct_X6_isOutcome {v : Int} (hv : -2147483648 ≤ v ∧ v ≤ 2147483647) : zE X mX6_isOutcome 0 0 0 [zI v] [] sh I L R (zEq [zI (zwi v 0 7)] sh I L R) := by
  have h := zwi_r v 0 7
  refine z_iload0 1 dX6_isOutcome_0 rfl ?_
  refine z_iconst 2 dX6_isOutcome_1 rfl ?_
  refine z_bipush 4 dX6_isOutcome_2 (by decide) rfl ?_
  refine z_xS3 7 dX6_isOutcome_4 lk_X6_isOutcome_71 (ct_X6_within (by omega) (by omega) (by omega)) rfl (Nat.le_of_ble_eq_true rfl) (Nat.le_of_ble_eq_true rfl) rfl ?_
  exact z_zreturn dX6_isOutcome_7 rfl (by omega) (⟨rfl, rfl, rfl, rfl, rfl⟩)
theorem ct_X6_isSheet {v : Int} (hv : -2147483648 ≤ v ∧ v ≤ 2147483647) : zE X mX6_isSheet 0 0 0 [zI v] [] sh I L R (zEq [zI (zwi v 0 3)] sh I L R) := by
  have h := zwi_r v 0 3
  refine z_iload0 1 dX6_isSheet_0 rfl ?_
  refine z_iconst 2 dX6_isSheet_1 rfl ?_
  refine z_iconst 3 dX6_isSheet_2 rfl ?_
  refine z_xS3 6 dX6_isSheet_3 lk_X6_isSheet_71 (ct_X6_within (by omega) (by omega) (by omega)) rfl (Nat.le_of_ble_eq_true rfl) (Nat.le_of_ble_eq_true rfl) rfl ?_
  exact z_zreturn dX6_isSheet_6 rfl (by omega) (⟨rfl, rfl, rfl, rfl, rfl⟩)
theorem ct_X6_isLane {v : Int} (hv : -2147483648 ≤ v ∧ v ≤ 2147483647) : zE X mX6_isLane 0 0 0 [zI v] [] sh I L R (zEq [zI (zwi v 0 3)] sh I L R) := by
  have h := zwi_r v 0 3
  refine z_iload0 1 dX6_isLane_0 rfl ?_
  refine z_iconst 2 dX6_isLane_1 rfl ?_
  refine z_iconst 3 dX6_isLane_2 rfl ?_
  refine z_xS3 6 dX6_isLane_3 lk_X6_isLane_71 (ct_X6_within (by omega) (by omega) (by omega)) rfl (Nat.le_of_ble_eq_true rfl) (Nat.le_of_ble_eq_true rfl) rfl ?_
  exact z_zreturn dX6_isLane_6 rfl (by omega) (⟨rfl, rfl, rfl, rfl, rfl⟩)
end SLIDEA
