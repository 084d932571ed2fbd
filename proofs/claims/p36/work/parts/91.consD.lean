/-! ===== the constructor of the reference ===== -/
section CONS
variable {X : zXs} {sh : zH} {I L : zI2} {R : zR2} {Q : zQ}
def x7I (I : zI2) : zI2 := zup (zup (zup (zup (zup (zup (zup (zup (zup (zup (zup (zup (zup (zup (zup I 158 2 1) 158 3 1) 158 4 1) 158 5 1) 158 6 1) 158 7 1) 158 8 1) 158 9 1) 158 10 1) 158 11 1) 158 12 1) 169 0 (-1)) 169 1 (-1)) 169 2 (-1)) 169 3 (-1)
def x7s (sh : zH) : zH := sh ++ [(20, 43)] ++ [(20, 10)] ++ [(20, 70)] ++ [(20, 20)] ++ [(20, 15)] ++ [(20, 344)] ++ [(20, 43)] ++ [(20, 5)] ++ [(20, 5)] ++ [(20, 5)] ++ [(20, 387)] ++ [(20, 4)] ++ [(20, 4)] ++ [(21, 96)] ++ [(21, 24)]
def x7z (I : zI2) : zI2 := zrow (zrow (zrow (zrow (zrow (zrow (zrow (zrow (zrow (zrow (zrow (zrow (zrow (zrow (zrow (zrow I 157 fun _ => 0) 158 fun _ => 0) 159 fun _ => 0) 160 fun _ => 0) 161 fun _ => 0) 162 fun _ => 0) 163 fun _ => 0) 164 fun _ => 0) 165 fun _ => 0) 166 fun _ => 0) 167 fun _ => 0) 168 fun _ => 0) 169 fun _ => 0) 170 fun _ => 0) 171 fun _ => 0) 172 fun _ => 0
def x7l (L : zI2) : zI2 := zrow (zrow (zrow (zrow (zrow (zrow (zrow (zrow (zrow (zrow (zrow (zrow (zrow (zrow (zrow (L) 158 fun _ => 0) 159 fun _ => 0) 160 fun _ => 0) 161 fun _ => 0) 162 fun _ => 0) 163 fun _ => 0) 164 fun _ => 0) 165 fun _ => 0) 166 fun _ => 0) 167 fun _ => 0) 168 fun _ => 0) 169 fun _ => 0) 170 fun _ => 0) 171 fun _ => 0) 172 fun _ => 0
def x7r (R : zR2) : zR2 := zupR (zupR (zupR (zupR (zupR (zupR (zupR (zupR (zupR (zupR (zupR (zupR (zupR (zupR (zupR (zrowR R 157 fun _ => none) 157 0 (some 158)) 157 1 (some 159)) 157 2 (some 160)) 157 6 (some 161)) 157 7 (some 162)) 157 8 (some 163)) 157 10 (some 164)) 157 11 (some 165)) 157 12 (some 166)) 157 13 (some 167)) 157 14 (some 168)) 157 17 (some 169)) 157 18 (some 170)) 157 19 (some 171)) 157 20 (some 172)
theorem x7_Ms (ho : sh[157]? = some (7, 21)) (hl : sh.length = 158) : zMs (x7s sh) (x7r R) := by
  refine ⟨⟨zg_l (zg_l (zg_l (zg_l (zg_l (zg_l (zg_l (zg_l (zg_l (zg_l (zg_l (zg_l (zg_l (zg_l (zg_l (ho))))))))))))))), (zg_l (zg_l (zg_l (zg_l (zg_l (zg_l (zg_l (zg_l (zg_l (zg_l (zg_l (zg_l (zg_l (zg_l (zg_r (by first | omega | (simp only [List.length_append, List.length_cons, List.length_nil]; omega))))))))))))))))), (zg_l (zg_l (zg_l (zg_l (zg_l (zg_l (zg_l (zg_l (zg_l (zg_l (zg_l (zg_l (zg_l (zg_r (by first | omega | (simp only [List.length_append, List.length_cons, List.length_nil]; omega)))))))))))))))), (zg_l (zg_l (zg_l (zg_l (zg_l (zg_l (zg_l (zg_l (zg_l (zg_l (zg_l (zg_l (zg_r (by first | omega | (simp only [List.length_append, List.length_cons, List.length_nil]; omega))))))))))))))), (zg_l (zg_l (zg_l (zg_l (zg_l (zg_l (zg_l (zg_l (zg_l (zg_l (zg_l (zg_r (by first | omega | (simp only [List.length_append, List.length_cons, List.length_nil]; omega)))))))))))))), (zg_l (zg_l (zg_l (zg_l (zg_l (zg_l (zg_l (zg_l (zg_l (zg_l (zg_r (by first | omega | (simp only [List.length_append, List.length_cons, List.length_nil]; omega))))))))))))), (zg_l (zg_l (zg_l (zg_l (zg_l (zg_l (zg_l (zg_l (zg_l (zg_r (by first | omega | (simp only [List.length_append, List.length_cons, List.length_nil]; omega)))))))))))), (zg_l (zg_l (zg_l (zg_l (zg_l (zg_l (zg_l (zg_l (zg_r (by first | omega | (simp only [List.length_append, List.length_cons, List.length_nil]; omega))))))))))), (zg_l (zg_l (zg_l (zg_l (zg_l (zg_l (zg_l (zg_r (by first | omega | (simp only [List.length_append, List.length_cons, List.length_nil]; omega)))))))))), (zg_l (zg_l (zg_l (zg_l (zg_l (zg_l (zg_r (by first | omega | (simp only [List.length_append, List.length_cons, List.length_nil]; omega))))))))), (zg_l (zg_l (zg_l (zg_l (zg_l (zg_r (by first | omega | (simp only [List.length_append, List.length_cons, List.length_nil]; omega)))))))), (zg_l (zg_l (zg_l (zg_l (zg_r (by first | omega | (simp only [List.length_append, List.length_cons, List.length_nil]; omega))))))), (zg_l (zg_l (zg_l (zg_r (by first | omega | (simp only [List.length_append, List.length_cons, List.length_nil]; omega)))))), (zg_l (zg_l (zg_r (by first | omega | (simp only [List.length_append, List.length_cons, List.length_nil]; omega))))), (zg_l (zg_r (by first | omega | (simp only [List.length_append, List.length_cons, List.length_nil]; omega)))), (zg_r (by first | omega | (simp only [List.length_append, List.length_cons, List.length_nil]; omega)))⟩, rfl, rfl, rfl, rfl, rfl, rfl, rfl, rfl, rfl, rfl, rfl, rfl, rfl, rfl, rfl⟩
theorem x7_s {a : Nat} {v : Nat × Nat} (h : sh[a]? = some v) : (x7s sh)[a]? = some v := zg_l (zg_l (zg_l (zg_l (zg_l (zg_l (zg_l (zg_l (zg_l (zg_l (zg_l (zg_l (zg_l (zg_l (zg_l (h)))))))))))))))
theorem x7_I {a : Nat} (h : a < 157) : x7I (x7z I) a = I a := by
  funext b
  simp only [x7I, x7z, zup, zrow]
  repeat rw [if_neg (by omega)]
theorem x7_L {a : Nat} (h : a < 157) : x7l L a = L a := by
  funext b
  simp only [x7l, zrow]
  repeat rw [if_neg (by omega)]
theorem x7_R {a : Nat} (h : a < 157) : x7r R a = R a := by
  funext b
  simp only [x7r, zupR, zrowR]
  repeat rw [if_neg (by omega)]
def x7N : Nat → Int := x7I (fun _ _ => 0) 158
def x7K : Nat → Int := x7I (fun _ _ => 0) 169
theorem x7_N : x7I (x7z I) 158 = x7N := rfl
theorem x7_K : x7I (x7z I) 169 = x7K := rfl
theorem x7_re : mRe x7N zS0 := by
  have h0 : nvw x7N 0 6 = 0 ∧ nvw x7N 0 7 = 0 ∧ nvw x7N 0 8 = 1 := by decide +kernel
  have h1 : ∀ t, t < 10 → nvw x7N 1 t = 1 ∧ nvw x7N 2 t = 0 := by decide +kernel
  have h2 : ∀ r, r < 5 → nvw x7N 3 r = 0 ∧ nvw x7N 4 r = 0 ∧ nvw x7N 5 r = 0 ∧ nvw x7N 6 r = 0 := by decide +kernel
  refine ⟨⟨⟨by omega, fun t h => ?_, fun t h => ?_, fun r h => ?_, fun r h => ?_, fun r h => ?_, fun r h => ?_⟩, by omega, by omega⟩, h0, h1, fun r h => by omega⟩
  · have := h1 t h; omega
  · have := h1 t h; omega
  · have := h2 r h; omega
  · have := h2 r h; omega
  · have := h2 r h; omega
  · have := h2 r h; omega
theorem x7_CA (ho : sh[157]? = some (7, 21)) (hl : sh.length = 158) : mCA (x7s sh) (x7r R) (x7I (x7z I)) (x7l L) zA0 := by
  refine ⟨x7_Ms ho hl, ?_, ⟨rfl, Nat.zero_le 8, fun i s hs => by cases hs⟩, rfl, ⟨rfl, Nat.zero_le 70, fun j x hx => by cases hx⟩, fun k hk => ?_⟩
  · rw [x7_N]
    exact x7_re
  · have h1 : ∀ k, k < 4 → x7K k = -1 := by decide +kernel
    refine ⟨⟨?_, Or.inl rfl⟩, Or.inl rfl, ⟨?_, ?_⟩, fun j hj => ⟨rfl, (by decide : (-9223372036854775808 : Int) ≤ 0), (by decide : (0 : Int) ≤ 9223372036854775807)⟩⟩
    · rw [x7_K]
      exact h1 k hk
    · exact Int.le_refl 0
    · exact (by decide : (0 : Int) ≤ 24)
end CONS
