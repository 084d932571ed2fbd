/-! ===== the law's ordered ===== -/
def oQ (A : zA) : zQ := fun r' sh' I' L' R' => r' = [zI 1] ∧ (∃ P, zCA sh' R' P I' L' A) ∧ sh'[157]? = some (20, 43) ∧ 158 ≤ sh'.length ∧ I' 157 0 = A.1 0 6
section ORDERED
variable {X : zXs} {sh : zH} {S : zT} {hh : List zT} {TS : List Int × (Nat → Int × (Int × (Nat → Int)))} {q : Nat} {p : Nat → Nat} {many : Int} {top : Nat}
theorem lp_ordered245 {F2 : zT} {z6 : zV} {a9 : Int} (hs : sh[157]? = some (20, 43)) (hl : 158 ≤ sh.length) (hg0 : gd S) (ht2 : top < 2 ^ 5) (htop : ∀ j, (top.testBit j = true ↔ ((j : Int) < S 0 6 ∧ S 6 j = 30))) (hm0 : 0 ≤ many ∧ many ≤ 5) (hF2 : pcn (sthr F2) ≤ many) : ∀ (m r : Nat) (T : zT) (B : List zT) (J K : zI2) (Z : zR2) (I L : zI2) (R : zR2), r + m = (S 0 6).toNat → csq (S 6) m r T = F2 → gd T → T 0 6 = S 0 6 → T 0 7 ≤ 200 + r → (∀ j : Nat, r ≤ j → (j : Int) < S 0 6 → S 6 j = 30 → T 6 j = 30) → J 157 0 = S 0 6 → pH sh J K Z I L R (T, (B, (some (S, hh), TS))) → zE X mL_ordered 0 0 245 [zR 0, zR 157, zL (phash (pA S hh TS)), zX, zI many, zI (top : Int), z6, zR q, zI 1, zI a9, zI (r : Int)] [] sh I L R (oQ (pA S hh TS))
  | 0, r, T, B, J, K, Z, I, L, R, hm, hF, hg, e6, e7, ht, hw, h => by
    have s0 := h.sh0
    have n5 := hg0.n5
    have h5 : 0 ≤ sthr T ∧ sthr T ≤ 31 := sthr_5 (by omega)
    have hF' : T = F2 := hF
    rw [← hF'] at hF2
    have hpc := pcn_r (x := sthr T)
    refine z_iload10 247 dL_ordered_245 rfl ?_
    refine z_aload1 248 dL_ordered_247 rfl ?_
    refine z_iconst 249 dL_ordered_248 rfl ?_
    refine z_ialdx 250 (0) dL_ordered_249 (by assumption) (by omega) (by omega) ((congrFun (h.2 157 (by decide)).1 0).trans hw) rfl ?_
    refine z_icmp_ge 290 253 dL_ordered_250 (by decide) rfl (by omega) (by omega) (fun h250 => ?_) (fun hz => absurd hz (by omega))
    refine z_iload8 292 dL_ordered_290 rfl ?_
    refine z_if_eq 330 295 dL_ordered_292 (by decide) rfl (by omega) (fun hz => absurd hz ((by omega))) (fun h292 => ?_)
    refine z_aload0 296 dL_ordered_295 rfl ?_
    refine z_iconst 297 dL_ordered_296 rfl ?_
    refine z_pV1 300 dL_ordered_297 lk_L_ordered_59 (pc_count3 h) rfl (Nat.le_of_ble_eq_true rfl) (Nat.le_of_ble_eq_true rfl) (by assumption) rfl rfl (fun r0 sh0 I0 L0 R0 hpq => ?_)
    obtain ⟨rfl, rfl, h⟩ := pO hpq
    show zE X mL_ordered 0 0 300 _ [zI (sthr T)] sh _ _ _ _
    refine z_xS1 303 dL_ordered_300 lk_L_ordered_162 (ct_L_size h5) rfl (Nat.le_of_ble_eq_true rfl) (Nat.le_of_ble_eq_true rfl) rfl ?_
    refine z_iload4 305 dL_ordered_303 rfl ?_
    refine z_icmp_gt 330 308 dL_ordered_305 (by decide) rfl (by omega) (by omega) (fun hz => absurd hz (by omega)) (fun h305 => ?_)
    refine z_aload0 309 dL_ordered_308 rfl ?_
    refine z_pV0 312 dL_ordered_309 lk_L_ordered_120 (pc_restore h (q := (S, hh)) rfl) rfl (Nat.le_of_ble_eq_true rfl) (Nat.le_of_ble_eq_true rfl) (by assumption) rfl rfl (fun r0 sh0 I0 L0 R0 hpq => ?_)
    obtain ⟨rfl, rfl, h⟩ := pO hpq
    refine z_iconst 313 dL_ordered_312 rfl ?_
    refine z_icmp_ne 330 316 dL_ordered_313 (by decide) rfl (by omega) (by omega) (fun hz => absurd hz ((by omega))) (fun h313 => ?_)
    refine z_aload0 317 dL_ordered_316 rfl ?_
    refine z_aload1 318 dL_ordered_317 rfl ?_
    refine z_pS2 321 dL_ordered_318 lk_L_ordered_87 (ct_L_hash hs hw hg0 h) rfl (Nat.le_of_ble_eq_true rfl) (Nat.le_of_ble_eq_true rfl) rfl (fun r0 sh0 I0 L0 R0 hpq => ?_)
    obtain ⟨rfl, rfl, h⟩ := pO hpq
    refine z_lload2 322 dL_ordered_321 rfl ?_
    refine z_lcmpS 323 dL_ordered_322 rfl ?_
    refine z_if_ne 330 326 dL_ordered_323 (by decide) rfl (by omega) (fun hz => absurd hz (by omega)) (fun h323 => ?_)
    refine z_iconst 327 dL_ordered_326 rfl ?_
    refine z_goto 331 dL_ordered_327 (by decide) ?_
    exact z_zreturn dL_ordered_331 rfl (by omega) (⟨rfl, h.1, hs, hl, (congrFun (h.2 157 (by decide)).1 0).trans hw⟩)
  | m + 1, r, T, B, J, K, Z, I, L, R, hm, hF, hg, e6, e7, ht, hw, h => by
    have s0 := h.sh0
    have n5 := hg0.n5
    have hr : (r : Int) < S 0 6 := by omega
    have eb : zand (zshr (top : Int) (r : Int)) 1 = bti top r := zb_bit (by omega) (by omega)
    have hb := htop r
    by_cases h30 : S 6 r = 30
    · have b1 : bti top r = 1 := bti_1.mpr (hb.mpr ⟨hr, h30⟩)
      have t30 := ht r (Nat.le_refl _) hr h30
      have hre := sfe_r T r hg.sr (by omega)
      have ex : oRide (T, (B, (some (S, hh), TS))) (r : Int) = (sfe T r, (send T r, (oPush (T, (B, (some (S, hh), TS)))).2)) := by
        unfold oRide
        rw [Int.toNat_natCast, if_pos (by show 0 ≤ (r : Int) ∧ (r : Int) ≤ T 0 6 - 1; omega), if_neg (by show ¬ 9999 ≤ T 0 7; omega), if_pos t30]
      obtain ⟨B2, hB2⟩ : ∃ B2, (oPush (T, (B, (some (S, hh), TS)))).2 = (B2, (some (S, hh), TS)) := ⟨_, rfl⟩
      rw [hB2] at ex
      have hF' : csq (S 6) m (r + 1) (send T r) = F2 := by
        unfold csq at hF
        rw [if_pos h30] at hF
        exact hF
      have kr := fun J K Z I L R => lp_ordered245 (z6 := z6) (a9 := a9) hs hl hg0 ht2 htop hm0 hF2 m (r + 1) (send T r) B2 J K Z I L R (by omega) hF' (gd_send hg (by omega) t30 (by omega)) ((send_06 _ _ 6 (by decide)).trans e6) (by rw [psend_07]; omega) (fun j j1 j2 j3 => by
        have tj := ht j (by omega) j2 j3
        rw [send_keep (by omega) (by omega) (Or.inl tj)]
        exact tj)
      clear hb
      refine z_iload10 247 dL_ordered_245 rfl ?_
      refine z_aload1 248 dL_ordered_247 rfl ?_
      refine z_iconst 249 dL_ordered_248 rfl ?_
      refine z_ialdx 250 (0) dL_ordered_249 (by assumption) (by omega) (by omega) ((congrFun (h.2 157 (by decide)).1 0).trans hw) rfl ?_
      refine z_icmp_ge 290 253 dL_ordered_250 (by decide) rfl (by omega) (by omega) (fun hz => absurd hz (by omega)) (fun h250 => ?_)
      refine z_iload8 255 dL_ordered_253 rfl ?_
      refine z_if_eq 290 258 dL_ordered_255 (by decide) rfl (by omega) (fun hz => absurd hz ((by omega))) (fun h255 => ?_)
      refine z_iload5 260 dL_ordered_258 rfl ?_
      refine z_iload10 262 dL_ordered_260 rfl ?_
      refine z_ishr 263 dL_ordered_262 rfl ?_
      refine z_iconst 264 dL_ordered_263 rfl ?_
      refine z_iand 265 dL_ordered_264 rfl ?_
      rw [eb, b1]
      refine z_if_eq 277 268 dL_ordered_265 (by decide) rfl (by omega) (fun hz => absurd hz ((by omega))) (fun h265 => ?_)
      refine z_aload0 269 dL_ordered_268 rfl ?_
      refine z_iload10 271 dL_ordered_269 rfl ?_
      refine z_pV1 274 dL_ordered_271 lk_L_ordered_43 (pc_ride h (by omega) ex) rfl (Nat.le_of_ble_eq_true rfl) (Nat.le_of_ble_eq_true rfl) (by assumption) rfl rfl (fun r0 sh0 I0 L0 R0 hpq => ?_)
      obtain ⟨rfl, rfl, h⟩ := pO hpq
      refine z_if_lt 281 277 dL_ordered_274 (by decide) rfl (by omega) (fun hz => absurd hz (by omega)) (fun h274 => ?_)
      refine z_iconst 278 dL_ordered_277 rfl ?_
      refine z_goto 282 dL_ordered_278 (by decide) ?_
      refine z_istore8 284 dL_ordered_282 (Nat.le_of_ble_eq_true rfl) rfl rfl ?_
      refine z_iinc10 287 dL_ordered_284 (Nat.le_of_ble_eq_true rfl) rfl rfl ?_
      refine z_goto 245 dL_ordered_287 (by decide) ?_
      exact kr _ _ _ _ _ _ hw h
    · have b1 : bti top r = 0 := bti_0.mpr (by
        rw [Bool.eq_false_iff]
        intro z
        exact h30 (hb.mp z).2)
      have hF' : csq (S 6) m (r + 1) T = F2 := by
        unfold csq at hF
        rw [if_neg h30] at hF
        exact hF
      have kr := fun J K Z I L R => lp_ordered245 (z6 := z6) (a9 := a9) hs hl hg0 ht2 htop hm0 hF2 m (r + 1) T B J K Z I L R (by omega) hF' hg e6 (by omega) (fun j j1 j2 j3 => ht j (by omega) j2 j3)
      clear hb
      refine z_iload10 247 dL_ordered_245 rfl ?_
      refine z_aload1 248 dL_ordered_247 rfl ?_
      refine z_iconst 249 dL_ordered_248 rfl ?_
      refine z_ialdx 250 (0) dL_ordered_249 (by assumption) (by omega) (by omega) ((congrFun (h.2 157 (by decide)).1 0).trans hw) rfl ?_
      refine z_icmp_ge 290 253 dL_ordered_250 (by decide) rfl (by omega) (by omega) (fun hz => absurd hz (by omega)) (fun h250 => ?_)
      refine z_iload8 255 dL_ordered_253 rfl ?_
      refine z_if_eq 290 258 dL_ordered_255 (by decide) rfl (by omega) (fun hz => absurd hz ((by omega))) (fun h255 => ?_)
      refine z_iload5 260 dL_ordered_258 rfl ?_
      refine z_iload10 262 dL_ordered_260 rfl ?_
      refine z_ishr 263 dL_ordered_262 rfl ?_
      refine z_iconst 264 dL_ordered_263 rfl ?_
      refine z_iand 265 dL_ordered_264 rfl ?_
      rw [eb, b1]
      refine z_if_eq 277 268 dL_ordered_265 (by decide) rfl (by omega) (fun h265 => ?_) (fun hz => absurd hz ((by omega)))
      refine z_iconst 278 dL_ordered_277 rfl ?_
      refine z_goto 282 dL_ordered_278 (by decide) ?_
      refine z_istore8 284 dL_ordered_282 (Nat.le_of_ble_eq_true rfl) rfl rfl ?_
      refine z_iinc10 287 dL_ordered_284 (Nat.le_of_ble_eq_true rfl) rfl rfl ?_
      refine z_goto 245 dL_ordered_287 (by decide) ?_
      exact kr _ _ _ _ _ _ hw h
theorem lp_ordered172 {F : zT} {n : Nat} {z6 : zV} (hs : sh[157]? = some (20, 43)) (hl : 158 ≤ sh.length) (hq : sh[q]? = some (20, 5)) (hq7 : 157 < q) (hg0 : gd S) (h7 : S 0 7 ≤ 100) (hn5 : n ≤ 5) (hp : ∀ k, k < n → (p k : Int) < S 0 6) (hpi : ∀ i j, i < n → j < n → p i = p j → i = j) (hF : pcn (sthr F) = many) (hm0 : 0 ≤ many ∧ many ≤ 5)
    (kk : ∀ (J K : zI2) (Z : zR2) (I L : zI2) (R : zR2), J 157 0 = S 0 6 → pH sh J K Z I L R (pA S hh TS) → zE X mL_ordered 0 0 245 [zR 0, zR 157, zL (phash (pA S hh TS)), zX, zI many, zI (top : Int), z6, zR q, zI 1, zI (n : Int), zI 0] [] sh I L R (oQ (pA S hh TS))) : ∀ (m k : Nat) (T : zT) (B : List zT) (J K : zI2) (Z : zR2) (I L : zI2) (R : zR2), k + m = n → ssq (fun k => (p k : Int)) m k T = F → gd T → T 0 6 = S 0 6 → T 0 7 ≤ 100 + k → (∀ j : Nat, k ≤ j → j < n → T 6 (p j) = 30) → J 157 0 = S 0 6 → (∀ j, j < n → J q j = (p j : Int)) → pH sh J K Z I L R (T, (B, (some (S, hh), TS))) → zE X mL_ordered 0 0 172 [zR 0, zR 157, zL (phash (pA S hh TS)), zX, zI many, zI (top : Int), z6, zR q, zI 1, zI (n : Int), zI (k : Int)] [] sh I L R (oQ (pA S hh TS))
  | 0, k, T, B, J, K, Z, I, L, R, hm, hFT, hg, e6, e7, ht, hw, hJ, h => by
    have s0 := h.sh0
    have n5 := hg0.n5
    have h5 : 0 ≤ sthr T ∧ sthr T ≤ 31 := sthr_5 (by omega)
    have hF' : T = F := hFT
    rw [← hF'] at hF
    have hpc := pcn_r (x := sthr T)
    refine z_iload10 174 dL_ordered_172 rfl ?_
    refine z_iload9 176 dL_ordered_174 rfl ?_
    refine z_icmp_ge 209 179 dL_ordered_176 (by decide) rfl (by omega) (by omega) (fun h176 => ?_) (fun hz => absurd hz (by omega))
    refine z_iload8 211 dL_ordered_209 rfl ?_
    refine z_if_eq 239 214 dL_ordered_211 (by decide) rfl (by omega) (fun hz => absurd hz ((by omega))) (fun h211 => ?_)
    refine z_aload0 215 dL_ordered_214 rfl ?_
    refine z_iconst 216 dL_ordered_215 rfl ?_
    refine z_pV1 219 dL_ordered_216 lk_L_ordered_59 (pc_count3 h) rfl (Nat.le_of_ble_eq_true rfl) (Nat.le_of_ble_eq_true rfl) (by assumption) rfl rfl (fun r0 sh0 I0 L0 R0 hpq => ?_)
    obtain ⟨rfl, rfl, h⟩ := pO hpq
    show zE X mL_ordered 0 0 219 _ [zI (sthr T)] sh _ _ _ _
    refine z_xS1 222 dL_ordered_219 lk_L_ordered_162 (ct_L_size h5) rfl (Nat.le_of_ble_eq_true rfl) (Nat.le_of_ble_eq_true rfl) rfl ?_
    refine z_iload4 224 dL_ordered_222 rfl ?_
    refine z_icmp_ne 239 227 dL_ordered_224 (by decide) rfl (by omega) (by omega) (fun hz => absurd hz (by omega)) (fun h224 => ?_)
    refine z_aload0 228 dL_ordered_227 rfl ?_
    refine z_pV0 231 dL_ordered_228 lk_L_ordered_120 (pc_restore h (q := (S, hh)) rfl) rfl (Nat.le_of_ble_eq_true rfl) (Nat.le_of_ble_eq_true rfl) (by assumption) rfl rfl (fun r0 sh0 I0 L0 R0 hpq => ?_)
    obtain ⟨rfl, rfl, h⟩ := pO hpq
    refine z_iconst 232 dL_ordered_231 rfl ?_
    refine z_icmp_ne 239 235 dL_ordered_232 (by decide) rfl (by omega) (by omega) (fun hz => absurd hz ((by omega))) (fun h232 => ?_)
    refine z_iconst 236 dL_ordered_235 rfl ?_
    refine z_goto 240 dL_ordered_236 (by decide) ?_
    refine z_istore8 242 dL_ordered_240 (Nat.le_of_ble_eq_true rfl) rfl rfl ?_
    refine z_iconst 243 dL_ordered_242 rfl ?_
    refine z_istore10 245 dL_ordered_243 (Nat.le_of_ble_eq_true rfl) rfl rfl ?_
    exact kk _ _ _ _ _ _ hw h
  | m + 1, k, T, B, J, K, Z, I, L, R, hm, hFT, hg, e6, e7, ht, hw, hJ, h => by
    have s0 := h.sh0
    have n5 := hg0.n5
    have hpk := hp k (by omega)
    have t30 := ht k (Nat.le_refl _) (by omega)
    have hre := sfe_r T (p k) hg.sr (by omega)
    have ex : oRide (T, (B, (some (S, hh), TS))) (p k : Int) = (sfe T (p k), (send T (p k), (oPush (T, (B, (some (S, hh), TS)))).2)) := by
      unfold oRide
      rw [Int.toNat_natCast, if_pos (by show 0 ≤ (p k : Int) ∧ (p k : Int) ≤ T 0 6 - 1; omega), if_neg (by show ¬ 9999 ≤ T 0 7; omega), if_pos t30]
    obtain ⟨B2, hB2⟩ : ∃ B2, (oPush (T, (B, (some (S, hh), TS)))).2 = (B2, (some (S, hh), TS)) := ⟨_, rfl⟩
    rw [hB2] at ex
    have hF' : ssq (fun k => (p k : Int)) m (k + 1) (send T (p k)) = F := by
      unfold ssq at hFT
      rw [Int.toNat_natCast] at hFT
      exact hFT
    have kr := fun J K Z I L R => lp_ordered172 hs hl hq hq7 hg0 h7 hn5 hp hpi hF hm0 kk m (k + 1) (send T (p k)) B2 J K Z I L R (by omega) hF' (gd_send hg (by omega) t30 (by omega)) ((send_06 _ _ 6 (by decide)).trans e6) (by rw [psend_07]; omega) (fun j j1 j2 => by
      have tj := ht j (by omega) j2
      rw [send_keep (by omega) (fun z => by have := hpi j k j2 (by omega) z; omega) (Or.inl tj)]
      exact tj)
    refine z_iload10 174 dL_ordered_172 rfl ?_
    refine z_iload9 176 dL_ordered_174 rfl ?_
    refine z_icmp_ge 209 179 dL_ordered_176 (by decide) rfl (by omega) (by omega) (fun hz => absurd hz (by omega)) (fun h176 => ?_)
    refine z_iload8 181 dL_ordered_179 rfl ?_
    refine z_if_eq 209 184 dL_ordered_181 (by decide) rfl (by omega) (fun hz => absurd hz ((by omega))) (fun h181 => ?_)
    refine z_aload0 185 dL_ordered_184 rfl ?_
    refine z_aload7 187 dL_ordered_185 rfl ?_
    refine z_iload10 189 dL_ordered_187 rfl ?_
    refine z_ialdx 190 (k) dL_ordered_189 (by assumption) (by omega) (by omega) ((congrFun (h.2 q (by omega)).1 k).trans (hJ k (by omega))) rfl ?_
    refine z_pV1 193 dL_ordered_190 lk_L_ordered_43 (pc_ride h (by omega) ex) rfl (Nat.le_of_ble_eq_true rfl) (Nat.le_of_ble_eq_true rfl) (by assumption) rfl rfl (fun r0 sh0 I0 L0 R0 hpq => ?_)
    obtain ⟨rfl, rfl, h⟩ := pO hpq
    refine z_if_lt 200 196 dL_ordered_193 (by decide) rfl (by omega) (fun hz => absurd hz (by omega)) (fun h193 => ?_)
    refine z_iconst 197 dL_ordered_196 rfl ?_
    refine z_goto 201 dL_ordered_197 (by decide) ?_
    refine z_istore8 203 dL_ordered_201 (Nat.le_of_ble_eq_true rfl) rfl rfl ?_
    refine z_iinc10 206 dL_ordered_203 (Nat.le_of_ble_eq_true rfl) rfl rfl ?_
    refine z_goto 172 dL_ordered_206 (by decide) ?_
    exact kr _ _ _ _ _ _ hw hJ h
theorem lp_ordered67 {n : Nat} (hs : sh[157]? = some (20, 43)) (hl : 158 ≤ sh.length) (hq : sh[q]? = some (20, 5)) (hq7 : 157 < q) (hg0 : gd S) (hn5 : n ≤ 5) (ht2 : top < 2 ^ 5) (hpt : pcn (top : Int) = (n : Int)) (hm0 : 0 ≤ many ∧ many ≤ 5) (hp : ∀ k, k < n → oOrder (pA S hh TS) (k : Int) = (p k : Int) ∧ (p k : Int) < S 0 6 ∧ top.testBit (p k) = true) (hpi : ∀ i j, i < n → j < n → p i = p j → i = j)
    (kk : ∀ (z6 : zV) (J K : zI2) (Z : zR2) (I L : zI2) (R : zR2), J 157 0 = S 0 6 → (∀ j, j < n → J q j = (p j : Int)) → pH sh J K Z I L R (pA S hh TS) → zE X mL_ordered 0 0 172 [zR 0, zR 157, zL (phash (pA S hh TS)), zX, zI many, zI (top : Int), z6, zR q, zI 1, zI (n : Int), zI 0] [] sh I L R (oQ (pA S hh TS))) : ∀ (m k c : Nat) (z10 : zV) (J K : zI2) (Z : zR2) (I L : zI2) (R : zR2), k + m = n → c < 2 ^ 5 → (∀ j, c.testBit j = true → ∃ i, i < k ∧ p i = j) → J 157 0 = S 0 6 → (∀ j, j < k → J q j = (p j : Int)) → pH sh J K Z I L R (pA S hh TS) → zE X mL_ordered 0 0 67 [zR 0, zR 157, zL (phash (pA S hh TS)), zX, zI many, zI (top : Int), zI (c : Int), zR q, zI 1, zI (k : Int), z10] [] sh I L R (oQ (pA S hh TS))
  | 0, k, c, z10, J, K, Z, I, L, R, hm, hc2, hc, hw, hJ, h => by
    have n5 := hg0.n5
    have hk : k = n := by omega
    subst hk
    have ht31 : 0 ≤ (top : Int) ∧ (top : Int) ≤ 31 := by omega
    refine z_iload9 69 dL_ordered_67 rfl ?_
    refine z_iload5 71 dL_ordered_69 rfl ?_
    refine z_xS1 74 dL_ordered_71 lk_L_ordered_162 (ct_L_size ht31) rfl (Nat.le_of_ble_eq_true rfl) (Nat.le_of_ble_eq_true rfl) rfl ?_
    rw [hpt]
    refine z_icmp_ge 162 77 dL_ordered_74 (by decide) rfl (by omega) (by omega) (fun h74 => ?_) (fun hz => absurd hz (by omega))
    refine z_iload5 164 dL_ordered_162 rfl ?_
    refine z_xS1 167 dL_ordered_164 lk_L_ordered_162 (ct_L_size ht31) rfl (Nat.le_of_ble_eq_true rfl) (Nat.le_of_ble_eq_true rfl) rfl ?_
    rw [hpt]
    refine z_istore9 169 dL_ordered_167 (Nat.le_of_ble_eq_true rfl) rfl rfl ?_
    refine z_iconst 170 dL_ordered_169 rfl ?_
    refine z_istore10 172 dL_ordered_170 (Nat.le_of_ble_eq_true rfl) rfl rfl ?_
    exact kk _ _ _ _ _ _ _ hw hJ h
  | m + 1, k, c, z10, J, K, Z, I, L, R, hm, hc2, hc, hw, hJ, h => by
    have s0 := h.sh0
    have n5 := hg0.n5
    have ht31 : 0 ≤ (top : Int) ∧ (top : Int) ≤ 31 := by omega
    obtain ⟨p1, p2, p3⟩ := hp k (by omega)
    have eb : zand (zshr (top : Int) (p k : Int)) 1 = bti top (p k) := zb_bit (by omega) (by omega)
    have b1 : bti top (p k) = 1 := bti_1.mpr p3
    have ec : zand (zshr (c : Int) (p k : Int)) 1 = bti c (p k) := zb_bit (by omega) (by omega)
    have b0 : bti c (p k) = 0 := bti_0.mpr (by
      rw [Bool.eq_false_iff]
      intro z
      obtain ⟨i, i1, i2⟩ := hc _ z
      have := hpi i k (by omega) (by omega) i2
      omega)
    have h2 : (2 : Nat) ^ (p k) < 2 ^ 5 := Nat.pow_lt_pow_right (by omega) (by omega)
    have eo : zor (c : Int) (zshl 1 (p k : Int)) = ((c ||| 2 ^ (p k) : Nat) : Int) := by rw [zb_shl (by omega), zb_or (by omega) (by omega)]
    have kr := fun z10 J K Z I L R => lp_ordered67 hs hl hq hq7 hg0 hn5 ht2 hpt hm0 hp hpi kk m (k + 1) (c ||| 2 ^ (p k)) z10 J K Z I L R (by omega) (Nat.or_lt_two_pow hc2 h2) (fun j z => by
      rw [zb_tor, Bool.or_eq_true, decide_eq_true_eq] at z
      rcases z with z | z
      · obtain ⟨i, i1, i2⟩ := hc j z
        exact ⟨i, by omega, i2⟩
      · exact ⟨k, by omega, z⟩)
    refine z_iload9 69 dL_ordered_67 rfl ?_
    refine z_iload5 71 dL_ordered_69 rfl ?_
    refine z_xS1 74 dL_ordered_71 lk_L_ordered_162 (ct_L_size ht31) rfl (Nat.le_of_ble_eq_true rfl) (Nat.le_of_ble_eq_true rfl) rfl ?_
    rw [hpt]
    refine z_icmp_ge 162 77 dL_ordered_74 (by decide) rfl (by omega) (by omega) (fun hz => absurd hz (by omega)) (fun h74 => ?_)
    refine z_iload8 79 dL_ordered_77 rfl ?_
    refine z_if_eq 162 82 dL_ordered_79 (by decide) rfl (by omega) (fun hz => absurd hz ((by omega))) (fun h79 => ?_)
    refine z_aload7 84 dL_ordered_82 rfl ?_
    refine z_iload9 86 dL_ordered_84 rfl ?_
    refine z_aload0 87 dL_ordered_86 rfl ?_
    refine z_iload9 89 dL_ordered_87 rfl ?_
    refine z_pV1 92 dL_ordered_89 lk_L_ordered_159 (pc_order h (by omega)) rfl (Nat.le_of_ble_eq_true rfl) (Nat.le_of_ble_eq_true rfl) (by assumption) rfl rfl (fun r0 sh0 I0 L0 R0 hpq => ?_)
    obtain ⟨rfl, rfl, h⟩ := pO hpq
    rw [p1]
    refine z_iastN 93 (k) dL_ordered_92 (by assumption) (by omega) (by omega) rfl ?_
    refine z_aload7 95 dL_ordered_93 rfl ?_
    refine z_iload9 97 dL_ordered_95 rfl ?_
    refine z_ialdx 98 (k) dL_ordered_97 (by assumption) (by omega) (by omega) (zup_at _ _ _ _) rfl ?_
    refine z_if_lt 132 101 dL_ordered_98 (by decide) rfl (by omega) (fun hz => absurd hz (by omega)) (fun h98 => ?_)
    refine z_iload5 103 dL_ordered_101 rfl ?_
    refine z_aload7 105 dL_ordered_103 rfl ?_
    refine z_iload9 107 dL_ordered_105 rfl ?_
    refine z_ialdx 108 (k) dL_ordered_107 (by assumption) (by omega) (by omega) (zup_at _ _ _ _) rfl ?_
    refine z_ishr 109 dL_ordered_108 rfl ?_
    refine z_iconst 110 dL_ordered_109 rfl ?_
    refine z_iand 111 dL_ordered_110 rfl ?_
    rw [eb, b1]
    refine z_iconst 112 dL_ordered_111 rfl ?_
    refine z_icmp_ne 132 115 dL_ordered_112 (by decide) rfl (by omega) (by omega) (fun hz => absurd hz ((by omega))) (fun h112 => ?_)
    refine z_iload6 117 dL_ordered_115 rfl ?_
    refine z_aload7 119 dL_ordered_117 rfl ?_
    refine z_iload9 121 dL_ordered_119 rfl ?_
    refine z_ialdx 122 (k) dL_ordered_121 (by assumption) (by omega) (by omega) (zup_at _ _ _ _) rfl ?_
    refine z_ishr 123 dL_ordered_122 rfl ?_
    refine z_iconst 124 dL_ordered_123 rfl ?_
    refine z_iand 125 dL_ordered_124 rfl ?_
    rw [ec, b0]
    refine z_if_ne 132 128 dL_ordered_125 (by decide) rfl (by omega) (fun hz => absurd hz ((by omega))) (fun h125 => ?_)
    refine z_iconst 129 dL_ordered_128 rfl ?_
    refine z_goto 133 dL_ordered_129 (by decide) ?_
    refine z_istore8 135 dL_ordered_133 (Nat.le_of_ble_eq_true rfl) rfl rfl ?_
    refine z_iload6 137 dL_ordered_135 rfl ?_
    refine z_iload8 139 dL_ordered_137 rfl ?_
    refine z_if_eq 152 142 dL_ordered_139 (by decide) rfl (by omega) (fun hz => absurd hz ((by omega))) (fun h139 => ?_)
    refine z_iconst 143 dL_ordered_142 rfl ?_
    refine z_aload7 145 dL_ordered_143 rfl ?_
    refine z_iload9 147 dL_ordered_145 rfl ?_
    refine z_ialdx 148 (k) dL_ordered_147 (by assumption) (by omega) (by omega) (zup_at _ _ _ _) rfl ?_
    refine z_ishl 149 dL_ordered_148 rfl ?_
    refine z_goto 153 dL_ordered_149 (by decide) ?_
    refine z_ior 154 dL_ordered_153 rfl ?_
    rw [eo]
    refine z_istore6 156 dL_ordered_154 (Nat.le_of_ble_eq_true rfl) rfl rfl ?_
    refine z_iinc9 159 dL_ordered_156 (Nat.le_of_ble_eq_true rfl) rfl rfl ?_
    refine z_goto 67 dL_ordered_159 (by decide) ?_
    refine kr _ (zup I0 q k (p k : Int)) L0 R0 _ _ _ ?_ (fun j hj => ?_) ?_
    · rw [zup_row _ _ (by omega)]
      exact (congrFun (h.2 157 (by decide)).1 0).trans hw
    · by_cases ej : j = k
      · subst ej; exact zup_at _ _ _ _
      · rw [zup_ne _ _ (by omega), (h.2 q (by omega)).1]
        exact hJ j (by omega)
    · obtain ⟨⟨P, hc5⟩, _⟩ := h
      exact pH.rf (pCA_lo hc5 (fun a ha => ⟨zup_row _ _ (by omega), rfl⟩))
theorem ct_L_ordered {J0 K0 : zI2} {Z0 : zR2} {I L : zI2} {R : zR2} (hs : sh[157]? = some (20, 43)) (hl : 158 ≤ sh.length) (hw : J0 157 0 = S 0 6) (hg : gd S) (h7 : S 0 7 ≤ 100) (h : pH sh J0 K0 Z0 I L R (pA S hh TS)) : zE X mL_ordered 1 5 0 [zR 0, zR 157, zL (phash (pA S hh TS)), zX, zX, zX, zX, zX, zX, zX, zX] [] sh I L R (oQ (pA S hh TS)) := by
  have s0 := h.sh0
  have n5 := hg.n5
  obtain ⟨p, many, o1, o2, o3, o4, o5, o6, o7, o8⟩ := order_s hg
  obtain ⟨top, t1, t2, t3, t4⟩ := top_b (S := S) hg.sr.1
  have hpt : pcn (top : Int) = (otn S : Int) := by rw [← t1]; exact t4
  have e1 : oOrder (pA S hh TS) (-1) = many := by
    unfold oOrder
    rw [if_neg (by decide), if_pos rfl]
    exact o1
  have e2 : oOrder (pA S hh TS) (otn S : Int) = -4 := by
    unfold oOrder
    rw [if_neg (by omega), if_neg (by omega), if_neg (by show ¬ (0 ≤ (otn S : Int) ∧ (otn S : Int) ≤ (otn S : Int) - 1); omega)]
  have ek : ∀ k, k < otn S → oOrder (pA S hh TS) (k : Int) = (p k : Int) ∧ (p k : Int) < S 0 6 ∧ top.testBit (p k) = true := fun k hk => by
    obtain ⟨a, b, c⟩ := o3 k hk
    refine ⟨?_, b, (t3 _).mpr ⟨b, c⟩⟩
    unfold oOrder
    rw [if_neg (by omega), if_neg (by omega), if_pos (by show 0 ≤ (k : Int) ∧ (k : Int) ≤ (otn S : Int) - 1; omega), Int.toNat_natCast]
    exact a
  have hm0 : 0 ≤ many ∧ many ≤ 5 := by
    have := pcn_r (x := sthr S)
    omega
  have h5 : 0 ≤ sthr S ∧ sthr S ≤ 31 := sthr_5 hg.sr.1
  have hps := pcn_r (x := sthr S)
  have ht31 : 0 ≤ (top : Int) ∧ (top : Int) ≤ 31 := by omega
  have u157 : (sh ++ [(20, 5)])[157]? = some (20, 43) := zg_l hs
  have uq : (sh ++ [(20, 5)])[sh.length]? = some (20, 5) := zg_r rfl
  have ul : 158 ≤ (sh ++ [(20, 5)]).length := by rw [List.length_append]; omega
  have kC := fun z6 J K Z I L R hJ => lp_ordered245 (X := X) (sh := sh ++ [(20, 5)]) (q := sh.length) (hh := hh) (TS := TS) (F2 := csq (S 6) (S 0 6).toNat 0 S) (z6 := z6) (a9 := (otn S : Int)) u157 ul hg t2 t3 hm0 o8 (S 0 6).toNat 0 S hh J K Z I L R (by omega) rfl hg rfl (by omega) (fun j _ _ a => a) hJ
  have kB := fun z6 J K Z I L R hJ hJ2 => lp_ordered172 (X := X) (sh := sh ++ [(20, 5)]) (q := sh.length) (p := p) (hh := hh) (TS := TS) (top := top) (z6 := z6) u157 ul uq (by omega) hg h7 o2 (fun k hk => (ek k hk).2.1) o4 o5.symm hm0 (kC z6) (otn S) 0 S hh J K Z I L R (by omega) rfl hg rfl (by omega) (fun j _ hj => (o3 j hj).2.2) hJ hJ2
  have kA := lp_ordered67 (X := X) (sh := sh ++ [(20, 5)]) (q := sh.length) u157 ul uq (by omega) hg o2 t2 hpt hm0 ek o4 kB (otn S) 0 0
  refine z_aload0 1 dL_ordered_0 rfl ?_
  refine z_iconst 2 dL_ordered_1 rfl ?_
  refine z_pV1 5 dL_ordered_2 lk_L_ordered_159 (pc_order h (by omega)) rfl (Nat.le_of_ble_eq_true rfl) (Nat.le_of_ble_eq_true rfl) (by assumption) rfl rfl (fun r0 sh0 I0 L0 R0 hpq => ?_)
  obtain ⟨rfl, rfl, h⟩ := pO hpq
  rw [e1]
  refine z_istore4 7 dL_ordered_5 (Nat.le_of_ble_eq_true rfl) rfl rfl ?_
  refine z_aload0 8 dL_ordered_7 rfl ?_
  refine z_iconst 9 dL_ordered_8 rfl ?_
  refine z_pV1 12 dL_ordered_9 lk_L_ordered_59 (pc_count2 h) rfl (Nat.le_of_ble_eq_true rfl) (Nat.le_of_ble_eq_true rfl) (by assumption) rfl rfl (fun r0 sh0 I0 L0 R0 hpq => ?_)
  obtain ⟨rfl, rfl, h⟩ := pO hpq
  rw [show stop_ (pA S hh TS).1 = (top : Int) from t1]
  refine z_istore5 14 dL_ordered_12 (Nat.le_of_ble_eq_true rfl) rfl rfl ?_
  refine z_iconst 15 dL_ordered_14 rfl ?_
  refine z_istore6 17 dL_ordered_15 (Nat.le_of_ble_eq_true rfl) rfl rfl ?_
  refine z_iconst 18 dL_ordered_17 rfl ?_
  refine z_newaX 20 (sh.length) 5 dL_ordered_18 (Or.inl ⟨rfl, rfl⟩) ac_int rfl (by decide) (rfl) rfl rfl rfl ?_
  obtain ⟨⟨P5, hc5⟩, hI5⟩ := id h
  have h := pH.rf (pCA_up hc5 [(20, 5)] (I' := zrow I0 sh.length fun _ => 0) (L' := zrow L0 sh.length fun _ => 0) (fun a ha => ⟨zrow_oR _ _ (by omega), zrow_oR _ _ (by omega)⟩) (fun _ _ => rfl))
  have s0 := h.sh0
  have hw1 : (zrow I0 sh.length fun _ => 0) 157 0 = S 0 6 := by rw [zrow_oR _ _ (by omega)]; exact (congrFun (hI5 157 (by decide)).1 0).trans hw
  have hsz := zrow_at I0 sh.length (fun _ => 0)
  refine z_astore7 22 dL_ordered_20 (Nat.le_of_ble_eq_true rfl) rfl rfl ?_
  refine z_iload4 24 dL_ordered_22 rfl ?_
  refine z_aload0 25 dL_ordered_24 rfl ?_
  refine z_iconst 26 dL_ordered_25 rfl ?_
  refine z_pV1 29 dL_ordered_26 lk_L_ordered_59 (pc_count3 h) rfl (Nat.le_of_ble_eq_true rfl) (Nat.le_of_ble_eq_true rfl) (by assumption) rfl rfl (fun r0 sh0 I0 L0 R0 hpq => ?_)
  obtain ⟨rfl, rfl, h⟩ := pO hpq
  show zE X mL_ordered 0 0 29 _ [zI (sthr S), zI many] (sh ++ [(20, 5)]) _ _ _ _
  refine z_xS1 32 dL_ordered_29 lk_L_ordered_162 (ct_L_size h5) rfl (Nat.le_of_ble_eq_true rfl) (Nat.le_of_ble_eq_true rfl) rfl ?_
  refine z_icmp_lt 61 35 dL_ordered_32 (by decide) rfl (by omega) (by omega) (fun hz => absurd hz (by omega)) (fun h32 => ?_)
  refine z_iload4 37 dL_ordered_35 rfl ?_
  refine z_aload1 38 dL_ordered_37 rfl ?_
  refine z_iconst 39 dL_ordered_38 rfl ?_
  refine z_ialdx 40 (0) dL_ordered_39 (by assumption) (by omega) (by omega) ((congrFun (h.2 157 (by decide)).1 0).trans hw1) rfl ?_
  refine z_icmp_gt 61 43 dL_ordered_40 (by decide) rfl (by omega) (by omega) (fun hz => absurd hz (by omega)) (fun h40 => ?_)
  refine z_aload0 44 dL_ordered_43 rfl ?_
  refine z_iload5 46 dL_ordered_44 rfl ?_
  refine z_xS1 49 dL_ordered_46 lk_L_ordered_162 (ct_L_size ht31) rfl (Nat.le_of_ble_eq_true rfl) (Nat.le_of_ble_eq_true rfl) rfl ?_
  rw [hpt]
  refine z_pV1 52 dL_ordered_49 lk_L_ordered_159 (pc_order h (by omega)) rfl (Nat.le_of_ble_eq_true rfl) (Nat.le_of_ble_eq_true rfl) (by assumption) rfl rfl (fun r0 sh0 I0 L0 R0 hpq => ?_)
  obtain ⟨rfl, rfl, h⟩ := pO hpq
  rw [e2]
  refine z_bipush 54 dL_ordered_52 (by decide) rfl ?_
  refine z_icmp_ne 61 57 dL_ordered_54 (by decide) rfl (by omega) (by omega) (fun hz => absurd hz ((by omega))) (fun h54 => ?_)
  refine z_iconst 58 dL_ordered_57 rfl ?_
  refine z_goto 62 dL_ordered_58 (by decide) ?_
  refine z_istore8 64 dL_ordered_62 (Nat.le_of_ble_eq_true rfl) rfl rfl ?_
  refine z_iconst 65 dL_ordered_64 rfl ?_
  refine z_istore9 67 dL_ordered_65 (Nat.le_of_ble_eq_true rfl) rfl rfl ?_
  exact kA _ _ _ _ _ _ _ (by omega) (by decide) (fun j z => by rw [Nat.zero_testBit] at z; cases z) hw1 (fun j hj => by omega) h
end ORDERED
