/-! ===== the law's loop: every call is made of both sides, and both give the same answer ===== -/
section LAW
/-- the law, by whatever name: no step of it asks for its name -/
def mLn (nm : String) : zM := (RL, ⟨RL, nm, "([I)Z"⟩, cL_law, 4, some .boolean, 7, 169)
theorem zVL_n {nm : String} {idx n : Nat} {M' : zM} (h : zVL mL_law idx M' n) : zVL (mLn nm) idx M' n := h
theorem zIL_n {nm : String} {idx n : Nat} {M' : zM} (h : zIL mL_law idx M' n) : zIL (mLn nm) idx M' n := h
theorem zand_63 (x : Int) : 0 ≤ zand x 63 ∧ zand x 63 ≤ 63 := by
  unfold zand
  rw [pk_and (Int32.ofInt x) (m := Int32.ofInt 63) 6 (by decide)]
  have h2 : (Int32.ofInt x).toBitVec.toNat % 2 ^ 6 < 64 := Nat.mod_lt _ (by decide)
  rw [nI_toInt (by omega)]
  omega
theorem zorL_r (x y : Int) : -9223372036854775808 ≤ zorL x y ∧ zorL x y ≤ 9223372036854775807 := by
  have h1 := Int64.le_toInt (Int64.ofInt x ||| Int64.ofInt y)
  have h2 := Int64.toInt_lt (Int64.ofInt x ||| Int64.ofInt y)
  unfold zorL
  omega
variable {X : zXs} {M : zM} {k w pc : Nat} {ls st : List zV} {sh : zH} {I L : zI2} {R : zR2} {Q : zQ} {A : zA} {nm : String}
theorem z_icmpS (tgt : Nat) {x off : Int} (hd : decode (zmc M) pc = .ok (.if_icmp .eq off, 3)) (ht : (pc : Int) + off = (tgt : Int)) (kk : zE X M k w tgt ls st sh I L R Q) : zE X M k w pc ls (zI x :: zI x :: st) sh I L R Q := by
  intro G p l e Rm s m args below meth c H locs cells slots Qf arr F S hl kend
  exact lv_icmp_eq F.1 F.2.1 hd ht (fun _ => kk G p l e Rm s m args below meth c H locs cells slots Qf arr F S hl kend) (fun h => absurd rfl h)
theorem z_lcmpS (nx : Nat) {x : Int} (hd : decode (zmc M) pc = .ok (.lcmp, 1)) (hn : pc + 1 = nx) (kk : zE X M k w nx ls (zI 0 :: st) sh I L R Q) : zE X M k w pc ls (zL x :: zL x :: st) sh I L R Q := by
  subst hn
  have e : lg_cmp (Int64.ofInt x) (Int64.ofInt x) = Int32.ofInt 0 := by simp [lg_cmp]
  exact zE_step (fun G p l e0 Rm s m args below meth c H locs cells slots Qf arr F hl kk => W.lcmp F.1 F.2.1 hd (by rw [e]; exact kk arr hl)) kk

theorem law_180 {i : Nat} (hX : i + 8 ≤ X.1 ∧ X.1 ≤ 4096) (hj : ∀ j, -2147483648 ≤ X.2 j ∧ X.2 j ≤ 2147483647) (h : zLI sh I L R A) (kk : ∀ (A' : zA) (I' L' : zI2) (R' : zR2), zLI sh I' L' R' A' → zE X (mLn nm) 0 0 1274 [zS, zR 0, zR 157, zI (i : Int)] [] sh I' L' R' Q) : zE X (mLn nm) 0 0 180 [zS, zR 0, zR 157, zI (i : Int)] [] sh I L R Q := by
  have hf := zLI_f h
  obtain ⟨⟨P, hc⟩, hm, hw⟩ := h
  have c0 := hc.1.1.1
  have s0 := hm.1.1.1
  refine z_aload1 181 dL_law_180 rfl ?_
  refine z_aloadS0 182 dL_law_181 rfl ?_
  refine z_iload3 183 dL_law_182 rfl ?_
  refine z_iconst 184 dL_law_183 rfl ?_
  refine z_iadd 185 dL_law_184 rfl ?_
  refine z_sldN 186 ((i + 1)) dL_law_185 (by omega) (by omega) rfl ?_
  refine z_aloadS0 187 dL_law_186 rfl ?_
  refine z_iload3 188 dL_law_187 rfl ?_
  refine z_iconst 189 dL_law_188 rfl ?_
  refine z_iadd 190 dL_law_189 rfl ?_
  refine z_sldN 191 ((i + 2)) dL_law_190 (by omega) (by omega) rfl ?_
  refine z_aloadS0 192 dL_law_191 rfl ?_
  refine z_iload3 193 dL_law_192 rfl ?_
  refine z_iconst 194 dL_law_193 rfl ?_
  refine z_iadd 195 dL_law_194 rfl ?_
  refine z_sldN 196 ((i + 3)) dL_law_195 (by omega) (by omega) rfl ?_
  refine z_pV3 199 dL_law_196 (zVL_n lk_L_law_13) (op_X6_rider hc (hj (i + 1)) (hj (i + 2)) (hj (i + 3))) rfl (Nat.le_of_ble_eq_true rfl) (Nat.le_of_ble_eq_true rfl) (by assumption) rfl rfl (fun r0 sh0 I0 L0 R0 hpq => ?_)
  obtain ⟨rfl, rfl, ⟨P1, hc1⟩, hI1⟩ := hpq
  have hm1 := mCA_hi hm hI1
  refine z_aload2 200 dL_law_199 rfl ?_
  refine z_aloadS0 201 dL_law_200 rfl ?_
  refine z_iload3 202 dL_law_201 rfl ?_
  refine z_iconst 203 dL_law_202 rfl ?_
  refine z_iadd 204 dL_law_203 rfl ?_
  refine z_sldN 205 ((i + 1)) dL_law_204 (by omega) (by omega) rfl ?_
  refine z_aloadS0 206 dL_law_205 rfl ?_
  refine z_iload3 207 dL_law_206 rfl ?_
  refine z_iconst 208 dL_law_207 rfl ?_
  refine z_iadd 209 dL_law_208 rfl ?_
  refine z_sldN 210 ((i + 2)) dL_law_209 (by omega) (by omega) rfl ?_
  refine z_aloadS0 211 dL_law_210 rfl ?_
  refine z_iload3 212 dL_law_211 rfl ?_
  refine z_iconst 213 dL_law_212 rfl ?_
  refine z_iadd 214 dL_law_213 rfl ?_
  refine z_sldN 215 ((i + 3)) dL_law_214 (by omega) (by omega) rfl ?_
  refine z_pV3 218 dL_law_215 (zVL_n lk_L_law_17) (op_X7_rider hm1 (hj (i + 1)) (hj (i + 2)) (hj (i + 3))) rfl (Nat.le_of_ble_eq_true rfl) (Nat.le_of_ble_eq_true rfl) (by assumption) rfl rfl (fun r0 sh0 I0 L0 R0 hpq => ?_)
  obtain ⟨rfl, rfl, rfl, hm2, hI2⟩ := hpq
  have hc2 := zCA_lo hc1 hI2
  exact z_icmpS 1274 dL_law_218 (by decide) (kk _ _ _ _ ⟨⟨_, hc2⟩, hm2, zW_rider hf.1 hw _ _ _⟩)
theorem law_223 {i : Nat} (hX : i + 8 ≤ X.1 ∧ X.1 ≤ 4096) (hj : ∀ j, -2147483648 ≤ X.2 j ∧ X.2 j ≤ 2147483647) (h : zLI sh I L R A) (kk : ∀ (A' : zA) (I' L' : zI2) (R' : zR2), zLI sh I' L' R' A' → zE X (mLn nm) 0 0 1274 [zS, zR 0, zR 157, zI (i : Int)] [] sh I' L' R' Q) : zE X (mLn nm) 0 0 223 [zS, zR 0, zR 157, zI (i : Int)] [] sh I L R Q := by
  have hf := zLI_f h
  obtain ⟨⟨P, hc⟩, hm, hw⟩ := h
  have c0 := hc.1.1.1
  have s0 := hm.1.1.1
  refine z_aload1 224 dL_law_223 rfl ?_
  refine z_aloadS0 225 dL_law_224 rfl ?_
  refine z_iload3 226 dL_law_225 rfl ?_
  refine z_iconst 227 dL_law_226 rfl ?_
  refine z_iadd 228 dL_law_227 rfl ?_
  refine z_sldN 229 ((i + 1)) dL_law_228 (by omega) (by omega) rfl ?_
  refine z_aloadS0 230 dL_law_229 rfl ?_
  refine z_iload3 231 dL_law_230 rfl ?_
  refine z_iconst 232 dL_law_231 rfl ?_
  refine z_iadd 233 dL_law_232 rfl ?_
  refine z_sldN 234 ((i + 2)) dL_law_233 (by omega) (by omega) rfl ?_
  refine z_pV2 237 dL_law_234 (zVL_n lk_L_law_18) (op_X6_lean hc (hj (i + 1)) (hj (i + 2))) rfl (Nat.le_of_ble_eq_true rfl) (Nat.le_of_ble_eq_true rfl) (by assumption) rfl rfl (fun r0 sh0 I0 L0 R0 hpq => ?_)
  obtain ⟨rfl, rfl, ⟨P1, hc1⟩, hI1⟩ := hpq
  have hm1 := mCA_hi hm hI1
  refine z_aload2 238 dL_law_237 rfl ?_
  refine z_aloadS0 239 dL_law_238 rfl ?_
  refine z_iload3 240 dL_law_239 rfl ?_
  refine z_iconst 241 dL_law_240 rfl ?_
  refine z_iadd 242 dL_law_241 rfl ?_
  refine z_sldN 243 ((i + 1)) dL_law_242 (by omega) (by omega) rfl ?_
  refine z_aloadS0 244 dL_law_243 rfl ?_
  refine z_iload3 245 dL_law_244 rfl ?_
  refine z_iconst 246 dL_law_245 rfl ?_
  refine z_iadd 247 dL_law_246 rfl ?_
  refine z_sldN 248 ((i + 2)) dL_law_247 (by omega) (by omega) rfl ?_
  refine z_pV2 251 dL_law_248 (zVL_n lk_L_law_22) (op_X7_lean hm1 (hj (i + 1)) (hj (i + 2))) rfl (Nat.le_of_ble_eq_true rfl) (Nat.le_of_ble_eq_true rfl) (by assumption) rfl rfl (fun r0 sh0 I0 L0 R0 hpq => ?_)
  obtain ⟨rfl, rfl, rfl, hm2, hI2⟩ := hpq
  have hc2 := zCA_lo hc1 hI2
  exact z_icmpS 1274 dL_law_251 (by decide) (kk _ _ _ _ ⟨⟨_, hc2⟩, hm2, zW_lean hw _ _⟩)
theorem law_256 {i : Nat} (hX : i + 8 ≤ X.1 ∧ X.1 ≤ 4096) (hj : ∀ j, -2147483648 ≤ X.2 j ∧ X.2 j ≤ 2147483647) (h : zLI sh I L R A) (kk : ∀ (A' : zA) (I' L' : zI2) (R' : zR2), zLI sh I' L' R' A' → zE X (mLn nm) 0 0 1274 [zS, zR 0, zR 157, zI (i : Int)] [] sh I' L' R' Q) : zE X (mLn nm) 0 0 256 [zS, zR 0, zR 157, zI (i : Int)] [] sh I L R Q := by
  have hf := zLI_f h
  obtain ⟨⟨P, hc⟩, hm, hw⟩ := h
  have c0 := hc.1.1.1
  have s0 := hm.1.1.1
  refine z_aload1 257 dL_law_256 rfl ?_
  refine z_aloadS0 258 dL_law_257 rfl ?_
  refine z_iload3 259 dL_law_258 rfl ?_
  refine z_iconst 260 dL_law_259 rfl ?_
  refine z_iadd 261 dL_law_260 rfl ?_
  refine z_sldN 262 ((i + 1)) dL_law_261 (by omega) (by omega) rfl ?_
  refine z_aloadS0 263 dL_law_262 rfl ?_
  refine z_iload3 264 dL_law_263 rfl ?_
  refine z_iconst 265 dL_law_264 rfl ?_
  refine z_iadd 266 dL_law_265 rfl ?_
  refine z_sldN 267 ((i + 2)) dL_law_266 (by omega) (by omega) rfl ?_
  refine z_pV2 270 dL_law_267 (zVL_n lk_L_law_23) (op_X6_of hc (hj (i + 1)) (hj (i + 2))) rfl (Nat.le_of_ble_eq_true rfl) (Nat.le_of_ble_eq_true rfl) (by assumption) rfl rfl (fun r0 sh0 I0 L0 R0 hpq => ?_)
  obtain ⟨rfl, rfl, ⟨P1, hc1⟩, hI1⟩ := hpq
  have hm1 := mCA_hi hm hI1
  refine z_aload2 271 dL_law_270 rfl ?_
  refine z_aloadS0 272 dL_law_271 rfl ?_
  refine z_iload3 273 dL_law_272 rfl ?_
  refine z_iconst 274 dL_law_273 rfl ?_
  refine z_iadd 275 dL_law_274 rfl ?_
  refine z_sldN 276 ((i + 1)) dL_law_275 (by omega) (by omega) rfl ?_
  refine z_aloadS0 277 dL_law_276 rfl ?_
  refine z_iload3 278 dL_law_277 rfl ?_
  refine z_iconst 279 dL_law_278 rfl ?_
  refine z_iadd 280 dL_law_279 rfl ?_
  refine z_sldN 281 ((i + 2)) dL_law_280 (by omega) (by omega) rfl ?_
  refine z_pV2 284 dL_law_281 (zVL_n lk_L_law_26) (op_X7_of hm1 (hj (i + 1)) (hj (i + 2))) rfl (Nat.le_of_ble_eq_true rfl) (Nat.le_of_ble_eq_true rfl) (by assumption) rfl rfl (fun r0 sh0 I0 L0 R0 hpq => ?_)
  obtain ⟨rfl, rfl, rfl, hm2, hI2⟩ := hpq
  have hc2 := zCA_lo hc1 hI2
  exact z_icmpS 1274 dL_law_284 (by decide) (kk _ _ _ _ ⟨⟨_, hc2⟩, hm2, hw⟩)
theorem law_289 {i : Nat} (hX : i + 8 ≤ X.1 ∧ X.1 ≤ 4096) (hj : ∀ j, -2147483648 ≤ X.2 j ∧ X.2 j ≤ 2147483647) (h : zLI sh I L R A) (kk : ∀ (A' : zA) (I' L' : zI2) (R' : zR2), zLI sh I' L' R' A' → zE X (mLn nm) 0 0 1274 [zS, zR 0, zR 157, zI (i : Int)] [] sh I' L' R' Q) : zE X (mLn nm) 0 0 289 [zS, zR 0, zR 157, zI (i : Int)] [] sh I L R Q := by
  have hf := zLI_f h
  obtain ⟨⟨P, hc⟩, hm, hw⟩ := h
  have c0 := hc.1.1.1
  have s0 := hm.1.1.1
  refine z_aload1 290 dL_law_289 rfl ?_
  refine z_aloadS0 291 dL_law_290 rfl ?_
  refine z_iload3 292 dL_law_291 rfl ?_
  refine z_iconst 293 dL_law_292 rfl ?_
  refine z_iadd 294 dL_law_293 rfl ?_
  refine z_sldN 295 ((i + 1)) dL_law_294 (by omega) (by omega) rfl ?_
  refine z_aloadS0 296 dL_law_295 rfl ?_
  refine z_iload3 297 dL_law_296 rfl ?_
  refine z_iconst 298 dL_law_297 rfl ?_
  refine z_iadd 299 dL_law_298 rfl ?_
  refine z_sldN 300 ((i + 2)) dL_law_299 (by omega) (by omega) rfl ?_
  refine z_pV2 303 dL_law_300 (zVL_n lk_L_law_27) (op_X6_at hc (hj (i + 1)) (hj (i + 2))) rfl (Nat.le_of_ble_eq_true rfl) (Nat.le_of_ble_eq_true rfl) (by assumption) rfl rfl (fun r0 sh0 I0 L0 R0 hpq => ?_)
  obtain ⟨rfl, rfl, ⟨P1, hc1⟩, hI1⟩ := hpq
  have hm1 := mCA_hi hm hI1
  refine z_aload2 304 dL_law_303 rfl ?_
  refine z_aloadS0 305 dL_law_304 rfl ?_
  refine z_iload3 306 dL_law_305 rfl ?_
  refine z_iconst 307 dL_law_306 rfl ?_
  refine z_iadd 308 dL_law_307 rfl ?_
  refine z_sldN 309 ((i + 1)) dL_law_308 (by omega) (by omega) rfl ?_
  refine z_aloadS0 310 dL_law_309 rfl ?_
  refine z_iload3 311 dL_law_310 rfl ?_
  refine z_iconst 312 dL_law_311 rfl ?_
  refine z_iadd 313 dL_law_312 rfl ?_
  refine z_sldN 314 ((i + 2)) dL_law_313 (by omega) (by omega) rfl ?_
  refine z_pV2 317 dL_law_314 (zVL_n lk_L_law_30) (op_X7_at hm1 hw.1.1 (hj (i + 1)) (hj (i + 2))) rfl (Nat.le_of_ble_eq_true rfl) (Nat.le_of_ble_eq_true rfl) (by assumption) rfl rfl (fun r0 sh0 I0 L0 R0 hpq => ?_)
  obtain ⟨rfl, rfl, rfl, hm2, hI2⟩ := hpq
  have hc2 := zCA_lo hc1 hI2
  exact z_icmpS 1274 dL_law_317 (by decide) (kk _ _ _ _ ⟨⟨_, hc2⟩, hm2, hw⟩)
theorem law_322 {i : Nat} (hX : i + 8 ≤ X.1 ∧ X.1 ≤ 4096) (hj : ∀ j, -2147483648 ≤ X.2 j ∧ X.2 j ≤ 2147483647) (h : zLI sh I L R A) (kk : ∀ (A' : zA) (I' L' : zI2) (R' : zR2), zLI sh I' L' R' A' → zE X (mLn nm) 0 0 1274 [zS, zR 0, zR 157, zI (i : Int)] [] sh I' L' R' Q) : zE X (mLn nm) 0 0 322 [zS, zR 0, zR 157, zI (i : Int)] [] sh I L R Q := by
  have hf := zLI_f h
  obtain ⟨⟨P, hc⟩, hm, hw⟩ := h
  have c0 := hc.1.1.1
  have s0 := hm.1.1.1
  refine z_aload1 323 dL_law_322 rfl ?_
  refine z_aloadS0 324 dL_law_323 rfl ?_
  refine z_iload3 325 dL_law_324 rfl ?_
  refine z_iconst 326 dL_law_325 rfl ?_
  refine z_iadd 327 dL_law_326 rfl ?_
  refine z_sldN 328 ((i + 1)) dL_law_327 (by omega) (by omega) rfl ?_
  refine z_aloadS0 329 dL_law_328 rfl ?_
  refine z_iload3 330 dL_law_329 rfl ?_
  refine z_iconst 331 dL_law_330 rfl ?_
  refine z_iadd 332 dL_law_331 rfl ?_
  refine z_sldN 333 ((i + 2)) dL_law_332 (by omega) (by omega) rfl ?_
  refine z_aloadS0 334 dL_law_333 rfl ?_
  refine z_iload3 335 dL_law_334 rfl ?_
  refine z_iconst 336 dL_law_335 rfl ?_
  refine z_iadd 337 dL_law_336 rfl ?_
  refine z_sldN 338 ((i + 3)) dL_law_337 (by omega) (by omega) rfl ?_
  refine z_pV3 341 dL_law_338 (zVL_n lk_L_law_31) (op_X6_gains hc (hj (i + 1)) (hj (i + 2)) (hj (i + 3))) rfl (Nat.le_of_ble_eq_true rfl) (Nat.le_of_ble_eq_true rfl) (by assumption) rfl rfl (fun r0 sh0 I0 L0 R0 hpq => ?_)
  obtain ⟨rfl, rfl, ⟨P1, hc1⟩, hI1⟩ := hpq
  have hm1 := mCA_hi hm hI1
  refine z_aload2 342 dL_law_341 rfl ?_
  refine z_aloadS0 343 dL_law_342 rfl ?_
  refine z_iload3 344 dL_law_343 rfl ?_
  refine z_iconst 345 dL_law_344 rfl ?_
  refine z_iadd 346 dL_law_345 rfl ?_
  refine z_sldN 347 ((i + 1)) dL_law_346 (by omega) (by omega) rfl ?_
  refine z_aloadS0 348 dL_law_347 rfl ?_
  refine z_iload3 349 dL_law_348 rfl ?_
  refine z_iconst 350 dL_law_349 rfl ?_
  refine z_iadd 351 dL_law_350 rfl ?_
  refine z_sldN 352 ((i + 2)) dL_law_351 (by omega) (by omega) rfl ?_
  refine z_aloadS0 353 dL_law_352 rfl ?_
  refine z_iload3 354 dL_law_353 rfl ?_
  refine z_iconst 355 dL_law_354 rfl ?_
  refine z_iadd 356 dL_law_355 rfl ?_
  refine z_sldN 357 ((i + 3)) dL_law_356 (by omega) (by omega) rfl ?_
  refine z_pV3 360 dL_law_357 (zVL_n lk_L_law_34) (op_X7_gains hm1 (hj (i + 1)) (hj (i + 2)) (hj (i + 3))) rfl (Nat.le_of_ble_eq_true rfl) (Nat.le_of_ble_eq_true rfl) (by assumption) rfl rfl (fun r0 sh0 I0 L0 R0 hpq => ?_)
  obtain ⟨rfl, rfl, rfl, hm2, hI2⟩ := hpq
  have hc2 := zCA_lo hc1 hI2
  exact z_icmpS 1274 dL_law_360 (by decide) (kk _ _ _ _ ⟨⟨_, hc2⟩, hm2, hw⟩)
theorem law_365 {i : Nat} (hX : i + 8 ≤ X.1 ∧ X.1 ≤ 4096) (hj : ∀ j, -2147483648 ≤ X.2 j ∧ X.2 j ≤ 2147483647) (h : zLI sh I L R A) (kk : ∀ (A' : zA) (I' L' : zI2) (R' : zR2), zLI sh I' L' R' A' → zE X (mLn nm) 0 0 1274 [zS, zR 0, zR 157, zI (i : Int)] [] sh I' L' R' Q) : zE X (mLn nm) 0 0 365 [zS, zR 0, zR 157, zI (i : Int)] [] sh I L R Q := by
  have hf := zLI_f h
  obtain ⟨⟨P, hc⟩, hm, hw⟩ := h
  have c0 := hc.1.1.1
  have s0 := hm.1.1.1
  refine z_aload1 366 dL_law_365 rfl ?_
  refine z_aloadS0 367 dL_law_366 rfl ?_
  refine z_iload3 368 dL_law_367 rfl ?_
  refine z_iconst 369 dL_law_368 rfl ?_
  refine z_iadd 370 dL_law_369 rfl ?_
  refine z_sldN 371 ((i + 1)) dL_law_370 (by omega) (by omega) rfl ?_
  refine z_pV1 374 dL_law_371 (zVL_n lk_L_law_35) (op_X6_type hc (hj (i + 1))) rfl (Nat.le_of_ble_eq_true rfl) (Nat.le_of_ble_eq_true rfl) (by assumption) rfl rfl (fun r0 sh0 I0 L0 R0 hpq => ?_)
  obtain ⟨rfl, rfl, ⟨P1, hc1⟩, hI1⟩ := hpq
  have hm1 := mCA_hi hm hI1
  refine z_aload2 375 dL_law_374 rfl ?_
  refine z_aloadS0 376 dL_law_375 rfl ?_
  refine z_iload3 377 dL_law_376 rfl ?_
  refine z_iconst 378 dL_law_377 rfl ?_
  refine z_iadd 379 dL_law_378 rfl ?_
  refine z_sldN 380 ((i + 1)) dL_law_379 (by omega) (by omega) rfl ?_
  refine z_pV1 383 dL_law_380 (zVL_n lk_L_law_39) (op_X7_type hm1 (hj (i + 1))) rfl (Nat.le_of_ble_eq_true rfl) (Nat.le_of_ble_eq_true rfl) (by assumption) rfl rfl (fun r0 sh0 I0 L0 R0 hpq => ?_)
  obtain ⟨rfl, rfl, rfl, hm2, hI2⟩ := hpq
  have hc2 := zCA_lo hc1 hI2
  exact z_icmpS 1274 dL_law_383 (by decide) (kk _ _ _ _ ⟨⟨_, hc2⟩, hm2, zW_type hw _⟩)
theorem law_388 {i : Nat} (hX : i + 8 ≤ X.1 ∧ X.1 ≤ 4096) (hj : ∀ j, -2147483648 ≤ X.2 j ∧ X.2 j ≤ 2147483647) (h : zLI sh I L R A) (kk : ∀ (A' : zA) (I' L' : zI2) (R' : zR2), zLI sh I' L' R' A' → zE X (mLn nm) 0 0 1274 [zS, zR 0, zR 157, zI (i : Int)] [] sh I' L' R' Q) : zE X (mLn nm) 0 0 388 [zS, zR 0, zR 157, zI (i : Int)] [] sh I L R Q := by
  have hf := zLI_f h
  obtain ⟨⟨P, hc⟩, hm, hw⟩ := h
  have c0 := hc.1.1.1
  have s0 := hm.1.1.1
  refine z_aload1 389 dL_law_388 rfl ?_
  refine z_pV0 392 dL_law_389 (zVL_n lk_L_law_40) (op_X6_slide hc) rfl (Nat.le_of_ble_eq_true rfl) (Nat.le_of_ble_eq_true rfl) (by assumption) rfl rfl (fun r0 sh0 I0 L0 R0 hpq => ?_)
  obtain ⟨rfl, rfl, ⟨P1, hc1⟩, hI1⟩ := hpq
  have hm1 := mCA_hi hm hI1
  refine z_aload2 393 dL_law_392 rfl ?_
  refine z_pV0 396 dL_law_393 (zVL_n lk_L_law_44) (op_X7_slide hm1) rfl (Nat.le_of_ble_eq_true rfl) (Nat.le_of_ble_eq_true rfl) (by assumption) rfl rfl (fun r0 sh0 I0 L0 R0 hpq => ?_)
  obtain ⟨rfl, rfl, rfl, hm2, hI2⟩ := hpq
  have hc2 := zCA_lo hc1 hI2
  exact z_icmpS 1274 dL_law_396 (by decide) (kk _ _ _ _ ⟨⟨_, hc2⟩, hm2, zW_slide hf.2.2.2.1 hf.2.2.2.2 hw⟩)
theorem law_401 {i : Nat} (hX : i + 8 ≤ X.1 ∧ X.1 ≤ 4096) (hj : ∀ j, -2147483648 ≤ X.2 j ∧ X.2 j ≤ 2147483647) (h : zLI sh I L R A) (kk : ∀ (A' : zA) (I' L' : zI2) (R' : zR2), zLI sh I' L' R' A' → zE X (mLn nm) 0 0 1274 [zS, zR 0, zR 157, zI (i : Int)] [] sh I' L' R' Q) : zE X (mLn nm) 0 0 401 [zS, zR 0, zR 157, zI (i : Int)] [] sh I L R Q := by
  have hf := zLI_f h
  obtain ⟨⟨P, hc⟩, hm, hw⟩ := h
  have c0 := hc.1.1.1
  have s0 := hm.1.1.1
  refine z_aload1 402 dL_law_401 rfl ?_
  refine z_aloadS0 403 dL_law_402 rfl ?_
  refine z_iload3 404 dL_law_403 rfl ?_
  refine z_iconst 405 dL_law_404 rfl ?_
  refine z_iadd 406 dL_law_405 rfl ?_
  refine z_sldN 407 ((i + 1)) dL_law_406 (by omega) (by omega) rfl ?_
  refine z_pV1 410 dL_law_407 (zVL_n lk_L_law_45) (op_X6_count hc (hj (i + 1))) rfl (Nat.le_of_ble_eq_true rfl) (Nat.le_of_ble_eq_true rfl) (by assumption) rfl rfl (fun r0 sh0 I0 L0 R0 hpq => ?_)
  obtain ⟨rfl, rfl, ⟨P1, hc1⟩, hI1⟩ := hpq
  have hm1 := mCA_hi hm hI1
  refine z_aload2 411 dL_law_410 rfl ?_
  refine z_aloadS0 412 dL_law_411 rfl ?_
  refine z_iload3 413 dL_law_412 rfl ?_
  refine z_iconst 414 dL_law_413 rfl ?_
  refine z_iadd 415 dL_law_414 rfl ?_
  refine z_sldN 416 ((i + 1)) dL_law_415 (by omega) (by omega) rfl ?_
  refine z_pV1 419 dL_law_416 (zVL_n lk_L_law_48) (op_X7_count hm1 hw.1.1 (hj (i + 1))) rfl (Nat.le_of_ble_eq_true rfl) (Nat.le_of_ble_eq_true rfl) (by assumption) rfl rfl (fun r0 sh0 I0 L0 R0 hpq => ?_)
  obtain ⟨rfl, rfl, rfl, hm2, hI2⟩ := hpq
  have hc2 := zCA_lo hc1 hI2
  exact z_icmpS 1274 dL_law_419 (by decide) (kk _ _ _ _ ⟨⟨_, hc2⟩, hm2, hw⟩)
theorem law_424 {i : Nat} (hX : i + 8 ≤ X.1 ∧ X.1 ≤ 4096) (hj : ∀ j, -2147483648 ≤ X.2 j ∧ X.2 j ≤ 2147483647) (h : zLI sh I L R A) (kk : ∀ (A' : zA) (I' L' : zI2) (R' : zR2), zLI sh I' L' R' A' → zE X (mLn nm) 0 0 1274 [zS, zR 0, zR 157, zI (i : Int)] [] sh I' L' R' Q) : zE X (mLn nm) 0 0 424 [zS, zR 0, zR 157, zI (i : Int)] [] sh I L R Q := by
  have hf := zLI_f h
  obtain ⟨⟨P, hc⟩, hm, hw⟩ := h
  have c0 := hc.1.1.1
  have s0 := hm.1.1.1
  refine z_aload1 425 dL_law_424 rfl ?_
  refine z_aloadS0 426 dL_law_425 rfl ?_
  refine z_iload3 427 dL_law_426 rfl ?_
  refine z_iconst 428 dL_law_427 rfl ?_
  refine z_iadd 429 dL_law_428 rfl ?_
  refine z_sldN 430 ((i + 1)) dL_law_429 (by omega) (by omega) rfl ?_
  refine z_pV1 433 dL_law_430 (zVL_n lk_L_law_49) (op_X6_ride hc (hj (i + 1))) rfl (Nat.le_of_ble_eq_true rfl) (Nat.le_of_ble_eq_true rfl) (by assumption) rfl rfl (fun r0 sh0 I0 L0 R0 hpq => ?_)
  obtain ⟨rfl, rfl, ⟨P1, hc1⟩, hI1⟩ := hpq
  have hm1 := mCA_hi hm hI1
  refine z_aload2 434 dL_law_433 rfl ?_
  refine z_aloadS0 435 dL_law_434 rfl ?_
  refine z_iload3 436 dL_law_435 rfl ?_
  refine z_iconst 437 dL_law_436 rfl ?_
  refine z_iadd 438 dL_law_437 rfl ?_
  refine z_sldN 439 ((i + 1)) dL_law_438 (by omega) (by omega) rfl ?_
  refine z_pV1 442 dL_law_439 (zVL_n lk_L_law_52) (op_X7_ride hm1 hw.1.1 (hj (i + 1))) rfl (Nat.le_of_ble_eq_true rfl) (Nat.le_of_ble_eq_true rfl) (by assumption) rfl rfl (fun r0 sh0 I0 L0 R0 hpq => ?_)
  obtain ⟨rfl, rfl, rfl, hm2, hI2⟩ := hpq
  have hc2 := zCA_lo hc1 hI2
  exact z_icmpS 1274 dL_law_442 (by decide) (kk _ _ _ _ ⟨⟨_, hc2⟩, hm2, zW_ride hf.1 hw _⟩)
theorem law_447 {i : Nat} (hX : i + 8 ≤ X.1 ∧ X.1 ≤ 4096) (hj : ∀ j, -2147483648 ≤ X.2 j ∧ X.2 j ≤ 2147483647) (h : zLI sh I L R A) (kk : ∀ (A' : zA) (I' L' : zI2) (R' : zR2), zLI sh I' L' R' A' → zE X (mLn nm) 0 0 1274 [zS, zR 0, zR 157, zI (i : Int)] [] sh I' L' R' Q) : zE X (mLn nm) 0 0 447 [zS, zR 0, zR 157, zI (i : Int)] [] sh I L R Q := by
  have hf := zLI_f h
  obtain ⟨⟨P, hc⟩, hm, hw⟩ := h
  have c0 := hc.1.1.1
  have s0 := hm.1.1.1
  refine z_aload1 448 dL_law_447 rfl ?_
  refine z_aloadS0 449 dL_law_448 rfl ?_
  refine z_iload3 450 dL_law_449 rfl ?_
  refine z_iconst 451 dL_law_450 rfl ?_
  refine z_iadd 452 dL_law_451 rfl ?_
  refine z_sldN 453 ((i + 1)) dL_law_452 (by omega) (by omega) rfl ?_
  refine z_aloadS0 454 dL_law_453 rfl ?_
  refine z_iload3 455 dL_law_454 rfl ?_
  refine z_iconst 456 dL_law_455 rfl ?_
  refine z_iadd 457 dL_law_456 rfl ?_
  refine z_sldN 458 ((i + 2)) dL_law_457 (by omega) (by omega) rfl ?_
  refine z_pV2 461 dL_law_458 (zVL_n lk_L_law_53) (op_X6_wax hc (hj (i + 1)) (hj (i + 2))) rfl (Nat.le_of_ble_eq_true rfl) (Nat.le_of_ble_eq_true rfl) (by assumption) rfl rfl (fun r0 sh0 I0 L0 R0 hpq => ?_)
  obtain ⟨rfl, rfl, ⟨P1, hc1⟩, hI1⟩ := hpq
  have hm1 := mCA_hi hm hI1
  refine z_aload2 462 dL_law_461 rfl ?_
  refine z_aloadS0 463 dL_law_462 rfl ?_
  refine z_iload3 464 dL_law_463 rfl ?_
  refine z_iconst 465 dL_law_464 rfl ?_
  refine z_iadd 466 dL_law_465 rfl ?_
  refine z_sldN 467 ((i + 1)) dL_law_466 (by omega) (by omega) rfl ?_
  refine z_aloadS0 468 dL_law_467 rfl ?_
  refine z_iload3 469 dL_law_468 rfl ?_
  refine z_iconst 470 dL_law_469 rfl ?_
  refine z_iadd 471 dL_law_470 rfl ?_
  refine z_sldN 472 ((i + 2)) dL_law_471 (by omega) (by omega) rfl ?_
  refine z_pV2 475 dL_law_472 (zVL_n lk_L_law_56) (op_X7_wax hm1 (hj (i + 1)) (hj (i + 2))) rfl (Nat.le_of_ble_eq_true rfl) (Nat.le_of_ble_eq_true rfl) (by assumption) rfl rfl (fun r0 sh0 I0 L0 R0 hpq => ?_)
  obtain ⟨rfl, rfl, rfl, hm2, hI2⟩ := hpq
  have hc2 := zCA_lo hc1 hI2
  exact z_icmpS 1274 dL_law_475 (by decide) (kk _ _ _ _ ⟨⟨_, hc2⟩, hm2, zW_wax hw (Or.inl rfl) _ _⟩)
theorem law_480 {i : Nat} (hX : i + 8 ≤ X.1 ∧ X.1 ≤ 4096) (hj : ∀ j, -2147483648 ≤ X.2 j ∧ X.2 j ≤ 2147483647) (h : zLI sh I L R A) (kk : ∀ (A' : zA) (I' L' : zI2) (R' : zR2), zLI sh I' L' R' A' → zE X (mLn nm) 0 0 1274 [zS, zR 0, zR 157, zI (i : Int)] [] sh I' L' R' Q) : zE X (mLn nm) 0 0 480 [zS, zR 0, zR 157, zI (i : Int)] [] sh I L R Q := by
  have hf := zLI_f h
  obtain ⟨⟨P, hc⟩, hm, hw⟩ := h
  have c0 := hc.1.1.1
  have s0 := hm.1.1.1
  refine z_aload1 481 dL_law_480 rfl ?_
  refine z_aloadS0 482 dL_law_481 rfl ?_
  refine z_iload3 483 dL_law_482 rfl ?_
  refine z_iconst 484 dL_law_483 rfl ?_
  refine z_iadd 485 dL_law_484 rfl ?_
  refine z_sldN 486 ((i + 1)) dL_law_485 (by omega) (by omega) rfl ?_
  refine z_aloadS0 487 dL_law_486 rfl ?_
  refine z_iload3 488 dL_law_487 rfl ?_
  refine z_iconst 489 dL_law_488 rfl ?_
  refine z_iadd 490 dL_law_489 rfl ?_
  refine z_sldN 491 ((i + 2)) dL_law_490 (by omega) (by omega) rfl ?_
  refine z_pV2 494 dL_law_491 (zVL_n lk_L_law_57) (op_X6_hammer hc (hj (i + 1)) (hj (i + 2))) rfl (Nat.le_of_ble_eq_true rfl) (Nat.le_of_ble_eq_true rfl) (by assumption) rfl rfl (fun r0 sh0 I0 L0 R0 hpq => ?_)
  obtain ⟨rfl, rfl, ⟨P1, hc1⟩, hI1⟩ := hpq
  have hm1 := mCA_hi hm hI1
  refine z_aload2 495 dL_law_494 rfl ?_
  refine z_aloadS0 496 dL_law_495 rfl ?_
  refine z_iload3 497 dL_law_496 rfl ?_
  refine z_iconst 498 dL_law_497 rfl ?_
  refine z_iadd 499 dL_law_498 rfl ?_
  refine z_sldN 500 ((i + 1)) dL_law_499 (by omega) (by omega) rfl ?_
  refine z_aloadS0 501 dL_law_500 rfl ?_
  refine z_iload3 502 dL_law_501 rfl ?_
  refine z_iconst 503 dL_law_502 rfl ?_
  refine z_iadd 504 dL_law_503 rfl ?_
  refine z_sldN 505 ((i + 2)) dL_law_504 (by omega) (by omega) rfl ?_
  refine z_pV2 508 dL_law_505 (zVL_n lk_L_law_60) (op_X7_hammer hm1 (hj (i + 1)) (hj (i + 2))) rfl (Nat.le_of_ble_eq_true rfl) (Nat.le_of_ble_eq_true rfl) (by assumption) rfl rfl (fun r0 sh0 I0 L0 R0 hpq => ?_)
  obtain ⟨rfl, rfl, rfl, hm2, hI2⟩ := hpq
  have hc2 := zCA_lo hc1 hI2
  exact z_icmpS 1274 dL_law_508 (by decide) (kk _ _ _ _ ⟨⟨_, hc2⟩, hm2, zW_wax hw (Or.inr rfl) _ _⟩)
theorem law_513 {i : Nat} (hX : i + 8 ≤ X.1 ∧ X.1 ≤ 4096) (hj : ∀ j, -2147483648 ≤ X.2 j ∧ X.2 j ≤ 2147483647) (h : zLI sh I L R A) (kk : ∀ (A' : zA) (I' L' : zI2) (R' : zR2), zLI sh I' L' R' A' → zE X (mLn nm) 0 0 1274 [zS, zR 0, zR 157, zI (i : Int)] [] sh I' L' R' Q) : zE X (mLn nm) 0 0 513 [zS, zR 0, zR 157, zI (i : Int)] [] sh I L R Q := by
  have hf := zLI_f h
  obtain ⟨⟨P, hc⟩, hm, hw⟩ := h
  have c0 := hc.1.1.1
  have s0 := hm.1.1.1
  refine z_aload1 514 dL_law_513 rfl ?_
  refine z_aloadS0 515 dL_law_514 rfl ?_
  refine z_iload3 516 dL_law_515 rfl ?_
  refine z_iconst 517 dL_law_516 rfl ?_
  refine z_iadd 518 dL_law_517 rfl ?_
  refine z_sldN 519 ((i + 1)) dL_law_518 (by omega) (by omega) rfl ?_
  refine z_pV1 522 dL_law_519 (zVL_n lk_L_law_61) (op_X6_up hc (hj (i + 1))) rfl (Nat.le_of_ble_eq_true rfl) (Nat.le_of_ble_eq_true rfl) (by assumption) rfl rfl (fun r0 sh0 I0 L0 R0 hpq => ?_)
  obtain ⟨rfl, rfl, ⟨P1, hc1⟩, hI1⟩ := hpq
  have hm1 := mCA_hi hm hI1
  refine z_aload2 523 dL_law_522 rfl ?_
  refine z_aloadS0 524 dL_law_523 rfl ?_
  refine z_iload3 525 dL_law_524 rfl ?_
  refine z_iconst 526 dL_law_525 rfl ?_
  refine z_iadd 527 dL_law_526 rfl ?_
  refine z_sldN 528 ((i + 1)) dL_law_527 (by omega) (by omega) rfl ?_
  refine z_pV1 531 dL_law_528 (zVL_n lk_L_law_64) (op_X7_up hm1 (hj (i + 1))) rfl (Nat.le_of_ble_eq_true rfl) (Nat.le_of_ble_eq_true rfl) (by assumption) rfl rfl (fun r0 sh0 I0 L0 R0 hpq => ?_)
  obtain ⟨rfl, rfl, rfl, hm2, hI2⟩ := hpq
  have hc2 := zCA_lo hc1 hI2
  exact z_icmpS 1274 dL_law_531 (by decide) (kk _ _ _ _ ⟨⟨_, hc2⟩, hm2, zW_up hw _⟩)
theorem law_536 {i : Nat} (hX : i + 8 ≤ X.1 ∧ X.1 ≤ 4096) (hj : ∀ j, -2147483648 ≤ X.2 j ∧ X.2 j ≤ 2147483647) (h : zLI sh I L R A) (kk : ∀ (A' : zA) (I' L' : zI2) (R' : zR2), zLI sh I' L' R' A' → zE X (mLn nm) 0 0 1274 [zS, zR 0, zR 157, zI (i : Int)] [] sh I' L' R' Q) : zE X (mLn nm) 0 0 536 [zS, zR 0, zR 157, zI (i : Int)] [] sh I L R Q := by
  have hf := zLI_f h
  obtain ⟨⟨P, hc⟩, hm, hw⟩ := h
  have c0 := hc.1.1.1
  have s0 := hm.1.1.1
  refine z_aload1 537 dL_law_536 rfl ?_
  refine z_aloadS0 538 dL_law_537 rfl ?_
  refine z_iload3 539 dL_law_538 rfl ?_
  refine z_iconst 540 dL_law_539 rfl ?_
  refine z_iadd 541 dL_law_540 rfl ?_
  refine z_sldN 542 ((i + 1)) dL_law_541 (by omega) (by omega) rfl ?_
  refine z_pV1 545 dL_law_542 (zVL_n lk_L_law_65) (op_X6_drift hc (hj (i + 1))) rfl (Nat.le_of_ble_eq_true rfl) (Nat.le_of_ble_eq_true rfl) (by assumption) rfl rfl (fun r0 sh0 I0 L0 R0 hpq => ?_)
  obtain ⟨rfl, rfl, ⟨P1, hc1⟩, hI1⟩ := hpq
  have hm1 := mCA_hi hm hI1
  refine z_aload2 546 dL_law_545 rfl ?_
  refine z_aloadS0 547 dL_law_546 rfl ?_
  refine z_iload3 548 dL_law_547 rfl ?_
  refine z_iconst 549 dL_law_548 rfl ?_
  refine z_iadd 550 dL_law_549 rfl ?_
  refine z_sldN 551 ((i + 1)) dL_law_550 (by omega) (by omega) rfl ?_
  refine z_pV1 554 dL_law_551 (zVL_n lk_L_law_68) (op_X7_drift hm1 hw.1.1 (hj (i + 1))) rfl (Nat.le_of_ble_eq_true rfl) (Nat.le_of_ble_eq_true rfl) (by assumption) rfl rfl (fun r0 sh0 I0 L0 R0 hpq => ?_)
  obtain ⟨rfl, rfl, rfl, hm2, hI2⟩ := hpq
  have hc2 := zCA_lo hc1 hI2
  exact z_icmpS 1274 dL_law_554 (by decide) (kk _ _ _ _ ⟨⟨_, hc2⟩, hm2, zW_drift hf.1 hw _⟩)
theorem law_559 {i : Nat} (hX : i + 8 ≤ X.1 ∧ X.1 ≤ 4096) (hj : ∀ j, -2147483648 ≤ X.2 j ∧ X.2 j ≤ 2147483647) (h : zLI sh I L R A) (kk : ∀ (A' : zA) (I' L' : zI2) (R' : zR2), zLI sh I' L' R' A' → zE X (mLn nm) 0 0 1274 [zS, zR 0, zR 157, zI (i : Int)] [] sh I' L' R' Q) : zE X (mLn nm) 0 0 559 [zS, zR 0, zR 157, zI (i : Int)] [] sh I L R Q := by
  have hf := zLI_f h
  obtain ⟨⟨P, hc⟩, hm, hw⟩ := h
  have c0 := hc.1.1.1
  have s0 := hm.1.1.1
  refine z_aload1 560 dL_law_559 rfl ?_
  refine z_pV0 563 dL_law_560 (zVL_n lk_L_law_69) (op_X6_undo hc hf.2.2.1) rfl (Nat.le_of_ble_eq_true rfl) (Nat.le_of_ble_eq_true rfl) (by assumption) rfl rfl (fun r0 sh0 I0 L0 R0 hpq => ?_)
  obtain ⟨rfl, rfl, ⟨P1, hc1⟩, hI1⟩ := hpq
  have hm1 := mCA_hi hm hI1
  refine z_aload2 564 dL_law_563 rfl ?_
  refine z_pV0 567 dL_law_564 (zVL_n lk_L_law_72) (op_X7_undo hm1 (fun s hs => (hw.1.2 s hs).2)) rfl (Nat.le_of_ble_eq_true rfl) (Nat.le_of_ble_eq_true rfl) (by assumption) rfl rfl (fun r0 sh0 I0 L0 R0 hpq => ?_)
  obtain ⟨rfl, rfl, rfl, hm2, hI2⟩ := hpq
  have hc2 := zCA_lo hc1 hI2
  exact z_icmpS 1274 dL_law_567 (by decide) (kk _ _ _ _ ⟨⟨_, hc2⟩, hm2, zW_undo hf.1 hw⟩)
theorem law_572 {i : Nat} (hX : i + 8 ≤ X.1 ∧ X.1 ≤ 4096) (hj : ∀ j, -2147483648 ≤ X.2 j ∧ X.2 j ≤ 2147483647) (h : zLI sh I L R A) (kk : ∀ (A' : zA) (I' L' : zI2) (R' : zR2), zLI sh I' L' R' A' → zE X (mLn nm) 0 0 1274 [zS, zR 0, zR 157, zI (i : Int)] [] sh I' L' R' Q) : zE X (mLn nm) 0 0 572 [zS, zR 0, zR 157, zI (i : Int)] [] sh I L R Q := by
  have hf := zLI_f h
  obtain ⟨⟨P, hc⟩, hm, hw⟩ := h
  have c0 := hc.1.1.1
  have s0 := hm.1.1.1
  refine z_aload1 573 dL_law_572 rfl ?_
  refine z_aloadS0 574 dL_law_573 rfl ?_
  refine z_iload3 575 dL_law_574 rfl ?_
  refine z_iconst 576 dL_law_575 rfl ?_
  refine z_iadd 577 dL_law_576 rfl ?_
  refine z_sldN 578 ((i + 1)) dL_law_577 (by omega) (by omega) rfl ?_
  refine z_pV1 581 dL_law_578 (zVL_n lk_L_law_73) (op_X6_seed hc (hj (i + 1))) rfl (Nat.le_of_ble_eq_true rfl) (Nat.le_of_ble_eq_true rfl) (by assumption) rfl rfl (fun r0 sh0 I0 L0 R0 hpq => ?_)
  obtain ⟨rfl, rfl, ⟨P1, hc1⟩, hI1⟩ := hpq
  have hm1 := mCA_hi hm hI1
  refine z_aload2 582 dL_law_581 rfl ?_
  refine z_aloadS0 583 dL_law_582 rfl ?_
  refine z_iload3 584 dL_law_583 rfl ?_
  refine z_iconst 585 dL_law_584 rfl ?_
  refine z_iadd 586 dL_law_585 rfl ?_
  refine z_sldN 587 ((i + 1)) dL_law_586 (by omega) (by omega) rfl ?_
  refine z_pV1 590 dL_law_587 (zVL_n lk_L_law_76) (op_X7_seed hm1 (hj (i + 1))) rfl (Nat.le_of_ble_eq_true rfl) (Nat.le_of_ble_eq_true rfl) (by assumption) rfl rfl (fun r0 sh0 I0 L0 R0 hpq => ?_)
  obtain ⟨rfl, rfl, rfl, hm2, hI2⟩ := hpq
  have hc2 := zCA_lo hc1 hI2
  exact z_icmpS 1274 dL_law_590 (by decide) (kk _ _ _ _ ⟨⟨_, hc2⟩, hm2, zW_seed hw _⟩)
theorem law_595 {i : Nat} (hX : i + 8 ≤ X.1 ∧ X.1 ≤ 4096) (hj : ∀ j, -2147483648 ≤ X.2 j ∧ X.2 j ≤ 2147483647) (h : zLI sh I L R A) (kk : ∀ (A' : zA) (I' L' : zI2) (R' : zR2), zLI sh I' L' R' A' → zE X (mLn nm) 0 0 1274 [zS, zR 0, zR 157, zI (i : Int)] [] sh I' L' R' Q) : zE X (mLn nm) 0 0 595 [zS, zR 0, zR 157, zI (i : Int)] [] sh I L R Q := by
  have hf := zLI_f h
  obtain ⟨⟨P, hc⟩, hm, hw⟩ := h
  have c0 := hc.1.1.1
  have s0 := hm.1.1.1
  refine z_aload1 596 dL_law_595 rfl ?_
  refine z_aloadS0 597 dL_law_596 rfl ?_
  refine z_iload3 598 dL_law_597 rfl ?_
  refine z_iconst 599 dL_law_598 rfl ?_
  refine z_iadd 600 dL_law_599 rfl ?_
  refine z_sldN 601 ((i + 1)) dL_law_600 (by omega) (by omega) rfl ?_
  refine z_aloadS0 602 dL_law_601 rfl ?_
  refine z_iload3 603 dL_law_602 rfl ?_
  refine z_iconst 604 dL_law_603 rfl ?_
  refine z_iadd 605 dL_law_604 rfl ?_
  refine z_sldN 606 ((i + 2)) dL_law_605 (by omega) (by omega) rfl ?_
  refine z_pV2 609 dL_law_606 (zVL_n lk_L_law_77) (op_X6_speed hc (hj (i + 1)) (hj (i + 2))) rfl (Nat.le_of_ble_eq_true rfl) (Nat.le_of_ble_eq_true rfl) (by assumption) rfl rfl (fun r0 sh0 I0 L0 R0 hpq => ?_)
  obtain ⟨rfl, rfl, ⟨P1, hc1⟩, hI1⟩ := hpq
  have hm1 := mCA_hi hm hI1
  refine z_aload2 610 dL_law_609 rfl ?_
  refine z_aloadS0 611 dL_law_610 rfl ?_
  refine z_iload3 612 dL_law_611 rfl ?_
  refine z_iconst 613 dL_law_612 rfl ?_
  refine z_iadd 614 dL_law_613 rfl ?_
  refine z_sldN 615 ((i + 1)) dL_law_614 (by omega) (by omega) rfl ?_
  refine z_aloadS0 616 dL_law_615 rfl ?_
  refine z_iload3 617 dL_law_616 rfl ?_
  refine z_iconst 618 dL_law_617 rfl ?_
  refine z_iadd 619 dL_law_618 rfl ?_
  refine z_sldN 620 ((i + 2)) dL_law_619 (by omega) (by omega) rfl ?_
  refine z_pV2 623 dL_law_620 (zVL_n lk_L_law_80) (op_X7_speed hm1 hw.1.1 (hj (i + 1)) (hj (i + 2))) rfl (Nat.le_of_ble_eq_true rfl) (Nat.le_of_ble_eq_true rfl) (by assumption) rfl rfl (fun r0 sh0 I0 L0 R0 hpq => ?_)
  obtain ⟨rfl, rfl, rfl, hm2, hI2⟩ := hpq
  have hc2 := zCA_lo hc1 hI2
  exact z_icmpS 1274 dL_law_623 (by decide) (kk _ _ _ _ ⟨⟨_, hc2⟩, hm2, hw⟩)
theorem law_628 {i : Nat} (hX : i + 8 ≤ X.1 ∧ X.1 ≤ 4096) (hj : ∀ j, -2147483648 ≤ X.2 j ∧ X.2 j ≤ 2147483647) (h : zLI sh I L R A) (kk : ∀ (A' : zA) (I' L' : zI2) (R' : zR2), zLI sh I' L' R' A' → zE X (mLn nm) 0 0 1274 [zS, zR 0, zR 157, zI (i : Int)] [] sh I' L' R' Q) : zE X (mLn nm) 0 0 628 [zS, zR 0, zR 157, zI (i : Int)] [] sh I L R Q := by
  have hf := zLI_f h
  obtain ⟨⟨P, hc⟩, hm, hw⟩ := h
  have c0 := hc.1.1.1
  have s0 := hm.1.1.1
  refine z_aload1 629 dL_law_628 rfl ?_
  refine z_aloadS0 630 dL_law_629 rfl ?_
  refine z_iload3 631 dL_law_630 rfl ?_
  refine z_iconst 632 dL_law_631 rfl ?_
  refine z_iadd 633 dL_law_632 rfl ?_
  refine z_sldN 634 ((i + 1)) dL_law_633 (by omega) (by omega) rfl ?_
  refine z_pV1 637 dL_law_634 (zVL_n lk_L_law_81) (op_X6_ends hc (hj (i + 1))) rfl (Nat.le_of_ble_eq_true rfl) (Nat.le_of_ble_eq_true rfl) (by assumption) rfl rfl (fun r0 sh0 I0 L0 R0 hpq => ?_)
  obtain ⟨rfl, rfl, ⟨P1, hc1⟩, hI1⟩ := hpq
  have hm1 := mCA_hi hm hI1
  refine z_aload2 638 dL_law_637 rfl ?_
  refine z_aloadS0 639 dL_law_638 rfl ?_
  refine z_iload3 640 dL_law_639 rfl ?_
  refine z_iconst 641 dL_law_640 rfl ?_
  refine z_iadd 642 dL_law_641 rfl ?_
  refine z_sldN 643 ((i + 1)) dL_law_642 (by omega) (by omega) rfl ?_
  refine z_pV1 646 dL_law_643 (zVL_n lk_L_law_84) (op_X7_ends hm1 hw.1.1 (hj (i + 1))) rfl (Nat.le_of_ble_eq_true rfl) (Nat.le_of_ble_eq_true rfl) (by assumption) rfl rfl (fun r0 sh0 I0 L0 R0 hpq => ?_)
  obtain ⟨rfl, rfl, rfl, hm2, hI2⟩ := hpq
  have hc2 := zCA_lo hc1 hI2
  exact z_icmpS 1274 dL_law_646 (by decide) (kk _ _ _ _ ⟨⟨_, hc2⟩, hm2, hw⟩)
theorem law_651 {i : Nat} (hX : i + 8 ≤ X.1 ∧ X.1 ≤ 4096) (hj : ∀ j, -2147483648 ≤ X.2 j ∧ X.2 j ≤ 2147483647) (h : zLI sh I L R A) (kk : ∀ (A' : zA) (I' L' : zI2) (R' : zR2), zLI sh I' L' R' A' → zE X (mLn nm) 0 0 1274 [zS, zR 0, zR 157, zI (i : Int)] [] sh I' L' R' Q) : zE X (mLn nm) 0 0 651 [zS, zR 0, zR 157, zI (i : Int)] [] sh I L R Q := by
  have hf := zLI_f h
  obtain ⟨⟨P, hc⟩, hm, hw⟩ := h
  have c0 := hc.1.1.1
  have s0 := hm.1.1.1
  refine z_aload1 652 dL_law_651 rfl ?_
  refine z_aloadS0 653 dL_law_652 rfl ?_
  refine z_iload3 654 dL_law_653 rfl ?_
  refine z_iconst 655 dL_law_654 rfl ?_
  refine z_iadd 656 dL_law_655 rfl ?_
  refine z_sldN 657 ((i + 1)) dL_law_656 (by omega) (by omega) rfl ?_
  refine z_aloadS0 658 dL_law_657 rfl ?_
  refine z_iload3 659 dL_law_658 rfl ?_
  refine z_iconst 660 dL_law_659 rfl ?_
  refine z_iadd 661 dL_law_660 rfl ?_
  refine z_sldN 662 ((i + 2)) dL_law_661 (by omega) (by omega) rfl ?_
  refine z_pV2 665 dL_law_662 (zVL_n lk_L_law_85) (op_X6_fast hc (hj (i + 1)) (hj (i + 2))) rfl (Nat.le_of_ble_eq_true rfl) (Nat.le_of_ble_eq_true rfl) (by assumption) rfl rfl (fun r0 sh0 I0 L0 R0 hpq => ?_)
  obtain ⟨rfl, rfl, ⟨P1, hc1⟩, hI1⟩ := hpq
  have hm1 := mCA_hi hm hI1
  refine z_aload2 666 dL_law_665 rfl ?_
  refine z_aloadS0 667 dL_law_666 rfl ?_
  refine z_iload3 668 dL_law_667 rfl ?_
  refine z_iconst 669 dL_law_668 rfl ?_
  refine z_iadd 670 dL_law_669 rfl ?_
  refine z_sldN 671 ((i + 1)) dL_law_670 (by omega) (by omega) rfl ?_
  refine z_aloadS0 672 dL_law_671 rfl ?_
  refine z_iload3 673 dL_law_672 rfl ?_
  refine z_iconst 674 dL_law_673 rfl ?_
  refine z_iadd 675 dL_law_674 rfl ?_
  refine z_sldN 676 ((i + 2)) dL_law_675 (by omega) (by omega) rfl ?_
  refine z_pV2 679 dL_law_676 (zVL_n lk_L_law_88) (op_X7_fast hm1 hw.1.1 (hj (i + 1)) (hj (i + 2))) rfl (Nat.le_of_ble_eq_true rfl) (Nat.le_of_ble_eq_true rfl) (by assumption) rfl rfl (fun r0 sh0 I0 L0 R0 hpq => ?_)
  obtain ⟨rfl, rfl, rfl, hm2, hI2⟩ := hpq
  have hc2 := zCA_lo hc1 hI2
  exact z_icmpS 1274 dL_law_679 (by decide) (kk _ _ _ _ ⟨⟨_, hc2⟩, hm2, hw⟩)
theorem law_684 {i : Nat} (hX : i + 8 ≤ X.1 ∧ X.1 ≤ 4096) (hj : ∀ j, -2147483648 ≤ X.2 j ∧ X.2 j ≤ 2147483647) (h : zLI sh I L R A) (kk : ∀ (A' : zA) (I' L' : zI2) (R' : zR2), zLI sh I' L' R' A' → zE X (mLn nm) 0 0 1274 [zS, zR 0, zR 157, zI (i : Int)] [] sh I' L' R' Q) : zE X (mLn nm) 0 0 684 [zS, zR 0, zR 157, zI (i : Int)] [] sh I L R Q := by
  have hf := zLI_f h
  obtain ⟨⟨P, hc⟩, hm, hw⟩ := h
  have c0 := hc.1.1.1
  have s0 := hm.1.1.1
  refine z_aload1 685 dL_law_684 rfl ?_
  refine z_aloadS0 686 dL_law_685 rfl ?_
  refine z_iload3 687 dL_law_686 rfl ?_
  refine z_iconst 688 dL_law_687 rfl ?_
  refine z_iadd 689 dL_law_688 rfl ?_
  refine z_sldN 690 ((i + 1)) dL_law_689 (by omega) (by omega) rfl ?_
  refine z_pV1 693 dL_law_690 (zVL_n lk_L_law_89) (op_X6_who hc (hj (i + 1))) rfl (Nat.le_of_ble_eq_true rfl) (Nat.le_of_ble_eq_true rfl) (by assumption) rfl rfl (fun r0 sh0 I0 L0 R0 hpq => ?_)
  obtain ⟨rfl, rfl, ⟨P1, hc1⟩, hI1⟩ := hpq
  have hm1 := mCA_hi hm hI1
  refine z_aload2 694 dL_law_693 rfl ?_
  refine z_aloadS0 695 dL_law_694 rfl ?_
  refine z_iload3 696 dL_law_695 rfl ?_
  refine z_iconst 697 dL_law_696 rfl ?_
  refine z_iadd 698 dL_law_697 rfl ?_
  refine z_sldN 699 ((i + 1)) dL_law_698 (by omega) (by omega) rfl ?_
  refine z_pV1 702 dL_law_699 (zVL_n lk_L_law_92) (op_X7_who hm1 hw.1.1 (hj (i + 1))) rfl (Nat.le_of_ble_eq_true rfl) (Nat.le_of_ble_eq_true rfl) (by assumption) rfl rfl (fun r0 sh0 I0 L0 R0 hpq => ?_)
  obtain ⟨rfl, rfl, rfl, hm2, hI2⟩ := hpq
  have hc2 := zCA_lo hc1 hI2
  exact z_icmpS 1274 dL_law_702 (by decide) (kk _ _ _ _ ⟨⟨_, hc2⟩, hm2, hw⟩)
theorem law_707 {i : Nat} (hX : i + 8 ≤ X.1 ∧ X.1 ≤ 4096) (hj : ∀ j, -2147483648 ≤ X.2 j ∧ X.2 j ≤ 2147483647) (h : zLI sh I L R A) (kk : ∀ (A' : zA) (I' L' : zI2) (R' : zR2), zLI sh I' L' R' A' → zE X (mLn nm) 0 0 1274 [zS, zR 0, zR 157, zI (i : Int)] [] sh I' L' R' Q) : zE X (mLn nm) 0 0 707 [zS, zR 0, zR 157, zI (i : Int)] [] sh I L R Q := by
  have hf := zLI_f h
  obtain ⟨⟨P, hc⟩, hm, hw⟩ := h
  have c0 := hc.1.1.1
  have s0 := hm.1.1.1
  refine z_aload1 708 dL_law_707 rfl ?_
  refine z_aloadS0 709 dL_law_708 rfl ?_
  refine z_iload3 710 dL_law_709 rfl ?_
  refine z_iconst 711 dL_law_710 rfl ?_
  refine z_iadd 712 dL_law_711 rfl ?_
  refine z_sldN 713 ((i + 1)) dL_law_712 (by omega) (by omega) rfl ?_
  refine z_aloadS0 714 dL_law_713 rfl ?_
  refine z_iload3 715 dL_law_714 rfl ?_
  refine z_iconst 716 dL_law_715 rfl ?_
  refine z_iadd 717 dL_law_716 rfl ?_
  refine z_sldN 718 ((i + 2)) dL_law_717 (by omega) (by omega) rfl ?_
  refine z_pV2 721 dL_law_718 (zVL_n lk_L_law_93) (op_X6_waxes hc (hj (i + 1)) (hj (i + 2))) rfl (Nat.le_of_ble_eq_true rfl) (Nat.le_of_ble_eq_true rfl) (by assumption) rfl rfl (fun r0 sh0 I0 L0 R0 hpq => ?_)
  obtain ⟨rfl, rfl, ⟨P1, hc1⟩, hI1⟩ := hpq
  have hm1 := mCA_hi hm hI1
  refine z_aload2 722 dL_law_721 rfl ?_
  refine z_aloadS0 723 dL_law_722 rfl ?_
  refine z_iload3 724 dL_law_723 rfl ?_
  refine z_iconst 725 dL_law_724 rfl ?_
  refine z_iadd 726 dL_law_725 rfl ?_
  refine z_sldN 727 ((i + 1)) dL_law_726 (by omega) (by omega) rfl ?_
  refine z_aloadS0 728 dL_law_727 rfl ?_
  refine z_iload3 729 dL_law_728 rfl ?_
  refine z_iconst 730 dL_law_729 rfl ?_
  refine z_iadd 731 dL_law_730 rfl ?_
  refine z_sldN 732 ((i + 2)) dL_law_731 (by omega) (by omega) rfl ?_
  refine z_pV2 735 dL_law_732 (zVL_n lk_L_law_96) (op_X7_waxes hm1 hw.1.1 (hj (i + 1)) (hj (i + 2))) rfl (Nat.le_of_ble_eq_true rfl) (Nat.le_of_ble_eq_true rfl) (by assumption) rfl rfl (fun r0 sh0 I0 L0 R0 hpq => ?_)
  obtain ⟨rfl, rfl, rfl, hm2, hI2⟩ := hpq
  have hc2 := zCA_lo hc1 hI2
  exact z_icmpS 1274 dL_law_735 (by decide) (kk _ _ _ _ ⟨⟨_, hc2⟩, hm2, hw⟩)
theorem law_740 {i : Nat} (hX : i + 8 ≤ X.1 ∧ X.1 ≤ 4096) (hj : ∀ j, -2147483648 ≤ X.2 j ∧ X.2 j ≤ 2147483647) (h : zLI sh I L R A) (kk : ∀ (A' : zA) (I' L' : zI2) (R' : zR2), zLI sh I' L' R' A' → zE X (mLn nm) 0 0 1274 [zS, zR 0, zR 157, zI (i : Int)] [] sh I' L' R' Q) : zE X (mLn nm) 0 0 740 [zS, zR 0, zR 157, zI (i : Int)] [] sh I L R Q := by
  have hf := zLI_f h
  obtain ⟨⟨P, hc⟩, hm, hw⟩ := h
  have c0 := hc.1.1.1
  have s0 := hm.1.1.1
  refine z_aload1 741 dL_law_740 rfl ?_
  refine z_aloadS0 742 dL_law_741 rfl ?_
  refine z_iload3 743 dL_law_742 rfl ?_
  refine z_iconst 744 dL_law_743 rfl ?_
  refine z_iadd 745 dL_law_744 rfl ?_
  refine z_sldN 746 ((i + 1)) dL_law_745 (by omega) (by omega) rfl ?_
  refine z_aloadS0 747 dL_law_746 rfl ?_
  refine z_iload3 748 dL_law_747 rfl ?_
  refine z_iconst 749 dL_law_748 rfl ?_
  refine z_iadd 750 dL_law_749 rfl ?_
  refine z_sldN 751 ((i + 2)) dL_law_750 (by omega) (by omega) rfl ?_
  refine z_pV2 754 dL_law_751 (zVL_n lk_L_law_97) (op_X6_may hc (hj (i + 1)) (hj (i + 2))) rfl (Nat.le_of_ble_eq_true rfl) (Nat.le_of_ble_eq_true rfl) (by assumption) rfl rfl (fun r0 sh0 I0 L0 R0 hpq => ?_)
  obtain ⟨rfl, rfl, ⟨P1, hc1⟩, hI1⟩ := hpq
  have hm1 := mCA_hi hm hI1
  refine z_aload2 755 dL_law_754 rfl ?_
  refine z_aloadS0 756 dL_law_755 rfl ?_
  refine z_iload3 757 dL_law_756 rfl ?_
  refine z_iconst 758 dL_law_757 rfl ?_
  refine z_iadd 759 dL_law_758 rfl ?_
  refine z_sldN 760 ((i + 1)) dL_law_759 (by omega) (by omega) rfl ?_
  refine z_aloadS0 761 dL_law_760 rfl ?_
  refine z_iload3 762 dL_law_761 rfl ?_
  refine z_iconst 763 dL_law_762 rfl ?_
  refine z_iadd 764 dL_law_763 rfl ?_
  refine z_sldN 765 ((i + 2)) dL_law_764 (by omega) (by omega) rfl ?_
  refine z_pV2 768 dL_law_765 (zVL_n lk_L_law_100) (op_X7_may hm1 hw.1.1 (hj (i + 1)) (hj (i + 2))) rfl (Nat.le_of_ble_eq_true rfl) (Nat.le_of_ble_eq_true rfl) (by assumption) rfl rfl (fun r0 sh0 I0 L0 R0 hpq => ?_)
  obtain ⟨rfl, rfl, rfl, hm2, hI2⟩ := hpq
  have hc2 := zCA_lo hc1 hI2
  exact z_icmpS 1274 dL_law_768 (by decide) (kk _ _ _ _ ⟨⟨_, hc2⟩, hm2, hw⟩)
theorem law_773 {i : Nat} (hX : i + 8 ≤ X.1 ∧ X.1 ≤ 4096) (hj : ∀ j, -2147483648 ≤ X.2 j ∧ X.2 j ≤ 2147483647) (h : zLI sh I L R A) (kk : ∀ (A' : zA) (I' L' : zI2) (R' : zR2), zLI sh I' L' R' A' → zE X (mLn nm) 0 0 1274 [zS, zR 0, zR 157, zI (i : Int)] [] sh I' L' R' Q) : zE X (mLn nm) 0 0 773 [zS, zR 0, zR 157, zI (i : Int)] [] sh I L R Q := by
  have hf := zLI_f h
  obtain ⟨⟨P, hc⟩, hm, hw⟩ := h
  have c0 := hc.1.1.1
  have s0 := hm.1.1.1
  refine z_aload1 774 dL_law_773 rfl ?_
  refine z_aloadS0 775 dL_law_774 rfl ?_
  refine z_iload3 776 dL_law_775 rfl ?_
  refine z_iconst 777 dL_law_776 rfl ?_
  refine z_iadd 778 dL_law_777 rfl ?_
  refine z_sldN 779 ((i + 1)) dL_law_778 (by omega) (by omega) rfl ?_
  refine z_pV1 782 dL_law_779 (zVL_n lk_L_law_101) (op_X6_weight hc (hj (i + 1))) rfl (Nat.le_of_ble_eq_true rfl) (Nat.le_of_ble_eq_true rfl) (by assumption) rfl rfl (fun r0 sh0 I0 L0 R0 hpq => ?_)
  obtain ⟨rfl, rfl, ⟨P1, hc1⟩, hI1⟩ := hpq
  have hm1 := mCA_hi hm hI1
  refine z_aload2 783 dL_law_782 rfl ?_
  refine z_aloadS0 784 dL_law_783 rfl ?_
  refine z_iload3 785 dL_law_784 rfl ?_
  refine z_iconst 786 dL_law_785 rfl ?_
  refine z_iadd 787 dL_law_786 rfl ?_
  refine z_sldN 788 ((i + 1)) dL_law_787 (by omega) (by omega) rfl ?_
  refine z_pV1 791 dL_law_788 (zVL_n lk_L_law_104) (op_X7_weight hm1 hw.1.1 (hj (i + 1))) rfl (Nat.le_of_ble_eq_true rfl) (Nat.le_of_ble_eq_true rfl) (by assumption) rfl rfl (fun r0 sh0 I0 L0 R0 hpq => ?_)
  obtain ⟨rfl, rfl, rfl, hm2, hI2⟩ := hpq
  have hc2 := zCA_lo hc1 hI2
  exact z_icmpS 1274 dL_law_791 (by decide) (kk _ _ _ _ ⟨⟨_, hc2⟩, hm2, hw⟩)
theorem law_796 {i : Nat} (hX : i + 8 ≤ X.1 ∧ X.1 ≤ 4096) (hj : ∀ j, -2147483648 ≤ X.2 j ∧ X.2 j ≤ 2147483647) (h : zLI sh I L R A) (kk : ∀ (A' : zA) (I' L' : zI2) (R' : zR2), zLI sh I' L' R' A' → zE X (mLn nm) 0 0 1274 [zS, zR 0, zR 157, zI (i : Int)] [] sh I' L' R' Q) : zE X (mLn nm) 0 0 796 [zS, zR 0, zR 157, zI (i : Int)] [] sh I L R Q := by
  have hf := zLI_f h
  obtain ⟨⟨P, hc⟩, hm, hw⟩ := h
  have c0 := hc.1.1.1
  have s0 := hm.1.1.1
  refine z_aload1 797 dL_law_796 rfl ?_
  refine z_aloadS0 798 dL_law_797 rfl ?_
  refine z_iload3 799 dL_law_798 rfl ?_
  refine z_iconst 800 dL_law_799 rfl ?_
  refine z_iadd 801 dL_law_800 rfl ?_
  refine z_sldN 802 ((i + 1)) dL_law_801 (by omega) (by omega) rfl ?_
  refine z_pV1 805 dL_law_802 (zVL_n lk_L_law_105) (op_X6_bump hc (hj (i + 1))) rfl (Nat.le_of_ble_eq_true rfl) (Nat.le_of_ble_eq_true rfl) (by assumption) rfl rfl (fun r0 sh0 I0 L0 R0 hpq => ?_)
  obtain ⟨rfl, rfl, ⟨P1, hc1⟩, hI1⟩ := hpq
  have hm1 := mCA_hi hm hI1
  refine z_aload2 806 dL_law_805 rfl ?_
  refine z_aloadS0 807 dL_law_806 rfl ?_
  refine z_iload3 808 dL_law_807 rfl ?_
  refine z_iconst 809 dL_law_808 rfl ?_
  refine z_iadd 810 dL_law_809 rfl ?_
  refine z_sldN 811 ((i + 1)) dL_law_810 (by omega) (by omega) rfl ?_
  refine z_pV1 814 dL_law_811 (zVL_n lk_L_law_108) (op_X7_bump hm1 hw.1.1 (hj (i + 1))) rfl (Nat.le_of_ble_eq_true rfl) (Nat.le_of_ble_eq_true rfl) (by assumption) rfl rfl (fun r0 sh0 I0 L0 R0 hpq => ?_)
  obtain ⟨rfl, rfl, rfl, hm2, hI2⟩ := hpq
  have hc2 := zCA_lo hc1 hI2
  exact z_icmpS 1274 dL_law_814 (by decide) (kk _ _ _ _ ⟨⟨_, hc2⟩, hm2, hw⟩)
theorem law_819 {i : Nat} (hX : i + 8 ≤ X.1 ∧ X.1 ≤ 4096) (hj : ∀ j, -2147483648 ≤ X.2 j ∧ X.2 j ≤ 2147483647) (h : zLI sh I L R A) (kk : ∀ (A' : zA) (I' L' : zI2) (R' : zR2), zLI sh I' L' R' A' → zE X (mLn nm) 0 0 1274 [zS, zR 0, zR 157, zI (i : Int)] [] sh I' L' R' Q) : zE X (mLn nm) 0 0 819 [zS, zR 0, zR 157, zI (i : Int)] [] sh I L R Q := by
  have hf := zLI_f h
  obtain ⟨⟨P, hc⟩, hm, hw⟩ := h
  have c0 := hc.1.1.1
  have s0 := hm.1.1.1
  refine z_aload1 820 dL_law_819 rfl ?_
  refine z_aloadS0 821 dL_law_820 rfl ?_
  refine z_iload3 822 dL_law_821 rfl ?_
  refine z_iconst 823 dL_law_822 rfl ?_
  refine z_iadd 824 dL_law_823 rfl ?_
  refine z_sldN 825 ((i + 1)) dL_law_824 (by omega) (by omega) rfl ?_
  refine z_pV1 828 dL_law_825 (zVL_n lk_L_law_109) (op_X6_order hc (hj (i + 1))) rfl (Nat.le_of_ble_eq_true rfl) (Nat.le_of_ble_eq_true rfl) (by assumption) rfl rfl (fun r0 sh0 I0 L0 R0 hpq => ?_)
  obtain ⟨rfl, rfl, ⟨P1, hc1⟩, hI1⟩ := hpq
  have hm1 := mCA_hi hm hI1
  refine z_aload2 829 dL_law_828 rfl ?_
  refine z_aloadS0 830 dL_law_829 rfl ?_
  refine z_iload3 831 dL_law_830 rfl ?_
  refine z_iconst 832 dL_law_831 rfl ?_
  refine z_iadd 833 dL_law_832 rfl ?_
  refine z_sldN 834 ((i + 1)) dL_law_833 (by omega) (by omega) rfl ?_
  refine z_pV1 837 dL_law_834 (zVL_n lk_L_law_112) (op_X7_order hm1 hw.1.1 (hj (i + 1))) rfl (Nat.le_of_ble_eq_true rfl) (Nat.le_of_ble_eq_true rfl) (by assumption) rfl rfl (fun r0 sh0 I0 L0 R0 hpq => ?_)
  obtain ⟨rfl, rfl, rfl, hm2, hI2⟩ := hpq
  have hc2 := zCA_lo hc1 hI2
  exact z_icmpS 1274 dL_law_837 (by decide) (kk _ _ _ _ ⟨⟨_, hc2⟩, hm2, hw⟩)
theorem law_842 {i : Nat} (hX : i + 8 ≤ X.1 ∧ X.1 ≤ 4096) (hj : ∀ j, -2147483648 ≤ X.2 j ∧ X.2 j ≤ 2147483647) (h : zLI sh I L R A) (kk : ∀ (A' : zA) (I' L' : zI2) (R' : zR2), zLI sh I' L' R' A' → zE X (mLn nm) 0 0 1274 [zS, zR 0, zR 157, zI (i : Int)] [] sh I' L' R' Q) : zE X (mLn nm) 0 0 842 [zS, zR 0, zR 157, zI (i : Int)] [] sh I L R Q := by
  have hf := zLI_f h
  obtain ⟨⟨P, hc⟩, hm, hw⟩ := h
  have c0 := hc.1.1.1
  have s0 := hm.1.1.1
  refine z_aload1 843 dL_law_842 rfl ?_
  refine z_aloadS0 844 dL_law_843 rfl ?_
  refine z_iload3 845 dL_law_844 rfl ?_
  refine z_iconst 846 dL_law_845 rfl ?_
  refine z_iadd 847 dL_law_846 rfl ?_
  refine z_sldN 848 ((i + 1)) dL_law_847 (by omega) (by omega) rfl ?_
  refine z_aloadS0 849 dL_law_848 rfl ?_
  refine z_iload3 850 dL_law_849 rfl ?_
  refine z_iconst 851 dL_law_850 rfl ?_
  refine z_iadd 852 dL_law_851 rfl ?_
  refine z_sldN 853 ((i + 2)) dL_law_852 (by omega) (by omega) rfl ?_
  refine z_aloadS0 854 dL_law_853 rfl ?_
  refine z_iload3 855 dL_law_854 rfl ?_
  refine z_iconst 856 dL_law_855 rfl ?_
  refine z_iadd 857 dL_law_856 rfl ?_
  refine z_sldN 858 ((i + 3)) dL_law_857 (by omega) (by omega) rfl ?_
  refine z_pV3 861 dL_law_858 (zVL_n lk_L_law_113) (op_X6_rain hc (hj (i + 1)) (hj (i + 2)) (hj (i + 3))) rfl (Nat.le_of_ble_eq_true rfl) (Nat.le_of_ble_eq_true rfl) (by assumption) rfl rfl (fun r0 sh0 I0 L0 R0 hpq => ?_)
  obtain ⟨rfl, rfl, ⟨P1, hc1⟩, hI1⟩ := hpq
  have hm1 := mCA_hi hm hI1
  refine z_aload2 862 dL_law_861 rfl ?_
  refine z_aloadS0 863 dL_law_862 rfl ?_
  refine z_iload3 864 dL_law_863 rfl ?_
  refine z_iconst 865 dL_law_864 rfl ?_
  refine z_iadd 866 dL_law_865 rfl ?_
  refine z_sldN 867 ((i + 1)) dL_law_866 (by omega) (by omega) rfl ?_
  refine z_aloadS0 868 dL_law_867 rfl ?_
  refine z_iload3 869 dL_law_868 rfl ?_
  refine z_iconst 870 dL_law_869 rfl ?_
  refine z_iadd 871 dL_law_870 rfl ?_
  refine z_sldN 872 ((i + 2)) dL_law_871 (by omega) (by omega) rfl ?_
  refine z_aloadS0 873 dL_law_872 rfl ?_
  refine z_iload3 874 dL_law_873 rfl ?_
  refine z_iconst 875 dL_law_874 rfl ?_
  refine z_iadd 876 dL_law_875 rfl ?_
  refine z_sldN 877 ((i + 3)) dL_law_876 (by omega) (by omega) rfl ?_
  refine z_pV3 880 dL_law_877 (zVL_n lk_L_law_117) (op_X7_rain hm1 hw.1.1 (hj (i + 1)) (hj (i + 2)) (hj (i + 3))) rfl (Nat.le_of_ble_eq_true rfl) (Nat.le_of_ble_eq_true rfl) (by assumption) rfl rfl (fun r0 sh0 I0 L0 R0 hpq => ?_)
  obtain ⟨rfl, rfl, rfl, hm2, hI2⟩ := hpq
  have hc2 := zCA_lo hc1 hI2
  refine z_lcmpS 881 dL_law_880 rfl ?_
  exact z_if_eq 1274 884 dL_law_881 (by decide) rfl (by decide) (fun _ => kk _ _ _ _ ⟨⟨_, hc2⟩, hm2, hw⟩) (fun hz => absurd rfl hz)
theorem law_886 {i : Nat} (hX : i + 8 ≤ X.1 ∧ X.1 ≤ 4096) (hj : ∀ j, -2147483648 ≤ X.2 j ∧ X.2 j ≤ 2147483647) (h : zLI sh I L R A) (kk : ∀ (A' : zA) (I' L' : zI2) (R' : zR2), zLI sh I' L' R' A' → zE X (mLn nm) 0 0 1274 [zS, zR 0, zR 157, zI (i : Int)] [] sh I' L' R' Q) : zE X (mLn nm) 0 0 886 [zS, zR 0, zR 157, zI (i : Int)] [] sh I L R Q := by
  have hf := zLI_f h
  obtain ⟨⟨P, hc⟩, hm, hw⟩ := h
  have c0 := hc.1.1.1
  have s0 := hm.1.1.1
  refine z_aload1 887 dL_law_886 rfl ?_
  refine z_pV0 890 dL_law_887 (zVL_n lk_L_law_118) (op_X6_image hc) rfl (Nat.le_of_ble_eq_true rfl) (Nat.le_of_ble_eq_true rfl) (by assumption) rfl rfl (fun r0 sh0 I0 L0 R0 hpq => ?_)
  obtain ⟨rfl, rfl, ⟨P1, hc1⟩, hI1⟩ := hpq
  have hm1 := mCA_hi hm hI1
  refine z_aload2 891 dL_law_890 rfl ?_
  refine z_pV0 894 dL_law_891 (zVL_n lk_L_law_121) (op_X7_image hm1) rfl (Nat.le_of_ble_eq_true rfl) (Nat.le_of_ble_eq_true rfl) (by assumption) rfl rfl (fun r0 sh0 I0 L0 R0 hpq => ?_)
  obtain ⟨rfl, rfl, rfl, hm2, hI2⟩ := hpq
  have hc2 := zCA_lo hc1 hI2
  exact z_icmpS 1274 dL_law_894 (by decide) (kk _ _ _ _ ⟨⟨_, hc2⟩, hm2, zW_image hw⟩)
theorem law_899 {i : Nat} (hX : i + 8 ≤ X.1 ∧ X.1 ≤ 4096) (hj : ∀ j, -2147483648 ≤ X.2 j ∧ X.2 j ≤ 2147483647) (h : zLI sh I L R A) (kk : ∀ (A' : zA) (I' L' : zI2) (R' : zR2), zLI sh I' L' R' A' → zE X (mLn nm) 0 0 1274 [zS, zR 0, zR 157, zI (i : Int)] [] sh I' L' R' Q) : zE X (mLn nm) 0 0 899 [zS, zR 0, zR 157, zI (i : Int)] [] sh I L R Q := by
  have hf := zLI_f h
  obtain ⟨⟨P, hc⟩, hm, hw⟩ := h
  have c0 := hc.1.1.1
  have s0 := hm.1.1.1
  refine z_aload1 900 dL_law_899 rfl ?_
  refine z_pV0 903 dL_law_900 (zVL_n lk_L_law_122) (op_X6_restore hc) rfl (Nat.le_of_ble_eq_true rfl) (Nat.le_of_ble_eq_true rfl) (by assumption) rfl rfl (fun r0 sh0 I0 L0 R0 hpq => ?_)
  obtain ⟨rfl, rfl, ⟨P1, hc1⟩, hI1⟩ := hpq
  have hm1 := mCA_hi hm hI1
  refine z_aload2 904 dL_law_903 rfl ?_
  refine z_pV0 907 dL_law_904 (zVL_n lk_L_law_125) (op_X7_restore hm1) rfl (Nat.le_of_ble_eq_true rfl) (Nat.le_of_ble_eq_true rfl) (by assumption) rfl rfl (fun r0 sh0 I0 L0 R0 hpq => ?_)
  obtain ⟨rfl, rfl, rfl, hm2, hI2⟩ := hpq
  have hc2 := zCA_lo hc1 hI2
  exact z_icmpS 1274 dL_law_907 (by decide) (kk _ _ _ _ ⟨⟨_, hc2⟩, hm2, zW_restore hw⟩)
theorem law_912 {i : Nat} (hX : i + 8 ≤ X.1 ∧ X.1 ≤ 4096) (hj : ∀ j, -2147483648 ≤ X.2 j ∧ X.2 j ≤ 2147483647) (h : zLI sh I L R A) (kk : ∀ (A' : zA) (I' L' : zI2) (R' : zR2), zLI sh I' L' R' A' → zE X (mLn nm) 0 0 1274 [zS, zR 0, zR 157, zI (i : Int)] [] sh I' L' R' Q) : zE X (mLn nm) 0 0 912 [zS, zR 0, zR 157, zI (i : Int)] [] sh I L R Q := by
  have hf := zLI_f h
  obtain ⟨⟨P, hc⟩, hm, hw⟩ := h
  have c0 := hc.1.1.1
  have s0 := hm.1.1.1
  refine z_aload1 913 dL_law_912 rfl ?_
  refine z_aloadS0 914 dL_law_913 rfl ?_
  refine z_iload3 915 dL_law_914 rfl ?_
  refine z_iconst 916 dL_law_915 rfl ?_
  refine z_iadd 917 dL_law_916 rfl ?_
  refine z_sldN 918 ((i + 1)) dL_law_917 (by omega) (by omega) rfl ?_
  refine z_aloadS0 919 dL_law_918 rfl ?_
  refine z_iload3 920 dL_law_919 rfl ?_
  refine z_iconst 921 dL_law_920 rfl ?_
  refine z_iadd 922 dL_law_921 rfl ?_
  refine z_sldN 923 ((i + 2)) dL_law_922 (by omega) (by omega) rfl ?_
  refine z_aloadS0 924 dL_law_923 rfl ?_
  refine z_iload3 925 dL_law_924 rfl ?_
  refine z_iconst 926 dL_law_925 rfl ?_
  refine z_iadd 927 dL_law_926 rfl ?_
  refine z_sldN 928 ((i + 3)) dL_law_927 (by omega) (by omega) rfl ?_
  refine z_aloadS0 929 dL_law_928 rfl ?_
  refine z_iload3 930 dL_law_929 rfl ?_
  refine z_iconst 931 dL_law_930 rfl ?_
  refine z_iadd 932 dL_law_931 rfl ?_
  refine z_sldN 933 ((i + 4)) dL_law_932 (by omega) (by omega) rfl ?_
  refine z_aloadS0 934 dL_law_933 rfl ?_
  refine z_iload3 935 dL_law_934 rfl ?_
  refine z_iconst 936 dL_law_935 rfl ?_
  refine z_iadd 937 dL_law_936 rfl ?_
  refine z_sldN 938 ((i + 5)) dL_law_937 (by omega) (by omega) rfl ?_
  refine z_aloadS0 939 dL_law_938 rfl ?_
  refine z_iload3 940 dL_law_939 rfl ?_
  refine z_bipush 942 dL_law_940 (by decide) rfl ?_
  refine z_iadd 943 dL_law_942 rfl ?_
  refine z_sldN 944 ((i + 6)) dL_law_943 (by omega) (by omega) rfl ?_
  refine z_aloadS0 945 dL_law_944 rfl ?_
  refine z_iload3 946 dL_law_945 rfl ?_
  refine z_bipush 948 dL_law_946 (by decide) rfl ?_
  refine z_iadd 949 dL_law_948 rfl ?_
  refine z_sldN 950 ((i + 7)) dL_law_949 (by omega) (by omega) rfl ?_
  refine z_pV7 953 dL_law_950 (zVL_n lk_L_law_126) (op_X6_clocked hc (hj (i + 1)) (hj (i + 2)) (hj (i + 3)) (hj (i + 4)) (hj (i + 5)) (hj (i + 6)) (hj (i + 7))) rfl (Nat.le_of_ble_eq_true rfl) (Nat.le_of_ble_eq_true rfl) (by assumption) rfl rfl (fun r0 sh0 I0 L0 R0 hpq => ?_)
  obtain ⟨rfl, rfl, ⟨P1, hc1⟩, hI1⟩ := hpq
  have hm1 := mCA_hi hm hI1
  refine z_aload2 954 dL_law_953 rfl ?_
  refine z_aloadS0 955 dL_law_954 rfl ?_
  refine z_iload3 956 dL_law_955 rfl ?_
  refine z_iconst 957 dL_law_956 rfl ?_
  refine z_iadd 958 dL_law_957 rfl ?_
  refine z_sldN 959 ((i + 1)) dL_law_958 (by omega) (by omega) rfl ?_
  refine z_aloadS0 960 dL_law_959 rfl ?_
  refine z_iload3 961 dL_law_960 rfl ?_
  refine z_iconst 962 dL_law_961 rfl ?_
  refine z_iadd 963 dL_law_962 rfl ?_
  refine z_sldN 964 ((i + 2)) dL_law_963 (by omega) (by omega) rfl ?_
  refine z_aloadS0 965 dL_law_964 rfl ?_
  refine z_iload3 966 dL_law_965 rfl ?_
  refine z_iconst 967 dL_law_966 rfl ?_
  refine z_iadd 968 dL_law_967 rfl ?_
  refine z_sldN 969 ((i + 3)) dL_law_968 (by omega) (by omega) rfl ?_
  refine z_aloadS0 970 dL_law_969 rfl ?_
  refine z_iload3 971 dL_law_970 rfl ?_
  refine z_iconst 972 dL_law_971 rfl ?_
  refine z_iadd 973 dL_law_972 rfl ?_
  refine z_sldN 974 ((i + 4)) dL_law_973 (by omega) (by omega) rfl ?_
  refine z_aloadS0 975 dL_law_974 rfl ?_
  refine z_iload3 976 dL_law_975 rfl ?_
  refine z_iconst 977 dL_law_976 rfl ?_
  refine z_iadd 978 dL_law_977 rfl ?_
  refine z_sldN 979 ((i + 5)) dL_law_978 (by omega) (by omega) rfl ?_
  refine z_aloadS0 980 dL_law_979 rfl ?_
  refine z_iload3 981 dL_law_980 rfl ?_
  refine z_bipush 983 dL_law_981 (by decide) rfl ?_
  refine z_iadd 984 dL_law_983 rfl ?_
  refine z_sldN 985 ((i + 6)) dL_law_984 (by omega) (by omega) rfl ?_
  refine z_aloadS0 986 dL_law_985 rfl ?_
  refine z_iload3 987 dL_law_986 rfl ?_
  refine z_bipush 989 dL_law_987 (by decide) rfl ?_
  refine z_iadd 990 dL_law_989 rfl ?_
  refine z_sldN 991 ((i + 7)) dL_law_990 (by omega) (by omega) rfl ?_
  refine z_pV7 994 dL_law_991 (zVL_n lk_L_law_130) (op_X7_clocked hm1 hw.1.1 (hj (i + 1)) (hj (i + 2)) (hj (i + 3)) (hj (i + 4)) (hj (i + 5)) (hj (i + 6)) (hj (i + 7)) hf.2.1) rfl (Nat.le_of_ble_eq_true rfl) (Nat.le_of_ble_eq_true rfl) (by assumption) rfl rfl (fun r0 sh0 I0 L0 R0 hpq => ?_)
  obtain ⟨rfl, rfl, rfl, hm2, hI2⟩ := hpq
  have hc2 := zCA_lo hc1 hI2
  exact z_icmpS 1274 dL_law_994 (by decide) (kk _ _ _ _ ⟨⟨_, hc2⟩, hm2, hw⟩)
theorem law_999 {i : Nat} (hX : i + 8 ≤ X.1 ∧ X.1 ≤ 4096) (hj : ∀ j, -2147483648 ≤ X.2 j ∧ X.2 j ≤ 2147483647) (h : zLI sh I L R A) (kk : ∀ (A' : zA) (I' L' : zI2) (R' : zR2), zLI sh I' L' R' A' → zE X (mLn nm) 0 0 1274 [zS, zR 0, zR 157, zI (i : Int)] [] sh I' L' R' Q) : zE X (mLn nm) 0 0 999 [zS, zR 0, zR 157, zI (i : Int)] [] sh I L R Q := by
  have hf := zLI_f h
  obtain ⟨⟨P, hc⟩, hm, hw⟩ := h
  have c0 := hc.1.1.1
  have s0 := hm.1.1.1
  refine z_aload1 1000 dL_law_999 rfl ?_
  refine z_aloadS0 1001 dL_law_1000 rfl ?_
  refine z_iload3 1002 dL_law_1001 rfl ?_
  refine z_iconst 1003 dL_law_1002 rfl ?_
  refine z_iadd 1004 dL_law_1003 rfl ?_
  refine z_sldN 1005 ((i + 1)) dL_law_1004 (by omega) (by omega) rfl ?_
  refine z_aloadS0 1006 dL_law_1005 rfl ?_
  refine z_iload3 1007 dL_law_1006 rfl ?_
  refine z_iconst 1008 dL_law_1007 rfl ?_
  refine z_iadd 1009 dL_law_1008 rfl ?_
  refine z_sldN 1010 ((i + 2)) dL_law_1009 (by omega) (by omega) rfl ?_
  refine z_aloadS0 1011 dL_law_1010 rfl ?_
  refine z_iload3 1012 dL_law_1011 rfl ?_
  refine z_iconst 1013 dL_law_1012 rfl ?_
  refine z_iadd 1014 dL_law_1013 rfl ?_
  refine z_sldN 1015 ((i + 3)) dL_law_1014 (by omega) (by omega) rfl ?_
  refine z_aloadS0 1016 dL_law_1015 rfl ?_
  refine z_iload3 1017 dL_law_1016 rfl ?_
  refine z_iconst 1018 dL_law_1017 rfl ?_
  refine z_iadd 1019 dL_law_1018 rfl ?_
  refine z_sldN 1020 ((i + 4)) dL_law_1019 (by omega) (by omega) rfl ?_
  refine z_aloadS0 1021 dL_law_1020 rfl ?_
  refine z_iload3 1022 dL_law_1021 rfl ?_
  refine z_iconst 1023 dL_law_1022 rfl ?_
  refine z_iadd 1024 dL_law_1023 rfl ?_
  refine z_sldN 1025 ((i + 5)) dL_law_1024 (by omega) (by omega) rfl ?_
  refine z_pV5 1028 dL_law_1025 (zVL_n lk_L_law_131) (op_X6_film hc (hj (i + 1)) (hj (i + 2)) (hj (i + 3)) (hj (i + 4)) (hj (i + 5))) rfl (Nat.le_of_ble_eq_true rfl) (Nat.le_of_ble_eq_true rfl) (by assumption) rfl rfl (fun r0 sh0 I0 L0 R0 hpq => ?_)
  obtain ⟨rfl, rfl, ⟨P1, hc1⟩, hI1⟩ := hpq
  have hm1 := mCA_hi hm hI1
  refine z_aload2 1029 dL_law_1028 rfl ?_
  refine z_aloadS0 1030 dL_law_1029 rfl ?_
  refine z_iload3 1031 dL_law_1030 rfl ?_
  refine z_iconst 1032 dL_law_1031 rfl ?_
  refine z_iadd 1033 dL_law_1032 rfl ?_
  refine z_sldN 1034 ((i + 1)) dL_law_1033 (by omega) (by omega) rfl ?_
  refine z_aloadS0 1035 dL_law_1034 rfl ?_
  refine z_iload3 1036 dL_law_1035 rfl ?_
  refine z_iconst 1037 dL_law_1036 rfl ?_
  refine z_iadd 1038 dL_law_1037 rfl ?_
  refine z_sldN 1039 ((i + 2)) dL_law_1038 (by omega) (by omega) rfl ?_
  refine z_aloadS0 1040 dL_law_1039 rfl ?_
  refine z_iload3 1041 dL_law_1040 rfl ?_
  refine z_iconst 1042 dL_law_1041 rfl ?_
  refine z_iadd 1043 dL_law_1042 rfl ?_
  refine z_sldN 1044 ((i + 3)) dL_law_1043 (by omega) (by omega) rfl ?_
  refine z_aloadS0 1045 dL_law_1044 rfl ?_
  refine z_iload3 1046 dL_law_1045 rfl ?_
  refine z_iconst 1047 dL_law_1046 rfl ?_
  refine z_iadd 1048 dL_law_1047 rfl ?_
  refine z_sldN 1049 ((i + 4)) dL_law_1048 (by omega) (by omega) rfl ?_
  refine z_aloadS0 1050 dL_law_1049 rfl ?_
  refine z_iload3 1051 dL_law_1050 rfl ?_
  refine z_iconst 1052 dL_law_1051 rfl ?_
  refine z_iadd 1053 dL_law_1052 rfl ?_
  refine z_sldN 1054 ((i + 5)) dL_law_1053 (by omega) (by omega) rfl ?_
  refine z_pV5 1057 dL_law_1054 (zVL_n lk_L_law_135) (op_X7_film hm1 hw.1.1 (hj (i + 1)) (hj (i + 2)) (hj (i + 3)) (hj (i + 4)) (hj (i + 5)) hf.2.1) rfl (Nat.le_of_ble_eq_true rfl) (Nat.le_of_ble_eq_true rfl) (by assumption) rfl rfl (fun r0 sh0 I0 L0 R0 hpq => ?_)
  obtain ⟨rfl, rfl, rfl, hm2, hI2⟩ := hpq
  have hc2 := zCA_lo hc1 hI2
  exact z_icmpS 1274 dL_law_1057 (by decide) (kk _ _ _ _ ⟨⟨_, hc2⟩, hm2, zW_film hw _ _ _ _ _⟩)
theorem law_1062 {i : Nat} (hX : i + 8 ≤ X.1 ∧ X.1 ≤ 4096) (hj : ∀ j, -2147483648 ≤ X.2 j ∧ X.2 j ≤ 2147483647) (h : zLI sh I L R A) (kk : ∀ (A' : zA) (I' L' : zI2) (R' : zR2), zLI sh I' L' R' A' → zE X (mLn nm) 0 0 1274 [zS, zR 0, zR 157, zI (i : Int)] [] sh I' L' R' Q) : zE X (mLn nm) 0 0 1062 [zS, zR 0, zR 157, zI (i : Int)] [] sh I L R Q := by
  have hf := zLI_f h
  obtain ⟨⟨P, hc⟩, hm, hw⟩ := h
  have c0 := hc.1.1.1
  have s0 := hm.1.1.1
  refine z_aload1 1063 dL_law_1062 rfl ?_
  refine z_aloadS0 1064 dL_law_1063 rfl ?_
  refine z_iload3 1065 dL_law_1064 rfl ?_
  refine z_iconst 1066 dL_law_1065 rfl ?_
  refine z_iadd 1067 dL_law_1066 rfl ?_
  refine z_sldN 1068 ((i + 1)) dL_law_1067 (by omega) (by omega) rfl ?_
  refine z_aloadS0 1069 dL_law_1068 rfl ?_
  refine z_iload3 1070 dL_law_1069 rfl ?_
  refine z_iconst 1071 dL_law_1070 rfl ?_
  refine z_iadd 1072 dL_law_1071 rfl ?_
  refine z_sldN 1073 ((i + 2)) dL_law_1072 (by omega) (by omega) rfl ?_
  refine z_aloadS0 1074 dL_law_1073 rfl ?_
  refine z_iload3 1075 dL_law_1074 rfl ?_
  refine z_iconst 1076 dL_law_1075 rfl ?_
  refine z_iadd 1077 dL_law_1076 rfl ?_
  refine z_sldN 1078 ((i + 3)) dL_law_1077 (by omega) (by omega) rfl ?_
  refine z_pV3 1081 dL_law_1078 (zVL_n lk_L_law_136) (op_X6_sheet hc (hj (i + 1)) (hj (i + 2)) (hj (i + 3))) rfl (Nat.le_of_ble_eq_true rfl) (Nat.le_of_ble_eq_true rfl) (by assumption) rfl rfl (fun r0 sh0 I0 L0 R0 hpq => ?_)
  obtain ⟨rfl, rfl, ⟨P1, hc1⟩, hI1⟩ := hpq
  have hm1 := mCA_hi hm hI1
  refine z_aload2 1082 dL_law_1081 rfl ?_
  refine z_aloadS0 1083 dL_law_1082 rfl ?_
  refine z_iload3 1084 dL_law_1083 rfl ?_
  refine z_iconst 1085 dL_law_1084 rfl ?_
  refine z_iadd 1086 dL_law_1085 rfl ?_
  refine z_sldN 1087 ((i + 1)) dL_law_1086 (by omega) (by omega) rfl ?_
  refine z_aloadS0 1088 dL_law_1087 rfl ?_
  refine z_iload3 1089 dL_law_1088 rfl ?_
  refine z_iconst 1090 dL_law_1089 rfl ?_
  refine z_iadd 1091 dL_law_1090 rfl ?_
  refine z_sldN 1092 ((i + 2)) dL_law_1091 (by omega) (by omega) rfl ?_
  refine z_aloadS0 1093 dL_law_1092 rfl ?_
  refine z_iload3 1094 dL_law_1093 rfl ?_
  refine z_iconst 1095 dL_law_1094 rfl ?_
  refine z_iadd 1096 dL_law_1095 rfl ?_
  refine z_sldN 1097 ((i + 3)) dL_law_1096 (by omega) (by omega) rfl ?_
  refine z_pV3 1100 dL_law_1097 (zVL_n lk_L_law_139) (op_X7_sheet hm1 (hj (i + 1)) (hj (i + 2)) (hj (i + 3))) rfl (Nat.le_of_ble_eq_true rfl) (Nat.le_of_ble_eq_true rfl) (by assumption) rfl rfl (fun r0 sh0 I0 L0 R0 hpq => ?_)
  obtain ⟨rfl, rfl, rfl, hm2, hI2⟩ := hpq
  have hc2 := zCA_lo hc1 hI2
  exact z_icmpS 1274 dL_law_1100 (by decide) (kk _ _ _ _ ⟨⟨_, hc2⟩, hm2, zW_sheet hw _ _ _⟩)
theorem law_1105 {i : Nat} (hX : i + 8 ≤ X.1 ∧ X.1 ≤ 4096) (hj : ∀ j, -2147483648 ≤ X.2 j ∧ X.2 j ≤ 2147483647) (h : zLI sh I L R A) (kk : ∀ (A' : zA) (I' L' : zI2) (R' : zR2), zLI sh I' L' R' A' → zE X (mLn nm) 0 0 1274 [zS, zR 0, zR 157, zI (i : Int)] [] sh I' L' R' Q) : zE X (mLn nm) 0 0 1105 [zS, zR 0, zR 157, zI (i : Int)] [] sh I L R Q := by
  have hf := zLI_f h
  obtain ⟨⟨P, hc⟩, hm, hw⟩ := h
  have c0 := hc.1.1.1
  have s0 := hm.1.1.1
  refine z_aload1 1106 dL_law_1105 rfl ?_
  refine z_aloadS0 1107 dL_law_1106 rfl ?_
  refine z_iload3 1108 dL_law_1107 rfl ?_
  refine z_iconst 1109 dL_law_1108 rfl ?_
  refine z_iadd 1110 dL_law_1109 rfl ?_
  refine z_sldN 1111 ((i + 1)) dL_law_1110 (by omega) (by omega) rfl ?_
  refine z_pV1 1114 dL_law_1111 (zVL_n lk_L_law_140) (op_X6_drop hc (hj (i + 1))) rfl (Nat.le_of_ble_eq_true rfl) (Nat.le_of_ble_eq_true rfl) (by assumption) rfl rfl (fun r0 sh0 I0 L0 R0 hpq => ?_)
  obtain ⟨rfl, rfl, ⟨P1, hc1⟩, hI1⟩ := hpq
  have hm1 := mCA_hi hm hI1
  refine z_aload2 1115 dL_law_1114 rfl ?_
  refine z_aloadS0 1116 dL_law_1115 rfl ?_
  refine z_iload3 1117 dL_law_1116 rfl ?_
  refine z_iconst 1118 dL_law_1117 rfl ?_
  refine z_iadd 1119 dL_law_1118 rfl ?_
  refine z_sldN 1120 ((i + 1)) dL_law_1119 (by omega) (by omega) rfl ?_
  refine z_pV1 1123 dL_law_1120 (zVL_n lk_L_law_143) (op_X7_drop hm1 (hj (i + 1))) rfl (Nat.le_of_ble_eq_true rfl) (Nat.le_of_ble_eq_true rfl) (by assumption) rfl rfl (fun r0 sh0 I0 L0 R0 hpq => ?_)
  obtain ⟨rfl, rfl, rfl, hm2, hI2⟩ := hpq
  have hc2 := zCA_lo hc1 hI2
  exact z_icmpS 1274 dL_law_1123 (by decide) (kk _ _ _ _ ⟨⟨_, hc2⟩, hm2, zW_drop hw _⟩)
theorem law_1128 {i : Nat} (hX : i + 8 ≤ X.1 ∧ X.1 ≤ 4096) (hj : ∀ j, -2147483648 ≤ X.2 j ∧ X.2 j ≤ 2147483647) (h : zLI sh I L R A) (kk : ∀ (A' : zA) (I' L' : zI2) (R' : zR2), zLI sh I' L' R' A' → zE X (mLn nm) 0 0 1274 [zS, zR 0, zR 157, zI (i : Int)] [] sh I' L' R' Q) : zE X (mLn nm) 0 0 1128 [zS, zR 0, zR 157, zI (i : Int)] [] sh I L R Q := by
  have hf := zLI_f h
  obtain ⟨⟨P, hc⟩, hm, hw⟩ := h
  have c0 := hc.1.1.1
  have s0 := hm.1.1.1
  refine z_aload1 1129 dL_law_1128 rfl ?_
  refine z_aloadS0 1130 dL_law_1129 rfl ?_
  refine z_iload3 1131 dL_law_1130 rfl ?_
  refine z_iconst 1132 dL_law_1131 rfl ?_
  refine z_iadd 1133 dL_law_1132 rfl ?_
  refine z_sldN 1134 ((i + 1)) dL_law_1133 (by omega) (by omega) rfl ?_
  refine z_aloadS0 1135 dL_law_1134 rfl ?_
  refine z_iload3 1136 dL_law_1135 rfl ?_
  refine z_iconst 1137 dL_law_1136 rfl ?_
  refine z_iadd 1138 dL_law_1137 rfl ?_
  refine z_sldN 1139 ((i + 2)) dL_law_1138 (by omega) (by omega) rfl ?_
  refine z_aloadS0 1140 dL_law_1139 rfl ?_
  refine z_iload3 1141 dL_law_1140 rfl ?_
  refine z_iconst 1142 dL_law_1141 rfl ?_
  refine z_iadd 1143 dL_law_1142 rfl ?_
  refine z_sldN 1144 ((i + 3)) dL_law_1143 (by omega) (by omega) rfl ?_
  refine z_aloadS0 1145 dL_law_1144 rfl ?_
  refine z_iload3 1146 dL_law_1145 rfl ?_
  refine z_iconst 1147 dL_law_1146 rfl ?_
  refine z_iadd 1148 dL_law_1147 rfl ?_
  refine z_sldN 1149 ((i + 4)) dL_law_1148 (by omega) (by omega) rfl ?_
  refine z_i2l 1150 dL_law_1149 (by exact hj _) rfl ?_
  refine z_bipush 1152 dL_law_1150 (by decide) rfl ?_
  refine z_lshl 1153 dL_law_1152 rfl ?_
  refine z_aloadS0 1154 dL_law_1153 rfl ?_
  refine z_iload3 1155 dL_law_1154 rfl ?_
  refine z_iconst 1156 dL_law_1155 rfl ?_
  refine z_iadd 1157 dL_law_1156 rfl ?_
  refine z_sldN 1158 ((i + 5)) dL_law_1157 (by omega) (by omega) rfl ?_
  refine z_i2l 1159 dL_law_1158 (by exact hj _) rfl ?_
  refine z_ldc2 1162 dL_law_1159 kl_RL_144 rfl ?_
  refine z_land 1163 dL_law_1162 rfl ?_
  refine z_lor 1164 dL_law_1163 rfl ?_
  refine z_pV4 1167 dL_law_1164 (zVL_n lk_L_law_146) (op_X6_item hc (hj (i + 1)) (hj (i + 2)) (hj (i + 3)) (zorL_r _ _)) rfl (Nat.le_of_ble_eq_true rfl) (Nat.le_of_ble_eq_true rfl) (by assumption) rfl rfl (fun r0 sh0 I0 L0 R0 hpq => ?_)
  obtain ⟨rfl, rfl, ⟨P1, hc1⟩, hI1⟩ := hpq
  have hm1 := mCA_hi hm hI1
  refine z_aload2 1168 dL_law_1167 rfl ?_
  refine z_aloadS0 1169 dL_law_1168 rfl ?_
  refine z_iload3 1170 dL_law_1169 rfl ?_
  refine z_iconst 1171 dL_law_1170 rfl ?_
  refine z_iadd 1172 dL_law_1171 rfl ?_
  refine z_sldN 1173 ((i + 1)) dL_law_1172 (by omega) (by omega) rfl ?_
  refine z_aloadS0 1174 dL_law_1173 rfl ?_
  refine z_iload3 1175 dL_law_1174 rfl ?_
  refine z_iconst 1176 dL_law_1175 rfl ?_
  refine z_iadd 1177 dL_law_1176 rfl ?_
  refine z_sldN 1178 ((i + 2)) dL_law_1177 (by omega) (by omega) rfl ?_
  refine z_aloadS0 1179 dL_law_1178 rfl ?_
  refine z_iload3 1180 dL_law_1179 rfl ?_
  refine z_iconst 1181 dL_law_1180 rfl ?_
  refine z_iadd 1182 dL_law_1181 rfl ?_
  refine z_sldN 1183 ((i + 3)) dL_law_1182 (by omega) (by omega) rfl ?_
  refine z_aloadS0 1184 dL_law_1183 rfl ?_
  refine z_iload3 1185 dL_law_1184 rfl ?_
  refine z_iconst 1186 dL_law_1185 rfl ?_
  refine z_iadd 1187 dL_law_1186 rfl ?_
  refine z_sldN 1188 ((i + 4)) dL_law_1187 (by omega) (by omega) rfl ?_
  refine z_i2l 1189 dL_law_1188 (by exact hj _) rfl ?_
  refine z_bipush 1191 dL_law_1189 (by decide) rfl ?_
  refine z_lshl 1192 dL_law_1191 rfl ?_
  refine z_aloadS0 1193 dL_law_1192 rfl ?_
  refine z_iload3 1194 dL_law_1193 rfl ?_
  refine z_iconst 1195 dL_law_1194 rfl ?_
  refine z_iadd 1196 dL_law_1195 rfl ?_
  refine z_sldN 1197 ((i + 5)) dL_law_1196 (by omega) (by omega) rfl ?_
  refine z_i2l 1198 dL_law_1197 (by exact hj _) rfl ?_
  refine z_ldc2 1201 dL_law_1198 kl_RL_144 rfl ?_
  refine z_land 1202 dL_law_1201 rfl ?_
  refine z_lor 1203 dL_law_1202 rfl ?_
  refine z_pV4 1206 dL_law_1203 (zVL_n lk_L_law_150) (op_X7_item hm1 (hj (i + 1)) (hj (i + 2)) (hj (i + 3)) (zorL_r _ _) hf.2.1) rfl (Nat.le_of_ble_eq_true rfl) (Nat.le_of_ble_eq_true rfl) (by assumption) rfl rfl (fun r0 sh0 I0 L0 R0 hpq => ?_)
  obtain ⟨rfl, rfl, rfl, hm2, hI2⟩ := hpq
  have hc2 := zCA_lo hc1 hI2
  exact z_icmpS 1274 dL_law_1206 (by decide) (kk _ _ _ _ ⟨⟨_, hc2⟩, hm2, zW_item hw _ _ _ _⟩)
theorem law_1211 {i : Nat} (hX : i + 8 ≤ X.1 ∧ X.1 ≤ 4096) (hj : ∀ j, -2147483648 ≤ X.2 j ∧ X.2 j ≤ 2147483647) (h : zLI sh I L R A) (kk : ∀ (A' : zA) (I' L' : zI2) (R' : zR2), zLI sh I' L' R' A' → zE X (mLn nm) 0 0 1274 [zS, zR 0, zR 157, zI (i : Int)] [] sh I' L' R' Q) : zE X (mLn nm) 0 0 1211 [zS, zR 0, zR 157, zI (i : Int)] [] sh I L R Q := by
  have hf := zLI_f h
  obtain ⟨⟨P, hc⟩, hm, hw⟩ := h
  have c0 := hc.1.1.1
  have s0 := hm.1.1.1
  refine z_aload1 1212 dL_law_1211 rfl ?_
  refine z_aloadS0 1213 dL_law_1212 rfl ?_
  refine z_iload3 1214 dL_law_1213 rfl ?_
  refine z_iconst 1215 dL_law_1214 rfl ?_
  refine z_iadd 1216 dL_law_1215 rfl ?_
  refine z_sldN 1217 ((i + 1)) dL_law_1216 (by omega) (by omega) rfl ?_
  refine z_aloadS0 1218 dL_law_1217 rfl ?_
  refine z_iload3 1219 dL_law_1218 rfl ?_
  refine z_iconst 1220 dL_law_1219 rfl ?_
  refine z_iadd 1221 dL_law_1220 rfl ?_
  refine z_sldN 1222 ((i + 2)) dL_law_1221 (by omega) (by omega) rfl ?_
  refine z_aloadS0 1223 dL_law_1222 rfl ?_
  refine z_iload3 1224 dL_law_1223 rfl ?_
  refine z_iconst 1225 dL_law_1224 rfl ?_
  refine z_iadd 1226 dL_law_1225 rfl ?_
  refine z_sldN 1227 ((i + 3)) dL_law_1226 (by omega) (by omega) rfl ?_
  refine z_aloadS0 1228 dL_law_1227 rfl ?_
  refine z_iload3 1229 dL_law_1228 rfl ?_
  refine z_iconst 1230 dL_law_1229 rfl ?_
  refine z_iadd 1231 dL_law_1230 rfl ?_
  refine z_sldN 1232 ((i + 4)) dL_law_1231 (by omega) (by omega) rfl ?_
  refine z_aloadS0 1233 dL_law_1232 rfl ?_
  refine z_iload3 1234 dL_law_1233 rfl ?_
  refine z_iconst 1235 dL_law_1234 rfl ?_
  refine z_iadd 1236 dL_law_1235 rfl ?_
  refine z_sldN 1237 ((i + 5)) dL_law_1236 (by omega) (by omega) rfl ?_
  refine z_pV5 1240 dL_law_1237 (zVL_n lk_L_law_151) (op_X6_copy hc (hj (i + 1)) (hj (i + 2)) (hj (i + 3)) (hj (i + 4)) (hj (i + 5))) rfl (Nat.le_of_ble_eq_true rfl) (Nat.le_of_ble_eq_true rfl) (by assumption) rfl rfl (fun r0 sh0 I0 L0 R0 hpq => ?_)
  obtain ⟨rfl, rfl, ⟨P1, hc1⟩, hI1⟩ := hpq
  have hm1 := mCA_hi hm hI1
  refine z_aload2 1241 dL_law_1240 rfl ?_
  refine z_aloadS0 1242 dL_law_1241 rfl ?_
  refine z_iload3 1243 dL_law_1242 rfl ?_
  refine z_iconst 1244 dL_law_1243 rfl ?_
  refine z_iadd 1245 dL_law_1244 rfl ?_
  refine z_sldN 1246 ((i + 1)) dL_law_1245 (by omega) (by omega) rfl ?_
  refine z_aloadS0 1247 dL_law_1246 rfl ?_
  refine z_iload3 1248 dL_law_1247 rfl ?_
  refine z_iconst 1249 dL_law_1248 rfl ?_
  refine z_iadd 1250 dL_law_1249 rfl ?_
  refine z_sldN 1251 ((i + 2)) dL_law_1250 (by omega) (by omega) rfl ?_
  refine z_aloadS0 1252 dL_law_1251 rfl ?_
  refine z_iload3 1253 dL_law_1252 rfl ?_
  refine z_iconst 1254 dL_law_1253 rfl ?_
  refine z_iadd 1255 dL_law_1254 rfl ?_
  refine z_sldN 1256 ((i + 3)) dL_law_1255 (by omega) (by omega) rfl ?_
  refine z_aloadS0 1257 dL_law_1256 rfl ?_
  refine z_iload3 1258 dL_law_1257 rfl ?_
  refine z_iconst 1259 dL_law_1258 rfl ?_
  refine z_iadd 1260 dL_law_1259 rfl ?_
  refine z_sldN 1261 ((i + 4)) dL_law_1260 (by omega) (by omega) rfl ?_
  refine z_aloadS0 1262 dL_law_1261 rfl ?_
  refine z_iload3 1263 dL_law_1262 rfl ?_
  refine z_iconst 1264 dL_law_1263 rfl ?_
  refine z_iadd 1265 dL_law_1264 rfl ?_
  refine z_sldN 1266 ((i + 5)) dL_law_1265 (by omega) (by omega) rfl ?_
  refine z_pV5 1269 dL_law_1266 (zVL_n lk_L_law_154) (op_X7_copy hm1 (hj (i + 1)) (hj (i + 2)) (hj (i + 3)) (hj (i + 4)) (hj (i + 5)) hf.2.1) rfl (Nat.le_of_ble_eq_true rfl) (Nat.le_of_ble_eq_true rfl) (by assumption) rfl rfl (fun r0 sh0 I0 L0 R0 hpq => ?_)
  obtain ⟨rfl, rfl, rfl, hm2, hI2⟩ := hpq
  have hc2 := zCA_lo hc1 hI2
  exact z_icmpS 1274 dL_law_1269 (by decide) (kk _ _ _ _ ⟨⟨_, hc2⟩, hm2, zW_copy hw _ _ _ _ _⟩)
theorem law_sw {i : Nat} {x : Int} (hx : 0 ≤ x ∧ x ≤ 63) (hX : i + 8 ≤ X.1 ∧ X.1 ≤ 4096) (hj : ∀ j, -2147483648 ≤ X.2 j ∧ X.2 j ≤ 2147483647) (h : zLI sh I L R A) (kk : ∀ (A' : zA) (I' L' : zI2) (R' : zR2), zLI sh I' L' R' A' → zE X (mLn nm) 0 0 1274 [zS, zR 0, zR 157, zI (i : Int)] [] sh I' L' R' Q) : zE X (mLn nm) 0 0 33 [zS, zR 0, zR 157, zI (i : Int)] [zI x] sh I L R Q := by
  by_cases h33 : 33 ≤ x
  · exact z_swOut 1274 dL_law_33 (by omega) (by omega) (by decide) (kk _ _ _ _ h)
  obtain ⟨n, rfl⟩ : ∃ n : Nat, x = (n : Int) := ⟨x.toNat, by omega⟩
  have hn : n < 33 := by omega
  clear h33 hx
  by_cases h0_33 : n < 16
  · by_cases h0_16 : n < 8
    · by_cases h0_8 : n < 4
      · by_cases h0_4 : n < 2
        · by_cases h0_2 : n < 1
          · obtain rfl : n = 0 := by omega
            exact z_swIn 180 (off := 147) dL_law_33 (by decide) (by decide) (by decide) (by decide) (law_180 hX hj h kk)
          · obtain rfl : n = 1 := by omega
            exact z_swIn 223 (off := 190) dL_law_33 (by decide) (by decide) (by decide) (by decide) (law_223 hX hj h kk)
        · by_cases h2_4 : n < 3
          · obtain rfl : n = 2 := by omega
            exact z_swIn 256 (off := 223) dL_law_33 (by decide) (by decide) (by decide) (by decide) (law_256 hX hj h kk)
          · obtain rfl : n = 3 := by omega
            exact z_swIn 289 (off := 256) dL_law_33 (by decide) (by decide) (by decide) (by decide) (law_289 hX hj h kk)
      · by_cases h4_8 : n < 6
        · by_cases h4_6 : n < 5
          · obtain rfl : n = 4 := by omega
            exact z_swIn 322 (off := 289) dL_law_33 (by decide) (by decide) (by decide) (by decide) (law_322 hX hj h kk)
          · obtain rfl : n = 5 := by omega
            exact z_swIn 365 (off := 332) dL_law_33 (by decide) (by decide) (by decide) (by decide) (law_365 hX hj h kk)
        · by_cases h6_8 : n < 7
          · obtain rfl : n = 6 := by omega
            exact z_swIn 388 (off := 355) dL_law_33 (by decide) (by decide) (by decide) (by decide) (law_388 hX hj h kk)
          · obtain rfl : n = 7 := by omega
            exact z_swIn 401 (off := 368) dL_law_33 (by decide) (by decide) (by decide) (by decide) (law_401 hX hj h kk)
    · by_cases h8_16 : n < 12
      · by_cases h8_12 : n < 10
        · by_cases h8_10 : n < 9
          · obtain rfl : n = 8 := by omega
            exact z_swIn 424 (off := 391) dL_law_33 (by decide) (by decide) (by decide) (by decide) (law_424 hX hj h kk)
          · obtain rfl : n = 9 := by omega
            exact z_swIn 447 (off := 414) dL_law_33 (by decide) (by decide) (by decide) (by decide) (law_447 hX hj h kk)
        · by_cases h10_12 : n < 11
          · obtain rfl : n = 10 := by omega
            exact z_swIn 480 (off := 447) dL_law_33 (by decide) (by decide) (by decide) (by decide) (law_480 hX hj h kk)
          · obtain rfl : n = 11 := by omega
            exact z_swIn 513 (off := 480) dL_law_33 (by decide) (by decide) (by decide) (by decide) (law_513 hX hj h kk)
      · by_cases h12_16 : n < 14
        · by_cases h12_14 : n < 13
          · obtain rfl : n = 12 := by omega
            exact z_swIn 536 (off := 503) dL_law_33 (by decide) (by decide) (by decide) (by decide) (law_536 hX hj h kk)
          · obtain rfl : n = 13 := by omega
            exact z_swIn 559 (off := 526) dL_law_33 (by decide) (by decide) (by decide) (by decide) (law_559 hX hj h kk)
        · by_cases h14_16 : n < 15
          · obtain rfl : n = 14 := by omega
            exact z_swIn 572 (off := 539) dL_law_33 (by decide) (by decide) (by decide) (by decide) (law_572 hX hj h kk)
          · obtain rfl : n = 15 := by omega
            exact z_swIn 595 (off := 562) dL_law_33 (by decide) (by decide) (by decide) (by decide) (law_595 hX hj h kk)
  · by_cases h16_33 : n < 24
    · by_cases h16_24 : n < 20
      · by_cases h16_20 : n < 18
        · by_cases h16_18 : n < 17
          · obtain rfl : n = 16 := by omega
            exact z_swIn 628 (off := 595) dL_law_33 (by decide) (by decide) (by decide) (by decide) (law_628 hX hj h kk)
          · obtain rfl : n = 17 := by omega
            exact z_swIn 651 (off := 618) dL_law_33 (by decide) (by decide) (by decide) (by decide) (law_651 hX hj h kk)
        · by_cases h18_20 : n < 19
          · obtain rfl : n = 18 := by omega
            exact z_swIn 684 (off := 651) dL_law_33 (by decide) (by decide) (by decide) (by decide) (law_684 hX hj h kk)
          · obtain rfl : n = 19 := by omega
            exact z_swIn 707 (off := 674) dL_law_33 (by decide) (by decide) (by decide) (by decide) (law_707 hX hj h kk)
      · by_cases h20_24 : n < 22
        · by_cases h20_22 : n < 21
          · obtain rfl : n = 20 := by omega
            exact z_swIn 740 (off := 707) dL_law_33 (by decide) (by decide) (by decide) (by decide) (law_740 hX hj h kk)
          · obtain rfl : n = 21 := by omega
            exact z_swIn 773 (off := 740) dL_law_33 (by decide) (by decide) (by decide) (by decide) (law_773 hX hj h kk)
        · by_cases h22_24 : n < 23
          · obtain rfl : n = 22 := by omega
            exact z_swIn 796 (off := 763) dL_law_33 (by decide) (by decide) (by decide) (by decide) (law_796 hX hj h kk)
          · obtain rfl : n = 23 := by omega
            exact z_swIn 819 (off := 786) dL_law_33 (by decide) (by decide) (by decide) (by decide) (law_819 hX hj h kk)
    · by_cases h24_33 : n < 28
      · by_cases h24_28 : n < 26
        · by_cases h24_26 : n < 25
          · obtain rfl : n = 24 := by omega
            exact z_swIn 842 (off := 809) dL_law_33 (by decide) (by decide) (by decide) (by decide) (law_842 hX hj h kk)
          · obtain rfl : n = 25 := by omega
            exact z_swIn 886 (off := 853) dL_law_33 (by decide) (by decide) (by decide) (by decide) (law_886 hX hj h kk)
        · by_cases h26_28 : n < 27
          · obtain rfl : n = 26 := by omega
            exact z_swIn 899 (off := 866) dL_law_33 (by decide) (by decide) (by decide) (by decide) (law_899 hX hj h kk)
          · obtain rfl : n = 27 := by omega
            exact z_swIn 912 (off := 879) dL_law_33 (by decide) (by decide) (by decide) (by decide) (law_912 hX hj h kk)
      · by_cases h28_33 : n < 30
        · by_cases h28_30 : n < 29
          · obtain rfl : n = 28 := by omega
            exact z_swIn 999 (off := 966) dL_law_33 (by decide) (by decide) (by decide) (by decide) (law_999 hX hj h kk)
          · obtain rfl : n = 29 := by omega
            exact z_swIn 1062 (off := 1029) dL_law_33 (by decide) (by decide) (by decide) (by decide) (law_1062 hX hj h kk)
        · by_cases h30_33 : n < 31
          · obtain rfl : n = 30 := by omega
            exact z_swIn 1105 (off := 1072) dL_law_33 (by decide) (by decide) (by decide) (by decide) (law_1105 hX hj h kk)
          · by_cases h31_33 : n < 32
            · obtain rfl : n = 31 := by omega
              exact z_swIn 1128 (off := 1095) dL_law_33 (by decide) (by decide) (by decide) (by decide) (law_1128 hX hj h kk)
            · obtain rfl : n = 32 := by omega
              exact z_swIn 1211 (off := 1178) dL_law_33 (by decide) (by decide) (by decide) (by decide) (law_1211 hX hj h kk)
theorem law_it {i : Nat} (hX : X.1 ≤ 4096) (hi : i ≤ X.1 + 8) (hj : ∀ j, -2147483648 ≤ X.2 j ∧ X.2 j ≤ 2147483647) (h : zLI sh I L R A) (kk : i + 8 ≤ X.1 → ∀ (A' : zA) (I' L' : zI2) (R' : zR2), zLI sh I' L' R' A' → zE X (mLn nm) 0 0 18 [zS, zR 0, zR 157, zI ((i + 8 : Nat) : Int)] [] sh I' L' R' (fun r' _ _ _ _ => r' = [zI 1])) : zE X (mLn nm) 0 0 18 [zS, zR 0, zR 157, zI (i : Int)] [] sh I L R (fun r' _ _ _ _ => r' = [zI 1]) := by
  refine z_iload3 19 dL_law_18 rfl ?_
  refine z_aloadS0 20 dL_law_19 rfl ?_
  refine z_slen 21 dL_law_20 rfl ?_
  refine z_bipush 23 dL_law_21 (by decide) rfl ?_
  refine z_isub 24 dL_law_23 rfl ?_
  refine z_icmp_gt 1280 27 dL_law_24 (by decide) rfl (by omega) (by omega) (fun h24 => ?_) (fun h24 => ?_)
  · refine z_iconst 1281 dL_law_1280 rfl ?_
    exact z_zreturn dL_law_1281 rfl (by omega) (rfl)
  · refine z_aloadS0 28 dL_law_27 rfl ?_
    refine z_iload3 29 dL_law_28 rfl ?_
    refine z_sldN 30 (i) dL_law_29 (by omega) (by omega) rfl ?_
    refine z_bipush 32 dL_law_30 (by decide) rfl ?_
    refine z_iand 33 dL_law_32 rfl ?_
    refine law_sw (zand_63 _) ⟨by omega, hX⟩ hj h (fun A' I' L' R' h' => ?_)
    refine z_iinc3 1277 dL_law_1274 (Nat.le_of_ble_eq_true rfl) rfl rfl ?_
    refine z_goto 18 dL_law_1277 (by decide) ?_
    exact kk (by omega) A' I' L' R' h'
theorem law_loop (hX : X.1 ≤ 4096) (hj : ∀ j, -2147483648 ≤ X.2 j ∧ X.2 j ≤ 2147483647) (m : Nat) : ∀ (i : Nat) {I L : zI2} {R : zR2} {A : zA}, X.1 ≤ i + 8 * m → i ≤ X.1 + 8 → zLI sh I L R A → zE X (mLn nm) 0 0 18 [zS, zR 0, zR 157, zI (i : Int)] [] sh I L R (fun r' _ _ _ _ => r' = [zI 1]) := by
  induction m with
  | zero => exact fun i _ _ _ _ h1 h2 h => law_it hX h2 hj h (fun h3 => absurd h3 (by omega))
  | succ m ih => exact fun i _ _ _ _ h1 h2 h => law_it hX h2 hj h (fun h3 A' I' L' R' h' => ih (i + 8) (by omega) (by omega) h')
end LAW
