/-! the relation goes on; the fresh state keeps it -/
theorem REL.next {n : Nat} {σ : HS} (h : REL n σ) : REL (n + 1) σ := by
  obtain ⟨d, t, u, sd, ρ, k, nx, H, m, tb, G, h⟩ := h
  exact ⟨d, t, u, sd, ρ, k, nx, H, m, tb, G, h.next⟩
theorem s0I_zero {i : Nat} (h : (decide (20 ≤ kd i) && !([41, 42, 54, 55, 252, 266, 267].contains i)) = true) (j : Nat) : s0I i j = 0 := by
  simp only [Bool.and_eq_true, decide_eq_true_eq, Bool.not_eq_true', List.contains_cons, List.contains_nil, Bool.or_false, Bool.or_eq_false_iff, beq_eq_false_iff_ne] at h
  obtain ⟨h1, h2, h3, h4, h5, h6, h7, h8⟩ := h
  unfold s0I
  split
  · omega
  · omega
  · omega
  · omega
  · rw [if_neg (by omega), if_neg (by omega), if_neg (by omega), if_neg (by omega)]
  · rfl
theorem s0_tc : TC 30 dat0 s0 := by
  have a1 : ∀ k, k < 4 → s0.1 42 k = nI (2 * k) := by decide
  have a2 : ∀ k, k < 4 → (dfC k).length = 2 ∧ ∀ i, i < 2 → (s0.1 41 (2 * k + i)).toInt = (dfC k).getD i 0 := by decide +kernel
  refine ⟨⟨by decide, by decide, fun e he => absurd he (by show ¬ e < 0; omega)⟩, ⟨by decide, by decide, fun p hp => absurd hp (by show ¬ p < 0; omega)⟩, ⟨by decide, by decide⟩, 8, by omega, fun k hk => ⟨2 * k, a1 k hk, ?_, ?_⟩⟩
  · show 2 * k + (layL (2 * k) (lawO k none)).length ≤ 8
    rw [dfC_lay, (a2 k hk).1]
    omega
  · show seg _ _ _ (layL (2 * k) (lawO k none))
    rw [dfC_lay]
    intro i hi
    rw [(a2 k hk).1] at hi
    exact (a2 k hk).2 i hi
theorem s0_tm : TM 0 dat0 s0 := ⟨by decide, by decide, ⟨by decide, by decide, fun e he => absurd he (by show ¬ e < 0; omega)⟩, ⟨by decide, by decide, fun p hp => absurd hp (by show ¬ p < 0; omega)⟩, ⟨by decide, by decide⟩, 0, 0, by decide, by decide, fun k hk => ⟨s0I_zero (i := 254) (by decide) (4 * 0 + k), s0I_zero (i := 255) (by decide) (4 * 0 + k)⟩⟩
theorem s0_ar : AR 56 0 (s0I 266) s0 := ⟨by decide, fun e he => absurd he (by omega), fun k h4 h8 => (show ∀ k, k < 9 → 4 ≤ k → s0.1 56 k = s0I 266 (17 + k) by decide) k (by omega) h4, by decide, by decide, by decide⟩
theorem s0_rw : RW dat0 0 (s0I 266) := ⟨fun e he => absurd he (by show ¬ e < 0; omega), by decide, by decide, Or.inl (by decide), by decide, by decide⟩
theorem s0_rel : REL 0 s0 := by
  refine ⟨dat0, 30, 43, 0, s0I 266, 0, 0, fun _ _ => 0, 0, fun _ => 0, fun _ _ => 0, ⟨⟨0, by omega, by decide, by decide, fun i hi => absurd hi (by omega)⟩, ⟨by decide, fun k => ?_⟩, fun k hk => (show s0L 243 k = keyL.getD k 0 by unfold s0L keyL; rw [if_pos rfl]), by decide⟩, ⟨Or.inl rfl, Or.inr rfl, by decide, ⟨rfl, rfl⟩, s0_tc, s0_tm, dat0_ok⟩, ⟨s0_ar, fun i hi => rfl, s0_rw⟩, ⟨by decide, by omega, by decide, by omega, by decide, fun j hj => absurd hj (by omega)⟩, ⟨by decide, by omega, by decide, fun i hi => absurd hi (by omega)⟩, fun s hs => ?_⟩
  · have e : s0.1 3 k = 0 := s0I_zero (i := 3) (by decide) k
    rw [e]; decide
  · have e26 : s0.1 26 s = 0 := s0I_zero (i := 26) (by decide) s
    have e275 : s0.1 275 s = 0 := s0I_zero (i := 275) (by decide) s
    refine ⟨⟨e26.trans e275.symm, Or.inl e275⟩, fun e => ?_⟩
    rw [e275] at e
    exact absurd e (by decide)
def kb_code_0 : List Nat := [187, 0, 7, 89, 183, 0, 9, 76, 187, 0, 10, 89, 183, 0, 12, 77, 3, 62, 29, 42]
theorem ac_code_0 : AL code 0 kb_code_0 := AL.of (m := 20) (by decide +kernel)
theorem dL_law_0 : decode code 0 = .ok (.new 7, 3) := o187 ac_code_0 0 0 7 rfl
theorem dL_law_3 : decode code 3 = .ok (.dup, 1) := o89 ac_code_0 3 rfl
theorem dL_law_4 : decode code 4 = .ok (.invokespecial 9, 3) := o183 ac_code_0 4 0 9 rfl
theorem dL_law_7 : decode code 7 = .ok (.astore_n 1, 1) := o76 ac_code_0 7 rfl
theorem dL_law_8 : decode code 8 = .ok (.new 10, 3) := o187 ac_code_0 8 0 10 rfl
theorem dL_law_11 : decode code 11 = .ok (.dup, 1) := o89 ac_code_0 11 rfl
theorem dL_law_12 : decode code 12 = .ok (.invokespecial 12, 3) := o183 ac_code_0 12 0 12 rfl
theorem dL_law_15 : decode code 15 = .ok (.astore_n 2, 1) := o77 ac_code_0 15 rfl
def kb_code_16 : List Nat := [3, 62, 29, 42, 190, 16, 6, 100, 163, 5, 40, 42, 29, 46, 16, 63, 126, 170, 0, 0]
theorem ac_code_16 : AL code 16 kb_code_16 := AL.of (m := 20) (by decide +kernel)
theorem dL_law_16 : decode code 16 = .ok (.iconst 0, 1) := o3 ac_code_16 0 rfl
theorem dL_law_17 : decode code 17 = .ok (.istore_n 3, 1) := o62 ac_code_16 1 rfl
theorem dL_law_18 : decode code 18 = .ok (.iload_n 3, 1) := o29 ac_code_16 2 rfl
theorem dL_law_19 : decode code 19 = .ok (.aload_n 0, 1) := o42 ac_code_16 3 rfl
theorem dL_law_20 : decode code 20 = .ok (.arraylength, 1) := o190 ac_code_16 4 rfl
theorem dL_law_21 : decode code 21 = .ok (.bipush 6, 2) := o16p ac_code_16 5 6 rfl rfl
theorem dL_law_23 : decode code 23 = .ok (.isub, 1) := o100 ac_code_16 7 rfl
theorem dL_law_24 : decode code 24 = .ok (.if_icmp .gt 1320, 3) := o163p ac_code_16 8 5 40 rfl rfl
theorem dL_law_27 : decode code 27 = .ok (.aload_n 0, 1) := o42 ac_code_16 11 rfl
theorem dL_law_28 : decode code 28 = .ok (.iload_n 3, 1) := o29 ac_code_16 12 rfl
theorem dL_law_29 : decode code 29 = .ok (.iaload, 1) := o46 ac_code_16 13 rfl
theorem dL_law_30 : decode code 30 = .ok (.bipush 63, 2) := o16p ac_code_16 14 63 rfl rfl
def kb_code_32 : List Nat := [126, 170, 0, 0, 0, 0, 5, 25, 0, 0, 0, 0, 0, 0, 0, 41, 0, 0, 0, 183]
theorem ac_code_32 : AL code 32 kb_code_32 := AL.of (m := 20) (by decide +kernel)
theorem dL_law_32 : decode code 32 = .ok (.iand, 1) := o126 ac_code_32 0 rfl
theorem dL_law_33 : decode code 33 = .ok (.tableswitch 1305 0 41 #[183, 246, 269, 282, 295, 328, 361, 404, 437, 460, 483, 506, 519, 552, 565, 588, 601, 634, 677, 710, 733, 756, 779, 802, 815, 838, 871, 894, 907, 930, 983, 1016, 1039, 1052, 1085, 1118, 1167, 1180, 1213, 1236, 1259, 1282], 183) := by decide +kernel
def kb_code_208 : List Nat := [0, 0, 4, 235, 0, 0, 5, 2, 43, 42, 29, 4, 96, 46, 42, 29, 5, 96, 46, 42]
theorem ac_code_208 : AL code 208 kb_code_208 := AL.of (m := 20) (by decide +kernel)
theorem dL_law_216 : decode code 216 = .ok (.aload_n 1, 1) := o43 ac_code_208 8 rfl
theorem dL_law_217 : decode code 217 = .ok (.aload_n 0, 1) := o42 ac_code_208 9 rfl
theorem dL_law_218 : decode code 218 = .ok (.iload_n 3, 1) := o29 ac_code_208 10 rfl
theorem dL_law_219 : decode code 219 = .ok (.iconst 1, 1) := o4 ac_code_208 11 rfl
theorem dL_law_220 : decode code 220 = .ok (.iadd, 1) := o96 ac_code_208 12 rfl
theorem dL_law_221 : decode code 221 = .ok (.iaload, 1) := o46 ac_code_208 13 rfl
theorem dL_law_222 : decode code 222 = .ok (.aload_n 0, 1) := o42 ac_code_208 14 rfl
theorem dL_law_223 : decode code 223 = .ok (.iload_n 3, 1) := o29 ac_code_208 15 rfl
def kb_code_224 : List Nat := [5, 96, 46, 42, 29, 6, 96, 46, 42, 29, 7, 96, 46, 42, 29, 8, 96, 46, 182, 0]
theorem ac_code_224 : AL code 224 kb_code_224 := AL.of (m := 20) (by decide +kernel)
theorem dL_law_224 : decode code 224 = .ok (.iconst 2, 1) := o5 ac_code_224 0 rfl
theorem dL_law_225 : decode code 225 = .ok (.iadd, 1) := o96 ac_code_224 1 rfl
theorem dL_law_226 : decode code 226 = .ok (.iaload, 1) := o46 ac_code_224 2 rfl
theorem dL_law_227 : decode code 227 = .ok (.aload_n 0, 1) := o42 ac_code_224 3 rfl
theorem dL_law_228 : decode code 228 = .ok (.iload_n 3, 1) := o29 ac_code_224 4 rfl
theorem dL_law_229 : decode code 229 = .ok (.iconst 3, 1) := o6 ac_code_224 5 rfl
theorem dL_law_230 : decode code 230 = .ok (.iadd, 1) := o96 ac_code_224 6 rfl
theorem dL_law_231 : decode code 231 = .ok (.iaload, 1) := o46 ac_code_224 7 rfl
theorem dL_law_232 : decode code 232 = .ok (.aload_n 0, 1) := o42 ac_code_224 8 rfl
theorem dL_law_233 : decode code 233 = .ok (.iload_n 3, 1) := o29 ac_code_224 9 rfl
theorem dL_law_234 : decode code 234 = .ok (.iconst 4, 1) := o7 ac_code_224 10 rfl
theorem dL_law_235 : decode code 235 = .ok (.iadd, 1) := o96 ac_code_224 11 rfl
theorem dL_law_236 : decode code 236 = .ok (.iaload, 1) := o46 ac_code_224 12 rfl
theorem dL_law_237 : decode code 237 = .ok (.aload_n 0, 1) := o42 ac_code_224 13 rfl
theorem dL_law_238 : decode code 238 = .ok (.iload_n 3, 1) := o29 ac_code_224 14 rfl
theorem dL_law_239 : decode code 239 = .ok (.iconst 5, 1) := o8 ac_code_224 15 rfl
def kb_code_240 : List Nat := [96, 46, 182, 0, 13, 87, 44, 42, 29, 4, 96, 46, 42, 29, 5, 96, 46, 42, 29, 6]
theorem ac_code_240 : AL code 240 kb_code_240 := AL.of (m := 20) (by decide +kernel)
theorem dL_law_240 : decode code 240 = .ok (.iadd, 1) := o96 ac_code_240 0 rfl
theorem dL_law_241 : decode code 241 = .ok (.iaload, 1) := o46 ac_code_240 1 rfl
theorem dL_law_242 : decode code 242 = .ok (.invokevirtual 13, 3) := o182 ac_code_240 2 0 13 rfl
theorem dL_law_245 : decode code 245 = .ok (.pop, 1) := o87 ac_code_240 5 rfl
theorem dL_law_246 : decode code 246 = .ok (.aload_n 2, 1) := o44 ac_code_240 6 rfl
theorem dL_law_247 : decode code 247 = .ok (.aload_n 0, 1) := o42 ac_code_240 7 rfl
theorem dL_law_248 : decode code 248 = .ok (.iload_n 3, 1) := o29 ac_code_240 8 rfl
theorem dL_law_249 : decode code 249 = .ok (.iconst 1, 1) := o4 ac_code_240 9 rfl
theorem dL_law_250 : decode code 250 = .ok (.iadd, 1) := o96 ac_code_240 10 rfl
theorem dL_law_251 : decode code 251 = .ok (.iaload, 1) := o46 ac_code_240 11 rfl
theorem dL_law_252 : decode code 252 = .ok (.aload_n 0, 1) := o42 ac_code_240 12 rfl
theorem dL_law_253 : decode code 253 = .ok (.iload_n 3, 1) := o29 ac_code_240 13 rfl
theorem dL_law_254 : decode code 254 = .ok (.iconst 2, 1) := o5 ac_code_240 14 rfl
theorem dL_law_255 : decode code 255 = .ok (.iadd, 1) := o96 ac_code_240 15 rfl
def kb_code_256 : List Nat := [46, 42, 29, 6, 96, 46, 42, 29, 7, 96, 46, 42, 29, 8, 96, 46, 182, 0, 17, 87]
theorem ac_code_256 : AL code 256 kb_code_256 := AL.of (m := 20) (by decide +kernel)
theorem dL_law_256 : decode code 256 = .ok (.iaload, 1) := o46 ac_code_256 0 rfl
theorem dL_law_257 : decode code 257 = .ok (.aload_n 0, 1) := o42 ac_code_256 1 rfl
theorem dL_law_258 : decode code 258 = .ok (.iload_n 3, 1) := o29 ac_code_256 2 rfl
theorem dL_law_259 : decode code 259 = .ok (.iconst 3, 1) := o6 ac_code_256 3 rfl
theorem dL_law_260 : decode code 260 = .ok (.iadd, 1) := o96 ac_code_256 4 rfl
theorem dL_law_261 : decode code 261 = .ok (.iaload, 1) := o46 ac_code_256 5 rfl
theorem dL_law_262 : decode code 262 = .ok (.aload_n 0, 1) := o42 ac_code_256 6 rfl
theorem dL_law_263 : decode code 263 = .ok (.iload_n 3, 1) := o29 ac_code_256 7 rfl
theorem dL_law_264 : decode code 264 = .ok (.iconst 4, 1) := o7 ac_code_256 8 rfl
theorem dL_law_265 : decode code 265 = .ok (.iadd, 1) := o96 ac_code_256 9 rfl
theorem dL_law_266 : decode code 266 = .ok (.iaload, 1) := o46 ac_code_256 10 rfl
theorem dL_law_267 : decode code 267 = .ok (.aload_n 0, 1) := o42 ac_code_256 11 rfl
theorem dL_law_268 : decode code 268 = .ok (.iload_n 3, 1) := o29 ac_code_256 12 rfl
theorem dL_law_269 : decode code 269 = .ok (.iconst 5, 1) := o8 ac_code_256 13 rfl
theorem dL_law_270 : decode code 270 = .ok (.iadd, 1) := o96 ac_code_256 14 rfl
theorem dL_law_271 : decode code 271 = .ok (.iaload, 1) := o46 ac_code_256 15 rfl
def kb_code_272 : List Nat := [182, 0, 17, 87, 167, 4, 38, 43, 42, 29, 4, 96, 46, 182, 0, 18, 87, 44, 42, 29]
theorem ac_code_272 : AL code 272 kb_code_272 := AL.of (m := 20) (by decide +kernel)
theorem dL_law_272 : decode code 272 = .ok (.invokevirtual 17, 3) := o182 ac_code_272 0 0 17 rfl
theorem dL_law_275 : decode code 275 = .ok (.pop, 1) := o87 ac_code_272 3 rfl
theorem dL_law_276 : decode code 276 = .ok (.goto 1062, 3) := o167p ac_code_272 4 4 38 rfl rfl
theorem dL_law_279 : decode code 279 = .ok (.aload_n 1, 1) := o43 ac_code_272 7 rfl
theorem dL_law_280 : decode code 280 = .ok (.aload_n 0, 1) := o42 ac_code_272 8 rfl
theorem dL_law_281 : decode code 281 = .ok (.iload_n 3, 1) := o29 ac_code_272 9 rfl
theorem dL_law_282 : decode code 282 = .ok (.iconst 1, 1) := o4 ac_code_272 10 rfl
theorem dL_law_283 : decode code 283 = .ok (.iadd, 1) := o96 ac_code_272 11 rfl
theorem dL_law_284 : decode code 284 = .ok (.iaload, 1) := o46 ac_code_272 12 rfl
theorem dL_law_285 : decode code 285 = .ok (.invokevirtual 18, 3) := o182 ac_code_272 13 0 18 rfl
def kb_code_288 : List Nat := [87, 44, 42, 29, 4, 96, 46, 182, 0, 22, 87, 167, 4, 15, 43, 182, 0, 23, 87, 44]
theorem ac_code_288 : AL code 288 kb_code_288 := AL.of (m := 20) (by decide +kernel)
theorem dL_law_288 : decode code 288 = .ok (.pop, 1) := o87 ac_code_288 0 rfl
theorem dL_law_289 : decode code 289 = .ok (.aload_n 2, 1) := o44 ac_code_288 1 rfl
theorem dL_law_290 : decode code 290 = .ok (.aload_n 0, 1) := o42 ac_code_288 2 rfl
theorem dL_law_291 : decode code 291 = .ok (.iload_n 3, 1) := o29 ac_code_288 3 rfl
theorem dL_law_292 : decode code 292 = .ok (.iconst 1, 1) := o4 ac_code_288 4 rfl
theorem dL_law_293 : decode code 293 = .ok (.iadd, 1) := o96 ac_code_288 5 rfl
theorem dL_law_294 : decode code 294 = .ok (.iaload, 1) := o46 ac_code_288 6 rfl
theorem dL_law_295 : decode code 295 = .ok (.invokevirtual 22, 3) := o182 ac_code_288 7 0 22 rfl
theorem dL_law_298 : decode code 298 = .ok (.pop, 1) := o87 ac_code_288 10 rfl
theorem dL_law_299 : decode code 299 = .ok (.goto 1039, 3) := o167p ac_code_288 11 4 15 rfl rfl
theorem dL_law_302 : decode code 302 = .ok (.aload_n 1, 1) := o43 ac_code_288 14 rfl
theorem dL_law_303 : decode code 303 = .ok (.invokevirtual 23, 3) := o182 ac_code_288 15 0 23 rfl
def kb_code_304 : List Nat := [0, 23, 87, 44, 182, 0, 27, 87, 167, 4, 2, 43, 182, 0, 28, 87, 44, 182, 0, 31]
theorem ac_code_304 : AL code 304 kb_code_304 := AL.of (m := 20) (by decide +kernel)
theorem dL_law_306 : decode code 306 = .ok (.pop, 1) := o87 ac_code_304 2 rfl
theorem dL_law_307 : decode code 307 = .ok (.aload_n 2, 1) := o44 ac_code_304 3 rfl
theorem dL_law_308 : decode code 308 = .ok (.invokevirtual 27, 3) := o182 ac_code_304 4 0 27 rfl
theorem dL_law_311 : decode code 311 = .ok (.pop, 1) := o87 ac_code_304 7 rfl
theorem dL_law_312 : decode code 312 = .ok (.goto 1026, 3) := o167p ac_code_304 8 4 2 rfl rfl
theorem dL_law_315 : decode code 315 = .ok (.aload_n 1, 1) := o43 ac_code_304 11 rfl
theorem dL_law_316 : decode code 316 = .ok (.invokevirtual 28, 3) := o182 ac_code_304 12 0 28 rfl
theorem dL_law_319 : decode code 319 = .ok (.pop, 1) := o87 ac_code_304 15 rfl
def kb_code_320 : List Nat := [44, 182, 0, 31, 87, 167, 3, 245, 43, 42, 29, 4, 96, 46, 42, 29, 5, 96, 46, 182]
theorem ac_code_320 : AL code 320 kb_code_320 := AL.of (m := 20) (by decide +kernel)
theorem dL_law_320 : decode code 320 = .ok (.aload_n 2, 1) := o44 ac_code_320 0 rfl
theorem dL_law_321 : decode code 321 = .ok (.invokevirtual 31, 3) := o182 ac_code_320 1 0 31 rfl
theorem dL_law_324 : decode code 324 = .ok (.pop, 1) := o87 ac_code_320 4 rfl
theorem dL_law_325 : decode code 325 = .ok (.goto 1013, 3) := o167p ac_code_320 5 3 245 rfl rfl
theorem dL_law_328 : decode code 328 = .ok (.aload_n 1, 1) := o43 ac_code_320 8 rfl
theorem dL_law_329 : decode code 329 = .ok (.aload_n 0, 1) := o42 ac_code_320 9 rfl
theorem dL_law_330 : decode code 330 = .ok (.iload_n 3, 1) := o29 ac_code_320 10 rfl
theorem dL_law_331 : decode code 331 = .ok (.iconst 1, 1) := o4 ac_code_320 11 rfl
theorem dL_law_332 : decode code 332 = .ok (.iadd, 1) := o96 ac_code_320 12 rfl
theorem dL_law_333 : decode code 333 = .ok (.iaload, 1) := o46 ac_code_320 13 rfl
theorem dL_law_334 : decode code 334 = .ok (.aload_n 0, 1) := o42 ac_code_320 14 rfl
theorem dL_law_335 : decode code 335 = .ok (.iload_n 3, 1) := o29 ac_code_320 15 rfl
def kb_code_336 : List Nat := [5, 96, 46, 182, 0, 32, 87, 44, 42, 29, 4, 96, 46, 42, 29, 5, 96, 46, 182, 0]
theorem ac_code_336 : AL code 336 kb_code_336 := AL.of (m := 20) (by decide +kernel)
theorem dL_law_336 : decode code 336 = .ok (.iconst 2, 1) := o5 ac_code_336 0 rfl
theorem dL_law_337 : decode code 337 = .ok (.iadd, 1) := o96 ac_code_336 1 rfl
theorem dL_law_338 : decode code 338 = .ok (.iaload, 1) := o46 ac_code_336 2 rfl
theorem dL_law_339 : decode code 339 = .ok (.invokevirtual 32, 3) := o182 ac_code_336 3 0 32 rfl
theorem dL_law_342 : decode code 342 = .ok (.pop, 1) := o87 ac_code_336 6 rfl
theorem dL_law_343 : decode code 343 = .ok (.aload_n 2, 1) := o44 ac_code_336 7 rfl
theorem dL_law_344 : decode code 344 = .ok (.aload_n 0, 1) := o42 ac_code_336 8 rfl
theorem dL_law_345 : decode code 345 = .ok (.iload_n 3, 1) := o29 ac_code_336 9 rfl
theorem dL_law_346 : decode code 346 = .ok (.iconst 1, 1) := o4 ac_code_336 10 rfl
theorem dL_law_347 : decode code 347 = .ok (.iadd, 1) := o96 ac_code_336 11 rfl
theorem dL_law_348 : decode code 348 = .ok (.iaload, 1) := o46 ac_code_336 12 rfl
theorem dL_law_349 : decode code 349 = .ok (.aload_n 0, 1) := o42 ac_code_336 13 rfl
theorem dL_law_350 : decode code 350 = .ok (.iload_n 3, 1) := o29 ac_code_336 14 rfl
theorem dL_law_351 : decode code 351 = .ok (.iconst 2, 1) := o5 ac_code_336 15 rfl
def kb_code_352 : List Nat := [96, 46, 182, 0, 36, 87, 167, 3, 212, 43, 42, 29, 4, 96, 46, 42, 29, 5, 96, 46]
theorem ac_code_352 : AL code 352 kb_code_352 := AL.of (m := 20) (by decide +kernel)
theorem dL_law_352 : decode code 352 = .ok (.iadd, 1) := o96 ac_code_352 0 rfl
theorem dL_law_353 : decode code 353 = .ok (.iaload, 1) := o46 ac_code_352 1 rfl
theorem dL_law_354 : decode code 354 = .ok (.invokevirtual 36, 3) := o182 ac_code_352 2 0 36 rfl
theorem dL_law_357 : decode code 357 = .ok (.pop, 1) := o87 ac_code_352 5 rfl
theorem dL_law_358 : decode code 358 = .ok (.goto 980, 3) := o167p ac_code_352 6 3 212 rfl rfl
theorem dL_law_361 : decode code 361 = .ok (.aload_n 1, 1) := o43 ac_code_352 9 rfl
theorem dL_law_362 : decode code 362 = .ok (.aload_n 0, 1) := o42 ac_code_352 10 rfl
theorem dL_law_363 : decode code 363 = .ok (.iload_n 3, 1) := o29 ac_code_352 11 rfl
theorem dL_law_364 : decode code 364 = .ok (.iconst 1, 1) := o4 ac_code_352 12 rfl
theorem dL_law_365 : decode code 365 = .ok (.iadd, 1) := o96 ac_code_352 13 rfl
theorem dL_law_366 : decode code 366 = .ok (.iaload, 1) := o46 ac_code_352 14 rfl
theorem dL_law_367 : decode code 367 = .ok (.aload_n 0, 1) := o42 ac_code_352 15 rfl
def kb_code_368 : List Nat := [29, 5, 96, 46, 182, 0, 37, 87, 44, 42, 29, 4, 96, 46, 42, 29, 5, 96, 46, 182]
theorem ac_code_368 : AL code 368 kb_code_368 := AL.of (m := 20) (by decide +kernel)
theorem dL_law_368 : decode code 368 = .ok (.iload_n 3, 1) := o29 ac_code_368 0 rfl
theorem dL_law_369 : decode code 369 = .ok (.iconst 2, 1) := o5 ac_code_368 1 rfl
theorem dL_law_370 : decode code 370 = .ok (.iadd, 1) := o96 ac_code_368 2 rfl
theorem dL_law_371 : decode code 371 = .ok (.iaload, 1) := o46 ac_code_368 3 rfl
theorem dL_law_372 : decode code 372 = .ok (.invokevirtual 37, 3) := o182 ac_code_368 4 0 37 rfl
theorem dL_law_375 : decode code 375 = .ok (.pop, 1) := o87 ac_code_368 7 rfl
theorem dL_law_376 : decode code 376 = .ok (.aload_n 2, 1) := o44 ac_code_368 8 rfl
theorem dL_law_377 : decode code 377 = .ok (.aload_n 0, 1) := o42 ac_code_368 9 rfl
theorem dL_law_378 : decode code 378 = .ok (.iload_n 3, 1) := o29 ac_code_368 10 rfl
theorem dL_law_379 : decode code 379 = .ok (.iconst 1, 1) := o4 ac_code_368 11 rfl
theorem dL_law_380 : decode code 380 = .ok (.iadd, 1) := o96 ac_code_368 12 rfl
theorem dL_law_381 : decode code 381 = .ok (.iaload, 1) := o46 ac_code_368 13 rfl
theorem dL_law_382 : decode code 382 = .ok (.aload_n 0, 1) := o42 ac_code_368 14 rfl
theorem dL_law_383 : decode code 383 = .ok (.iload_n 3, 1) := o29 ac_code_368 15 rfl
def kb_code_384 : List Nat := [5, 96, 46, 182, 0, 40, 87, 167, 3, 179, 43, 42, 29, 4, 96, 46, 42, 29, 5, 96]
theorem ac_code_384 : AL code 384 kb_code_384 := AL.of (m := 20) (by decide +kernel)
theorem dL_law_384 : decode code 384 = .ok (.iconst 2, 1) := o5 ac_code_384 0 rfl
theorem dL_law_385 : decode code 385 = .ok (.iadd, 1) := o96 ac_code_384 1 rfl
theorem dL_law_386 : decode code 386 = .ok (.iaload, 1) := o46 ac_code_384 2 rfl
theorem dL_law_387 : decode code 387 = .ok (.invokevirtual 40, 3) := o182 ac_code_384 3 0 40 rfl
theorem dL_law_390 : decode code 390 = .ok (.pop, 1) := o87 ac_code_384 6 rfl
theorem dL_law_391 : decode code 391 = .ok (.goto 947, 3) := o167p ac_code_384 7 3 179 rfl rfl
theorem dL_law_394 : decode code 394 = .ok (.aload_n 1, 1) := o43 ac_code_384 10 rfl
theorem dL_law_395 : decode code 395 = .ok (.aload_n 0, 1) := o42 ac_code_384 11 rfl
theorem dL_law_396 : decode code 396 = .ok (.iload_n 3, 1) := o29 ac_code_384 12 rfl
theorem dL_law_397 : decode code 397 = .ok (.iconst 1, 1) := o4 ac_code_384 13 rfl
theorem dL_law_398 : decode code 398 = .ok (.iadd, 1) := o96 ac_code_384 14 rfl
theorem dL_law_399 : decode code 399 = .ok (.iaload, 1) := o46 ac_code_384 15 rfl
def kb_code_400 : List Nat := [42, 29, 5, 96, 46, 42, 29, 6, 96, 46, 182, 0, 41, 87, 44, 42, 29, 4, 96, 46]
theorem ac_code_400 : AL code 400 kb_code_400 := AL.of (m := 20) (by decide +kernel)
theorem dL_law_400 : decode code 400 = .ok (.aload_n 0, 1) := o42 ac_code_400 0 rfl
theorem dL_law_401 : decode code 401 = .ok (.iload_n 3, 1) := o29 ac_code_400 1 rfl
theorem dL_law_402 : decode code 402 = .ok (.iconst 2, 1) := o5 ac_code_400 2 rfl
theorem dL_law_403 : decode code 403 = .ok (.iadd, 1) := o96 ac_code_400 3 rfl
theorem dL_law_404 : decode code 404 = .ok (.iaload, 1) := o46 ac_code_400 4 rfl
theorem dL_law_405 : decode code 405 = .ok (.aload_n 0, 1) := o42 ac_code_400 5 rfl
theorem dL_law_406 : decode code 406 = .ok (.iload_n 3, 1) := o29 ac_code_400 6 rfl
theorem dL_law_407 : decode code 407 = .ok (.iconst 3, 1) := o6 ac_code_400 7 rfl
theorem dL_law_408 : decode code 408 = .ok (.iadd, 1) := o96 ac_code_400 8 rfl
theorem dL_law_409 : decode code 409 = .ok (.iaload, 1) := o46 ac_code_400 9 rfl
theorem dL_law_410 : decode code 410 = .ok (.invokevirtual 41, 3) := o182 ac_code_400 10 0 41 rfl
theorem dL_law_413 : decode code 413 = .ok (.pop, 1) := o87 ac_code_400 13 rfl
theorem dL_law_414 : decode code 414 = .ok (.aload_n 2, 1) := o44 ac_code_400 14 rfl
theorem dL_law_415 : decode code 415 = .ok (.aload_n 0, 1) := o42 ac_code_400 15 rfl
def kb_code_416 : List Nat := [29, 4, 96, 46, 42, 29, 5, 96, 46, 42, 29, 6, 96, 46, 182, 0, 45, 87, 167, 3]
theorem ac_code_416 : AL code 416 kb_code_416 := AL.of (m := 20) (by decide +kernel)
theorem dL_law_416 : decode code 416 = .ok (.iload_n 3, 1) := o29 ac_code_416 0 rfl
theorem dL_law_417 : decode code 417 = .ok (.iconst 1, 1) := o4 ac_code_416 1 rfl
theorem dL_law_418 : decode code 418 = .ok (.iadd, 1) := o96 ac_code_416 2 rfl
theorem dL_law_419 : decode code 419 = .ok (.iaload, 1) := o46 ac_code_416 3 rfl
theorem dL_law_420 : decode code 420 = .ok (.aload_n 0, 1) := o42 ac_code_416 4 rfl
theorem dL_law_421 : decode code 421 = .ok (.iload_n 3, 1) := o29 ac_code_416 5 rfl
theorem dL_law_422 : decode code 422 = .ok (.iconst 2, 1) := o5 ac_code_416 6 rfl
theorem dL_law_423 : decode code 423 = .ok (.iadd, 1) := o96 ac_code_416 7 rfl
theorem dL_law_424 : decode code 424 = .ok (.iaload, 1) := o46 ac_code_416 8 rfl
theorem dL_law_425 : decode code 425 = .ok (.aload_n 0, 1) := o42 ac_code_416 9 rfl
theorem dL_law_426 : decode code 426 = .ok (.iload_n 3, 1) := o29 ac_code_416 10 rfl
theorem dL_law_427 : decode code 427 = .ok (.iconst 3, 1) := o6 ac_code_416 11 rfl
theorem dL_law_428 : decode code 428 = .ok (.iadd, 1) := o96 ac_code_416 12 rfl
theorem dL_law_429 : decode code 429 = .ok (.iaload, 1) := o46 ac_code_416 13 rfl
theorem dL_law_430 : decode code 430 = .ok (.invokevirtual 45, 3) := o182 ac_code_416 14 0 45 rfl
def kb_code_432 : List Nat := [45, 87, 167, 3, 136, 43, 42, 29, 4, 96, 46, 42, 29, 5, 96, 46, 182, 0, 46, 87]
theorem ac_code_432 : AL code 432 kb_code_432 := AL.of (m := 20) (by decide +kernel)
theorem dL_law_433 : decode code 433 = .ok (.pop, 1) := o87 ac_code_432 1 rfl
theorem dL_law_434 : decode code 434 = .ok (.goto 904, 3) := o167p ac_code_432 2 3 136 rfl rfl
theorem dL_law_437 : decode code 437 = .ok (.aload_n 1, 1) := o43 ac_code_432 5 rfl
theorem dL_law_438 : decode code 438 = .ok (.aload_n 0, 1) := o42 ac_code_432 6 rfl
theorem dL_law_439 : decode code 439 = .ok (.iload_n 3, 1) := o29 ac_code_432 7 rfl
theorem dL_law_440 : decode code 440 = .ok (.iconst 1, 1) := o4 ac_code_432 8 rfl
theorem dL_law_441 : decode code 441 = .ok (.iadd, 1) := o96 ac_code_432 9 rfl
theorem dL_law_442 : decode code 442 = .ok (.iaload, 1) := o46 ac_code_432 10 rfl
theorem dL_law_443 : decode code 443 = .ok (.aload_n 0, 1) := o42 ac_code_432 11 rfl
theorem dL_law_444 : decode code 444 = .ok (.iload_n 3, 1) := o29 ac_code_432 12 rfl
theorem dL_law_445 : decode code 445 = .ok (.iconst 2, 1) := o5 ac_code_432 13 rfl
theorem dL_law_446 : decode code 446 = .ok (.iadd, 1) := o96 ac_code_432 14 rfl
theorem dL_law_447 : decode code 447 = .ok (.iaload, 1) := o46 ac_code_432 15 rfl
def kb_code_448 : List Nat := [182, 0, 46, 87, 44, 42, 29, 4, 96, 46, 42, 29, 5, 96, 46, 182, 0, 50, 87, 167]
theorem ac_code_448 : AL code 448 kb_code_448 := AL.of (m := 20) (by decide +kernel)
theorem dL_law_448 : decode code 448 = .ok (.invokevirtual 46, 3) := o182 ac_code_448 0 0 46 rfl
theorem dL_law_451 : decode code 451 = .ok (.pop, 1) := o87 ac_code_448 3 rfl
theorem dL_law_452 : decode code 452 = .ok (.aload_n 2, 1) := o44 ac_code_448 4 rfl
theorem dL_law_453 : decode code 453 = .ok (.aload_n 0, 1) := o42 ac_code_448 5 rfl
theorem dL_law_454 : decode code 454 = .ok (.iload_n 3, 1) := o29 ac_code_448 6 rfl
theorem dL_law_455 : decode code 455 = .ok (.iconst 1, 1) := o4 ac_code_448 7 rfl
theorem dL_law_456 : decode code 456 = .ok (.iadd, 1) := o96 ac_code_448 8 rfl
theorem dL_law_457 : decode code 457 = .ok (.iaload, 1) := o46 ac_code_448 9 rfl
theorem dL_law_458 : decode code 458 = .ok (.aload_n 0, 1) := o42 ac_code_448 10 rfl
theorem dL_law_459 : decode code 459 = .ok (.iload_n 3, 1) := o29 ac_code_448 11 rfl
theorem dL_law_460 : decode code 460 = .ok (.iconst 2, 1) := o5 ac_code_448 12 rfl
theorem dL_law_461 : decode code 461 = .ok (.iadd, 1) := o96 ac_code_448 13 rfl
theorem dL_law_462 : decode code 462 = .ok (.iaload, 1) := o46 ac_code_448 14 rfl
theorem dL_law_463 : decode code 463 = .ok (.invokevirtual 50, 3) := o182 ac_code_448 15 0 50 rfl
def kb_code_464 : List Nat := [0, 50, 87, 167, 3, 103, 43, 42, 29, 4, 96, 46, 182, 0, 51, 87, 44, 42, 29, 4]
theorem ac_code_464 : AL code 464 kb_code_464 := AL.of (m := 20) (by decide +kernel)
theorem dL_law_466 : decode code 466 = .ok (.pop, 1) := o87 ac_code_464 2 rfl
theorem dL_law_467 : decode code 467 = .ok (.goto 871, 3) := o167p ac_code_464 3 3 103 rfl rfl
theorem dL_law_470 : decode code 470 = .ok (.aload_n 1, 1) := o43 ac_code_464 6 rfl
theorem dL_law_471 : decode code 471 = .ok (.aload_n 0, 1) := o42 ac_code_464 7 rfl
theorem dL_law_472 : decode code 472 = .ok (.iload_n 3, 1) := o29 ac_code_464 8 rfl
theorem dL_law_473 : decode code 473 = .ok (.iconst 1, 1) := o4 ac_code_464 9 rfl
theorem dL_law_474 : decode code 474 = .ok (.iadd, 1) := o96 ac_code_464 10 rfl
theorem dL_law_475 : decode code 475 = .ok (.iaload, 1) := o46 ac_code_464 11 rfl
theorem dL_law_476 : decode code 476 = .ok (.invokevirtual 51, 3) := o182 ac_code_464 12 0 51 rfl
theorem dL_law_479 : decode code 479 = .ok (.pop, 1) := o87 ac_code_464 15 rfl
def kb_code_480 : List Nat := [44, 42, 29, 4, 96, 46, 182, 0, 55, 87, 167, 3, 80, 43, 42, 29, 4, 96, 46, 182]
theorem ac_code_480 : AL code 480 kb_code_480 := AL.of (m := 20) (by decide +kernel)
theorem dL_law_480 : decode code 480 = .ok (.aload_n 2, 1) := o44 ac_code_480 0 rfl
theorem dL_law_481 : decode code 481 = .ok (.aload_n 0, 1) := o42 ac_code_480 1 rfl
theorem dL_law_482 : decode code 482 = .ok (.iload_n 3, 1) := o29 ac_code_480 2 rfl
theorem dL_law_483 : decode code 483 = .ok (.iconst 1, 1) := o4 ac_code_480 3 rfl
theorem dL_law_484 : decode code 484 = .ok (.iadd, 1) := o96 ac_code_480 4 rfl
theorem dL_law_485 : decode code 485 = .ok (.iaload, 1) := o46 ac_code_480 5 rfl
theorem dL_law_486 : decode code 486 = .ok (.invokevirtual 55, 3) := o182 ac_code_480 6 0 55 rfl
theorem dL_law_489 : decode code 489 = .ok (.pop, 1) := o87 ac_code_480 9 rfl
theorem dL_law_490 : decode code 490 = .ok (.goto 848, 3) := o167p ac_code_480 10 3 80 rfl rfl
theorem dL_law_493 : decode code 493 = .ok (.aload_n 1, 1) := o43 ac_code_480 13 rfl
theorem dL_law_494 : decode code 494 = .ok (.aload_n 0, 1) := o42 ac_code_480 14 rfl
theorem dL_law_495 : decode code 495 = .ok (.iload_n 3, 1) := o29 ac_code_480 15 rfl
def kb_code_496 : List Nat := [4, 96, 46, 182, 0, 56, 87, 44, 42, 29, 4, 96, 46, 182, 0, 59, 87, 167, 3, 57]
theorem ac_code_496 : AL code 496 kb_code_496 := AL.of (m := 20) (by decide +kernel)
theorem dL_law_496 : decode code 496 = .ok (.iconst 1, 1) := o4 ac_code_496 0 rfl
theorem dL_law_497 : decode code 497 = .ok (.iadd, 1) := o96 ac_code_496 1 rfl
theorem dL_law_498 : decode code 498 = .ok (.iaload, 1) := o46 ac_code_496 2 rfl
theorem dL_law_499 : decode code 499 = .ok (.invokevirtual 56, 3) := o182 ac_code_496 3 0 56 rfl
theorem dL_law_502 : decode code 502 = .ok (.pop, 1) := o87 ac_code_496 6 rfl
theorem dL_law_503 : decode code 503 = .ok (.aload_n 2, 1) := o44 ac_code_496 7 rfl
theorem dL_law_504 : decode code 504 = .ok (.aload_n 0, 1) := o42 ac_code_496 8 rfl
theorem dL_law_505 : decode code 505 = .ok (.iload_n 3, 1) := o29 ac_code_496 9 rfl
theorem dL_law_506 : decode code 506 = .ok (.iconst 1, 1) := o4 ac_code_496 10 rfl
theorem dL_law_507 : decode code 507 = .ok (.iadd, 1) := o96 ac_code_496 11 rfl
theorem dL_law_508 : decode code 508 = .ok (.iaload, 1) := o46 ac_code_496 12 rfl
theorem dL_law_509 : decode code 509 = .ok (.invokevirtual 59, 3) := o182 ac_code_496 13 0 59 rfl
def kb_code_512 : List Nat := [87, 167, 3, 57, 43, 42, 29, 4, 96, 46, 182, 0, 60, 87, 44, 42, 29, 4, 96, 46]
theorem ac_code_512 : AL code 512 kb_code_512 := AL.of (m := 20) (by decide +kernel)
theorem dL_law_512 : decode code 512 = .ok (.pop, 1) := o87 ac_code_512 0 rfl
theorem dL_law_513 : decode code 513 = .ok (.goto 825, 3) := o167p ac_code_512 1 3 57 rfl rfl
theorem dL_law_516 : decode code 516 = .ok (.aload_n 1, 1) := o43 ac_code_512 4 rfl
theorem dL_law_517 : decode code 517 = .ok (.aload_n 0, 1) := o42 ac_code_512 5 rfl
theorem dL_law_518 : decode code 518 = .ok (.iload_n 3, 1) := o29 ac_code_512 6 rfl
theorem dL_law_519 : decode code 519 = .ok (.iconst 1, 1) := o4 ac_code_512 7 rfl
theorem dL_law_520 : decode code 520 = .ok (.iadd, 1) := o96 ac_code_512 8 rfl
theorem dL_law_521 : decode code 521 = .ok (.iaload, 1) := o46 ac_code_512 9 rfl
theorem dL_law_522 : decode code 522 = .ok (.invokevirtual 60, 3) := o182 ac_code_512 10 0 60 rfl
theorem dL_law_525 : decode code 525 = .ok (.pop, 1) := o87 ac_code_512 13 rfl
theorem dL_law_526 : decode code 526 = .ok (.aload_n 2, 1) := o44 ac_code_512 14 rfl
theorem dL_law_527 : decode code 527 = .ok (.aload_n 0, 1) := o42 ac_code_512 15 rfl
def kb_code_528 : List Nat := [29, 4, 96, 46, 182, 0, 63, 87, 167, 3, 34, 43, 182, 0, 64, 87, 44, 182, 0, 68]
theorem ac_code_528 : AL code 528 kb_code_528 := AL.of (m := 20) (by decide +kernel)
theorem dL_law_528 : decode code 528 = .ok (.iload_n 3, 1) := o29 ac_code_528 0 rfl
theorem dL_law_529 : decode code 529 = .ok (.iconst 1, 1) := o4 ac_code_528 1 rfl
theorem dL_law_530 : decode code 530 = .ok (.iadd, 1) := o96 ac_code_528 2 rfl
theorem dL_law_531 : decode code 531 = .ok (.iaload, 1) := o46 ac_code_528 3 rfl
theorem dL_law_532 : decode code 532 = .ok (.invokevirtual 63, 3) := o182 ac_code_528 4 0 63 rfl
theorem dL_law_535 : decode code 535 = .ok (.pop, 1) := o87 ac_code_528 7 rfl
theorem dL_law_536 : decode code 536 = .ok (.goto 802, 3) := o167p ac_code_528 8 3 34 rfl rfl
theorem dL_law_539 : decode code 539 = .ok (.aload_n 1, 1) := o43 ac_code_528 11 rfl
theorem dL_law_540 : decode code 540 = .ok (.invokevirtual 64, 3) := o182 ac_code_528 12 0 64 rfl
theorem dL_law_543 : decode code 543 = .ok (.pop, 1) := o87 ac_code_528 15 rfl
def kb_code_544 : List Nat := [44, 182, 0, 68, 87, 167, 3, 21, 43, 42, 29, 4, 96, 46, 42, 29, 5, 96, 46, 182]
theorem ac_code_544 : AL code 544 kb_code_544 := AL.of (m := 20) (by decide +kernel)
theorem dL_law_544 : decode code 544 = .ok (.aload_n 2, 1) := o44 ac_code_544 0 rfl
theorem dL_law_545 : decode code 545 = .ok (.invokevirtual 68, 3) := o182 ac_code_544 1 0 68 rfl
theorem dL_law_548 : decode code 548 = .ok (.pop, 1) := o87 ac_code_544 4 rfl
theorem dL_law_549 : decode code 549 = .ok (.goto 789, 3) := o167p ac_code_544 5 3 21 rfl rfl
theorem dL_law_552 : decode code 552 = .ok (.aload_n 1, 1) := o43 ac_code_544 8 rfl
theorem dL_law_553 : decode code 553 = .ok (.aload_n 0, 1) := o42 ac_code_544 9 rfl
theorem dL_law_554 : decode code 554 = .ok (.iload_n 3, 1) := o29 ac_code_544 10 rfl
theorem dL_law_555 : decode code 555 = .ok (.iconst 1, 1) := o4 ac_code_544 11 rfl
theorem dL_law_556 : decode code 556 = .ok (.iadd, 1) := o96 ac_code_544 12 rfl
theorem dL_law_557 : decode code 557 = .ok (.iaload, 1) := o46 ac_code_544 13 rfl
theorem dL_law_558 : decode code 558 = .ok (.aload_n 0, 1) := o42 ac_code_544 14 rfl
theorem dL_law_559 : decode code 559 = .ok (.iload_n 3, 1) := o29 ac_code_544 15 rfl
def kb_code_560 : List Nat := [5, 96, 46, 182, 0, 69, 87, 44, 42, 29, 4, 96, 46, 42, 29, 5, 96, 46, 182, 0]
theorem ac_code_560 : AL code 560 kb_code_560 := AL.of (m := 20) (by decide +kernel)
theorem dL_law_560 : decode code 560 = .ok (.iconst 2, 1) := o5 ac_code_560 0 rfl
theorem dL_law_561 : decode code 561 = .ok (.iadd, 1) := o96 ac_code_560 1 rfl
theorem dL_law_562 : decode code 562 = .ok (.iaload, 1) := o46 ac_code_560 2 rfl
theorem dL_law_563 : decode code 563 = .ok (.invokevirtual 69, 3) := o182 ac_code_560 3 0 69 rfl
theorem dL_law_566 : decode code 566 = .ok (.pop, 1) := o87 ac_code_560 6 rfl
theorem dL_law_567 : decode code 567 = .ok (.aload_n 2, 1) := o44 ac_code_560 7 rfl
theorem dL_law_568 : decode code 568 = .ok (.aload_n 0, 1) := o42 ac_code_560 8 rfl
theorem dL_law_569 : decode code 569 = .ok (.iload_n 3, 1) := o29 ac_code_560 9 rfl
theorem dL_law_570 : decode code 570 = .ok (.iconst 1, 1) := o4 ac_code_560 10 rfl
theorem dL_law_571 : decode code 571 = .ok (.iadd, 1) := o96 ac_code_560 11 rfl
theorem dL_law_572 : decode code 572 = .ok (.iaload, 1) := o46 ac_code_560 12 rfl
theorem dL_law_573 : decode code 573 = .ok (.aload_n 0, 1) := o42 ac_code_560 13 rfl
theorem dL_law_574 : decode code 574 = .ok (.iload_n 3, 1) := o29 ac_code_560 14 rfl
theorem dL_law_575 : decode code 575 = .ok (.iconst 2, 1) := o5 ac_code_560 15 rfl
def kb_code_576 : List Nat := [96, 46, 182, 0, 72, 87, 167, 2, 244, 43, 182, 0, 73, 87, 44, 182, 0, 76, 87, 167]
theorem ac_code_576 : AL code 576 kb_code_576 := AL.of (m := 20) (by decide +kernel)
theorem dL_law_576 : decode code 576 = .ok (.iadd, 1) := o96 ac_code_576 0 rfl
theorem dL_law_577 : decode code 577 = .ok (.iaload, 1) := o46 ac_code_576 1 rfl
theorem dL_law_578 : decode code 578 = .ok (.invokevirtual 72, 3) := o182 ac_code_576 2 0 72 rfl
theorem dL_law_581 : decode code 581 = .ok (.pop, 1) := o87 ac_code_576 5 rfl
theorem dL_law_582 : decode code 582 = .ok (.goto 756, 3) := o167p ac_code_576 6 2 244 rfl rfl
theorem dL_law_585 : decode code 585 = .ok (.aload_n 1, 1) := o43 ac_code_576 9 rfl
theorem dL_law_586 : decode code 586 = .ok (.invokevirtual 73, 3) := o182 ac_code_576 10 0 73 rfl
theorem dL_law_589 : decode code 589 = .ok (.pop, 1) := o87 ac_code_576 13 rfl
theorem dL_law_590 : decode code 590 = .ok (.aload_n 2, 1) := o44 ac_code_576 14 rfl
theorem dL_law_591 : decode code 591 = .ok (.invokevirtual 76, 3) := o182 ac_code_576 15 0 76 rfl
def kb_code_592 : List Nat := [0, 76, 87, 167, 2, 231, 43, 42, 29, 4, 96, 46, 182, 0, 77, 87, 44, 42, 29, 4]
theorem ac_code_592 : AL code 592 kb_code_592 := AL.of (m := 20) (by decide +kernel)
theorem dL_law_594 : decode code 594 = .ok (.pop, 1) := o87 ac_code_592 2 rfl
theorem dL_law_595 : decode code 595 = .ok (.goto 743, 3) := o167p ac_code_592 3 2 231 rfl rfl
theorem dL_law_598 : decode code 598 = .ok (.aload_n 1, 1) := o43 ac_code_592 6 rfl
theorem dL_law_599 : decode code 599 = .ok (.aload_n 0, 1) := o42 ac_code_592 7 rfl
theorem dL_law_600 : decode code 600 = .ok (.iload_n 3, 1) := o29 ac_code_592 8 rfl
theorem dL_law_601 : decode code 601 = .ok (.iconst 1, 1) := o4 ac_code_592 9 rfl
theorem dL_law_602 : decode code 602 = .ok (.iadd, 1) := o96 ac_code_592 10 rfl
theorem dL_law_603 : decode code 603 = .ok (.iaload, 1) := o46 ac_code_592 11 rfl
theorem dL_law_604 : decode code 604 = .ok (.invokevirtual 77, 3) := o182 ac_code_592 12 0 77 rfl
theorem dL_law_607 : decode code 607 = .ok (.pop, 1) := o87 ac_code_592 15 rfl
def kb_code_608 : List Nat := [44, 42, 29, 4, 96, 46, 182, 0, 80, 87, 167, 2, 208, 43, 182, 0, 81, 87, 44, 182]
theorem ac_code_608 : AL code 608 kb_code_608 := AL.of (m := 20) (by decide +kernel)
theorem dL_law_608 : decode code 608 = .ok (.aload_n 2, 1) := o44 ac_code_608 0 rfl
theorem dL_law_609 : decode code 609 = .ok (.aload_n 0, 1) := o42 ac_code_608 1 rfl
theorem dL_law_610 : decode code 610 = .ok (.iload_n 3, 1) := o29 ac_code_608 2 rfl
theorem dL_law_611 : decode code 611 = .ok (.iconst 1, 1) := o4 ac_code_608 3 rfl
theorem dL_law_612 : decode code 612 = .ok (.iadd, 1) := o96 ac_code_608 4 rfl
theorem dL_law_613 : decode code 613 = .ok (.iaload, 1) := o46 ac_code_608 5 rfl
theorem dL_law_614 : decode code 614 = .ok (.invokevirtual 80, 3) := o182 ac_code_608 6 0 80 rfl
theorem dL_law_617 : decode code 617 = .ok (.pop, 1) := o87 ac_code_608 9 rfl
theorem dL_law_618 : decode code 618 = .ok (.goto 720, 3) := o167p ac_code_608 10 2 208 rfl rfl
theorem dL_law_621 : decode code 621 = .ok (.aload_n 1, 1) := o43 ac_code_608 13 rfl
theorem dL_law_622 : decode code 622 = .ok (.invokevirtual 81, 3) := o182 ac_code_608 14 0 81 rfl
def kb_code_624 : List Nat := [81, 87, 44, 182, 0, 84, 87, 167, 2, 195, 43, 42, 29, 4, 96, 46, 42, 29, 5, 96]
theorem ac_code_624 : AL code 624 kb_code_624 := AL.of (m := 20) (by decide +kernel)
theorem dL_law_625 : decode code 625 = .ok (.pop, 1) := o87 ac_code_624 1 rfl
theorem dL_law_626 : decode code 626 = .ok (.aload_n 2, 1) := o44 ac_code_624 2 rfl
theorem dL_law_627 : decode code 627 = .ok (.invokevirtual 84, 3) := o182 ac_code_624 3 0 84 rfl
theorem dL_law_630 : decode code 630 = .ok (.pop, 1) := o87 ac_code_624 6 rfl
theorem dL_law_631 : decode code 631 = .ok (.goto 707, 3) := o167p ac_code_624 7 2 195 rfl rfl
theorem dL_law_634 : decode code 634 = .ok (.aload_n 1, 1) := o43 ac_code_624 10 rfl
theorem dL_law_635 : decode code 635 = .ok (.aload_n 0, 1) := o42 ac_code_624 11 rfl
theorem dL_law_636 : decode code 636 = .ok (.iload_n 3, 1) := o29 ac_code_624 12 rfl
theorem dL_law_637 : decode code 637 = .ok (.iconst 1, 1) := o4 ac_code_624 13 rfl
theorem dL_law_638 : decode code 638 = .ok (.iadd, 1) := o96 ac_code_624 14 rfl
theorem dL_law_639 : decode code 639 = .ok (.iaload, 1) := o46 ac_code_624 15 rfl
def kb_code_640 : List Nat := [42, 29, 5, 96, 46, 182, 0, 85, 87, 44, 42, 29, 4, 96, 46, 42, 29, 5, 96, 46]
theorem ac_code_640 : AL code 640 kb_code_640 := AL.of (m := 20) (by decide +kernel)
theorem dL_law_640 : decode code 640 = .ok (.aload_n 0, 1) := o42 ac_code_640 0 rfl
theorem dL_law_641 : decode code 641 = .ok (.iload_n 3, 1) := o29 ac_code_640 1 rfl
theorem dL_law_642 : decode code 642 = .ok (.iconst 2, 1) := o5 ac_code_640 2 rfl
theorem dL_law_643 : decode code 643 = .ok (.iadd, 1) := o96 ac_code_640 3 rfl
theorem dL_law_644 : decode code 644 = .ok (.iaload, 1) := o46 ac_code_640 4 rfl
theorem dL_law_645 : decode code 645 = .ok (.invokevirtual 85, 3) := o182 ac_code_640 5 0 85 rfl
theorem dL_law_648 : decode code 648 = .ok (.pop, 1) := o87 ac_code_640 8 rfl
theorem dL_law_649 : decode code 649 = .ok (.aload_n 2, 1) := o44 ac_code_640 9 rfl
theorem dL_law_650 : decode code 650 = .ok (.aload_n 0, 1) := o42 ac_code_640 10 rfl
theorem dL_law_651 : decode code 651 = .ok (.iload_n 3, 1) := o29 ac_code_640 11 rfl
theorem dL_law_652 : decode code 652 = .ok (.iconst 1, 1) := o4 ac_code_640 12 rfl
theorem dL_law_653 : decode code 653 = .ok (.iadd, 1) := o96 ac_code_640 13 rfl
theorem dL_law_654 : decode code 654 = .ok (.iaload, 1) := o46 ac_code_640 14 rfl
theorem dL_law_655 : decode code 655 = .ok (.aload_n 0, 1) := o42 ac_code_640 15 rfl
def kb_code_656 : List Nat := [29, 5, 96, 46, 182, 0, 88, 87, 167, 2, 162, 43, 42, 29, 4, 96, 46, 42, 29, 5]
theorem ac_code_656 : AL code 656 kb_code_656 := AL.of (m := 20) (by decide +kernel)
theorem dL_law_656 : decode code 656 = .ok (.iload_n 3, 1) := o29 ac_code_656 0 rfl
theorem dL_law_657 : decode code 657 = .ok (.iconst 2, 1) := o5 ac_code_656 1 rfl
theorem dL_law_658 : decode code 658 = .ok (.iadd, 1) := o96 ac_code_656 2 rfl
theorem dL_law_659 : decode code 659 = .ok (.iaload, 1) := o46 ac_code_656 3 rfl
theorem dL_law_660 : decode code 660 = .ok (.invokevirtual 88, 3) := o182 ac_code_656 4 0 88 rfl
theorem dL_law_663 : decode code 663 = .ok (.pop, 1) := o87 ac_code_656 7 rfl
theorem dL_law_664 : decode code 664 = .ok (.goto 674, 3) := o167p ac_code_656 8 2 162 rfl rfl
theorem dL_law_667 : decode code 667 = .ok (.aload_n 1, 1) := o43 ac_code_656 11 rfl
theorem dL_law_668 : decode code 668 = .ok (.aload_n 0, 1) := o42 ac_code_656 12 rfl
theorem dL_law_669 : decode code 669 = .ok (.iload_n 3, 1) := o29 ac_code_656 13 rfl
theorem dL_law_670 : decode code 670 = .ok (.iconst 1, 1) := o4 ac_code_656 14 rfl
theorem dL_law_671 : decode code 671 = .ok (.iadd, 1) := o96 ac_code_656 15 rfl
def kb_code_672 : List Nat := [46, 42, 29, 5, 96, 46, 42, 29, 6, 96, 46, 182, 0, 89, 87, 44, 42, 29, 4, 96]
theorem ac_code_672 : AL code 672 kb_code_672 := AL.of (m := 20) (by decide +kernel)
theorem dL_law_672 : decode code 672 = .ok (.iaload, 1) := o46 ac_code_672 0 rfl
theorem dL_law_673 : decode code 673 = .ok (.aload_n 0, 1) := o42 ac_code_672 1 rfl
theorem dL_law_674 : decode code 674 = .ok (.iload_n 3, 1) := o29 ac_code_672 2 rfl
theorem dL_law_675 : decode code 675 = .ok (.iconst 2, 1) := o5 ac_code_672 3 rfl
theorem dL_law_676 : decode code 676 = .ok (.iadd, 1) := o96 ac_code_672 4 rfl
theorem dL_law_677 : decode code 677 = .ok (.iaload, 1) := o46 ac_code_672 5 rfl
theorem dL_law_678 : decode code 678 = .ok (.aload_n 0, 1) := o42 ac_code_672 6 rfl
theorem dL_law_679 : decode code 679 = .ok (.iload_n 3, 1) := o29 ac_code_672 7 rfl
theorem dL_law_680 : decode code 680 = .ok (.iconst 3, 1) := o6 ac_code_672 8 rfl
theorem dL_law_681 : decode code 681 = .ok (.iadd, 1) := o96 ac_code_672 9 rfl
theorem dL_law_682 : decode code 682 = .ok (.iaload, 1) := o46 ac_code_672 10 rfl
theorem dL_law_683 : decode code 683 = .ok (.invokevirtual 89, 3) := o182 ac_code_672 11 0 89 rfl
theorem dL_law_686 : decode code 686 = .ok (.pop, 1) := o87 ac_code_672 14 rfl
theorem dL_law_687 : decode code 687 = .ok (.aload_n 2, 1) := o44 ac_code_672 15 rfl
def kb_code_688 : List Nat := [42, 29, 4, 96, 46, 42, 29, 5, 96, 46, 42, 29, 6, 96, 46, 182, 0, 92, 87, 167]
theorem ac_code_688 : AL code 688 kb_code_688 := AL.of (m := 20) (by decide +kernel)
theorem dL_law_688 : decode code 688 = .ok (.aload_n 0, 1) := o42 ac_code_688 0 rfl
theorem dL_law_689 : decode code 689 = .ok (.iload_n 3, 1) := o29 ac_code_688 1 rfl
theorem dL_law_690 : decode code 690 = .ok (.iconst 1, 1) := o4 ac_code_688 2 rfl
theorem dL_law_691 : decode code 691 = .ok (.iadd, 1) := o96 ac_code_688 3 rfl
theorem dL_law_692 : decode code 692 = .ok (.iaload, 1) := o46 ac_code_688 4 rfl
theorem dL_law_693 : decode code 693 = .ok (.aload_n 0, 1) := o42 ac_code_688 5 rfl
theorem dL_law_694 : decode code 694 = .ok (.iload_n 3, 1) := o29 ac_code_688 6 rfl
theorem dL_law_695 : decode code 695 = .ok (.iconst 2, 1) := o5 ac_code_688 7 rfl
theorem dL_law_696 : decode code 696 = .ok (.iadd, 1) := o96 ac_code_688 8 rfl
theorem dL_law_697 : decode code 697 = .ok (.iaload, 1) := o46 ac_code_688 9 rfl
theorem dL_law_698 : decode code 698 = .ok (.aload_n 0, 1) := o42 ac_code_688 10 rfl
theorem dL_law_699 : decode code 699 = .ok (.iload_n 3, 1) := o29 ac_code_688 11 rfl
theorem dL_law_700 : decode code 700 = .ok (.iconst 3, 1) := o6 ac_code_688 12 rfl
theorem dL_law_701 : decode code 701 = .ok (.iadd, 1) := o96 ac_code_688 13 rfl
theorem dL_law_702 : decode code 702 = .ok (.iaload, 1) := o46 ac_code_688 14 rfl
theorem dL_law_703 : decode code 703 = .ok (.invokevirtual 92, 3) := o182 ac_code_688 15 0 92 rfl
def kb_code_704 : List Nat := [0, 92, 87, 167, 2, 119, 43, 42, 29, 4, 96, 46, 42, 29, 5, 96, 46, 182, 0, 93]
theorem ac_code_704 : AL code 704 kb_code_704 := AL.of (m := 20) (by decide +kernel)
theorem dL_law_706 : decode code 706 = .ok (.pop, 1) := o87 ac_code_704 2 rfl
theorem dL_law_707 : decode code 707 = .ok (.goto 631, 3) := o167p ac_code_704 3 2 119 rfl rfl
theorem dL_law_710 : decode code 710 = .ok (.aload_n 1, 1) := o43 ac_code_704 6 rfl
theorem dL_law_711 : decode code 711 = .ok (.aload_n 0, 1) := o42 ac_code_704 7 rfl
theorem dL_law_712 : decode code 712 = .ok (.iload_n 3, 1) := o29 ac_code_704 8 rfl
theorem dL_law_713 : decode code 713 = .ok (.iconst 1, 1) := o4 ac_code_704 9 rfl
theorem dL_law_714 : decode code 714 = .ok (.iadd, 1) := o96 ac_code_704 10 rfl
theorem dL_law_715 : decode code 715 = .ok (.iaload, 1) := o46 ac_code_704 11 rfl
theorem dL_law_716 : decode code 716 = .ok (.aload_n 0, 1) := o42 ac_code_704 12 rfl
theorem dL_law_717 : decode code 717 = .ok (.iload_n 3, 1) := o29 ac_code_704 13 rfl
theorem dL_law_718 : decode code 718 = .ok (.iconst 2, 1) := o5 ac_code_704 14 rfl
theorem dL_law_719 : decode code 719 = .ok (.iadd, 1) := o96 ac_code_704 15 rfl
def kb_code_720 : List Nat := [46, 182, 0, 93, 87, 44, 42, 29, 4, 96, 46, 42, 29, 5, 96, 46, 182, 0, 96, 87]
theorem ac_code_720 : AL code 720 kb_code_720 := AL.of (m := 20) (by decide +kernel)
theorem dL_law_720 : decode code 720 = .ok (.iaload, 1) := o46 ac_code_720 0 rfl
theorem dL_law_721 : decode code 721 = .ok (.invokevirtual 93, 3) := o182 ac_code_720 1 0 93 rfl
theorem dL_law_724 : decode code 724 = .ok (.pop, 1) := o87 ac_code_720 4 rfl
theorem dL_law_725 : decode code 725 = .ok (.aload_n 2, 1) := o44 ac_code_720 5 rfl
theorem dL_law_726 : decode code 726 = .ok (.aload_n 0, 1) := o42 ac_code_720 6 rfl
theorem dL_law_727 : decode code 727 = .ok (.iload_n 3, 1) := o29 ac_code_720 7 rfl
theorem dL_law_728 : decode code 728 = .ok (.iconst 1, 1) := o4 ac_code_720 8 rfl
theorem dL_law_729 : decode code 729 = .ok (.iadd, 1) := o96 ac_code_720 9 rfl
theorem dL_law_730 : decode code 730 = .ok (.iaload, 1) := o46 ac_code_720 10 rfl
theorem dL_law_731 : decode code 731 = .ok (.aload_n 0, 1) := o42 ac_code_720 11 rfl
theorem dL_law_732 : decode code 732 = .ok (.iload_n 3, 1) := o29 ac_code_720 12 rfl
theorem dL_law_733 : decode code 733 = .ok (.iconst 2, 1) := o5 ac_code_720 13 rfl
theorem dL_law_734 : decode code 734 = .ok (.iadd, 1) := o96 ac_code_720 14 rfl
theorem dL_law_735 : decode code 735 = .ok (.iaload, 1) := o46 ac_code_720 15 rfl
def kb_code_736 : List Nat := [182, 0, 96, 87, 167, 2, 86, 43, 42, 29, 4, 96, 46, 182, 0, 97, 87, 44, 42, 29]
theorem ac_code_736 : AL code 736 kb_code_736 := AL.of (m := 20) (by decide +kernel)
theorem dL_law_736 : decode code 736 = .ok (.invokevirtual 96, 3) := o182 ac_code_736 0 0 96 rfl
theorem dL_law_739 : decode code 739 = .ok (.pop, 1) := o87 ac_code_736 3 rfl
theorem dL_law_740 : decode code 740 = .ok (.goto 598, 3) := o167p ac_code_736 4 2 86 rfl rfl
theorem dL_law_743 : decode code 743 = .ok (.aload_n 1, 1) := o43 ac_code_736 7 rfl
theorem dL_law_744 : decode code 744 = .ok (.aload_n 0, 1) := o42 ac_code_736 8 rfl
theorem dL_law_745 : decode code 745 = .ok (.iload_n 3, 1) := o29 ac_code_736 9 rfl
theorem dL_law_746 : decode code 746 = .ok (.iconst 1, 1) := o4 ac_code_736 10 rfl
theorem dL_law_747 : decode code 747 = .ok (.iadd, 1) := o96 ac_code_736 11 rfl
theorem dL_law_748 : decode code 748 = .ok (.iaload, 1) := o46 ac_code_736 12 rfl
theorem dL_law_749 : decode code 749 = .ok (.invokevirtual 97, 3) := o182 ac_code_736 13 0 97 rfl
def kb_code_752 : List Nat := [87, 44, 42, 29, 4, 96, 46, 182, 0, 100, 87, 167, 2, 63, 43, 42, 29, 4, 96, 46]
theorem ac_code_752 : AL code 752 kb_code_752 := AL.of (m := 20) (by decide +kernel)
theorem dL_law_752 : decode code 752 = .ok (.pop, 1) := o87 ac_code_752 0 rfl
theorem dL_law_753 : decode code 753 = .ok (.aload_n 2, 1) := o44 ac_code_752 1 rfl
theorem dL_law_754 : decode code 754 = .ok (.aload_n 0, 1) := o42 ac_code_752 2 rfl
theorem dL_law_755 : decode code 755 = .ok (.iload_n 3, 1) := o29 ac_code_752 3 rfl
theorem dL_law_756 : decode code 756 = .ok (.iconst 1, 1) := o4 ac_code_752 4 rfl
theorem dL_law_757 : decode code 757 = .ok (.iadd, 1) := o96 ac_code_752 5 rfl
theorem dL_law_758 : decode code 758 = .ok (.iaload, 1) := o46 ac_code_752 6 rfl
theorem dL_law_759 : decode code 759 = .ok (.invokevirtual 100, 3) := o182 ac_code_752 7 0 100 rfl
theorem dL_law_762 : decode code 762 = .ok (.pop, 1) := o87 ac_code_752 10 rfl
theorem dL_law_763 : decode code 763 = .ok (.goto 575, 3) := o167p ac_code_752 11 2 63 rfl rfl
theorem dL_law_766 : decode code 766 = .ok (.aload_n 1, 1) := o43 ac_code_752 14 rfl
theorem dL_law_767 : decode code 767 = .ok (.aload_n 0, 1) := o42 ac_code_752 15 rfl
def kb_code_768 : List Nat := [29, 4, 96, 46, 182, 0, 101, 87, 44, 42, 29, 4, 96, 46, 182, 0, 104, 87, 167, 2]
theorem ac_code_768 : AL code 768 kb_code_768 := AL.of (m := 20) (by decide +kernel)
theorem dL_law_768 : decode code 768 = .ok (.iload_n 3, 1) := o29 ac_code_768 0 rfl
theorem dL_law_769 : decode code 769 = .ok (.iconst 1, 1) := o4 ac_code_768 1 rfl
theorem dL_law_770 : decode code 770 = .ok (.iadd, 1) := o96 ac_code_768 2 rfl
theorem dL_law_771 : decode code 771 = .ok (.iaload, 1) := o46 ac_code_768 3 rfl
theorem dL_law_772 : decode code 772 = .ok (.invokevirtual 101, 3) := o182 ac_code_768 4 0 101 rfl
theorem dL_law_775 : decode code 775 = .ok (.pop, 1) := o87 ac_code_768 7 rfl
theorem dL_law_776 : decode code 776 = .ok (.aload_n 2, 1) := o44 ac_code_768 8 rfl
theorem dL_law_777 : decode code 777 = .ok (.aload_n 0, 1) := o42 ac_code_768 9 rfl
theorem dL_law_778 : decode code 778 = .ok (.iload_n 3, 1) := o29 ac_code_768 10 rfl
theorem dL_law_779 : decode code 779 = .ok (.iconst 1, 1) := o4 ac_code_768 11 rfl
theorem dL_law_780 : decode code 780 = .ok (.iadd, 1) := o96 ac_code_768 12 rfl
theorem dL_law_781 : decode code 781 = .ok (.iaload, 1) := o46 ac_code_768 13 rfl
theorem dL_law_782 : decode code 782 = .ok (.invokevirtual 104, 3) := o182 ac_code_768 14 0 104 rfl
def kb_code_784 : List Nat := [104, 87, 167, 2, 40, 43, 42, 29, 4, 96, 46, 182, 0, 105, 87, 44, 42, 29, 4, 96]
theorem ac_code_784 : AL code 784 kb_code_784 := AL.of (m := 20) (by decide +kernel)
theorem dL_law_785 : decode code 785 = .ok (.pop, 1) := o87 ac_code_784 1 rfl
theorem dL_law_786 : decode code 786 = .ok (.goto 552, 3) := o167p ac_code_784 2 2 40 rfl rfl
theorem dL_law_789 : decode code 789 = .ok (.aload_n 1, 1) := o43 ac_code_784 5 rfl
theorem dL_law_790 : decode code 790 = .ok (.aload_n 0, 1) := o42 ac_code_784 6 rfl
theorem dL_law_791 : decode code 791 = .ok (.iload_n 3, 1) := o29 ac_code_784 7 rfl
theorem dL_law_792 : decode code 792 = .ok (.iconst 1, 1) := o4 ac_code_784 8 rfl
theorem dL_law_793 : decode code 793 = .ok (.iadd, 1) := o96 ac_code_784 9 rfl
theorem dL_law_794 : decode code 794 = .ok (.iaload, 1) := o46 ac_code_784 10 rfl
theorem dL_law_795 : decode code 795 = .ok (.invokevirtual 105, 3) := o182 ac_code_784 11 0 105 rfl
theorem dL_law_798 : decode code 798 = .ok (.pop, 1) := o87 ac_code_784 14 rfl
theorem dL_law_799 : decode code 799 = .ok (.aload_n 2, 1) := o44 ac_code_784 15 rfl
def kb_code_800 : List Nat := [42, 29, 4, 96, 46, 182, 0, 108, 87, 167, 2, 17, 43, 42, 29, 4, 96, 46, 182, 0]
theorem ac_code_800 : AL code 800 kb_code_800 := AL.of (m := 20) (by decide +kernel)
theorem dL_law_800 : decode code 800 = .ok (.aload_n 0, 1) := o42 ac_code_800 0 rfl
theorem dL_law_801 : decode code 801 = .ok (.iload_n 3, 1) := o29 ac_code_800 1 rfl
theorem dL_law_802 : decode code 802 = .ok (.iconst 1, 1) := o4 ac_code_800 2 rfl
theorem dL_law_803 : decode code 803 = .ok (.iadd, 1) := o96 ac_code_800 3 rfl
theorem dL_law_804 : decode code 804 = .ok (.iaload, 1) := o46 ac_code_800 4 rfl
theorem dL_law_805 : decode code 805 = .ok (.invokevirtual 108, 3) := o182 ac_code_800 5 0 108 rfl
theorem dL_law_808 : decode code 808 = .ok (.pop, 1) := o87 ac_code_800 8 rfl
theorem dL_law_809 : decode code 809 = .ok (.goto 529, 3) := o167p ac_code_800 9 2 17 rfl rfl
theorem dL_law_812 : decode code 812 = .ok (.aload_n 1, 1) := o43 ac_code_800 12 rfl
theorem dL_law_813 : decode code 813 = .ok (.aload_n 0, 1) := o42 ac_code_800 13 rfl
theorem dL_law_814 : decode code 814 = .ok (.iload_n 3, 1) := o29 ac_code_800 14 rfl
theorem dL_law_815 : decode code 815 = .ok (.iconst 1, 1) := o4 ac_code_800 15 rfl
def kb_code_816 : List Nat := [96, 46, 182, 0, 109, 87, 44, 42, 29, 4, 96, 46, 182, 0, 112, 87, 167, 1, 250, 43]
theorem ac_code_816 : AL code 816 kb_code_816 := AL.of (m := 20) (by decide +kernel)
theorem dL_law_816 : decode code 816 = .ok (.iadd, 1) := o96 ac_code_816 0 rfl
theorem dL_law_817 : decode code 817 = .ok (.iaload, 1) := o46 ac_code_816 1 rfl
theorem dL_law_818 : decode code 818 = .ok (.invokevirtual 109, 3) := o182 ac_code_816 2 0 109 rfl
theorem dL_law_821 : decode code 821 = .ok (.pop, 1) := o87 ac_code_816 5 rfl
theorem dL_law_822 : decode code 822 = .ok (.aload_n 2, 1) := o44 ac_code_816 6 rfl
theorem dL_law_823 : decode code 823 = .ok (.aload_n 0, 1) := o42 ac_code_816 7 rfl
theorem dL_law_824 : decode code 824 = .ok (.iload_n 3, 1) := o29 ac_code_816 8 rfl
theorem dL_law_825 : decode code 825 = .ok (.iconst 1, 1) := o4 ac_code_816 9 rfl
theorem dL_law_826 : decode code 826 = .ok (.iadd, 1) := o96 ac_code_816 10 rfl
theorem dL_law_827 : decode code 827 = .ok (.iaload, 1) := o46 ac_code_816 11 rfl
theorem dL_law_828 : decode code 828 = .ok (.invokevirtual 112, 3) := o182 ac_code_816 12 0 112 rfl
theorem dL_law_831 : decode code 831 = .ok (.pop, 1) := o87 ac_code_816 15 rfl
def kb_code_832 : List Nat := [167, 1, 250, 43, 182, 0, 113, 87, 44, 182, 0, 116, 87, 167, 1, 237, 43, 42, 29, 4]
theorem ac_code_832 : AL code 832 kb_code_832 := AL.of (m := 20) (by decide +kernel)
theorem dL_law_832 : decode code 832 = .ok (.goto 506, 3) := o167p ac_code_832 0 1 250 rfl rfl
theorem dL_law_835 : decode code 835 = .ok (.aload_n 1, 1) := o43 ac_code_832 3 rfl
theorem dL_law_836 : decode code 836 = .ok (.invokevirtual 113, 3) := o182 ac_code_832 4 0 113 rfl
theorem dL_law_839 : decode code 839 = .ok (.pop, 1) := o87 ac_code_832 7 rfl
theorem dL_law_840 : decode code 840 = .ok (.aload_n 2, 1) := o44 ac_code_832 8 rfl
theorem dL_law_841 : decode code 841 = .ok (.invokevirtual 116, 3) := o182 ac_code_832 9 0 116 rfl
theorem dL_law_844 : decode code 844 = .ok (.pop, 1) := o87 ac_code_832 12 rfl
theorem dL_law_845 : decode code 845 = .ok (.goto 493, 3) := o167p ac_code_832 13 1 237 rfl rfl
def kb_code_848 : List Nat := [43, 42, 29, 4, 96, 46, 182, 0, 117, 87, 44, 42, 29, 4, 96, 46, 182, 0, 120, 87]
theorem ac_code_848 : AL code 848 kb_code_848 := AL.of (m := 20) (by decide +kernel)
theorem dL_law_848 : decode code 848 = .ok (.aload_n 1, 1) := o43 ac_code_848 0 rfl
theorem dL_law_849 : decode code 849 = .ok (.aload_n 0, 1) := o42 ac_code_848 1 rfl
theorem dL_law_850 : decode code 850 = .ok (.iload_n 3, 1) := o29 ac_code_848 2 rfl
theorem dL_law_851 : decode code 851 = .ok (.iconst 1, 1) := o4 ac_code_848 3 rfl
theorem dL_law_852 : decode code 852 = .ok (.iadd, 1) := o96 ac_code_848 4 rfl
theorem dL_law_853 : decode code 853 = .ok (.iaload, 1) := o46 ac_code_848 5 rfl
theorem dL_law_854 : decode code 854 = .ok (.invokevirtual 117, 3) := o182 ac_code_848 6 0 117 rfl
theorem dL_law_857 : decode code 857 = .ok (.pop, 1) := o87 ac_code_848 9 rfl
theorem dL_law_858 : decode code 858 = .ok (.aload_n 2, 1) := o44 ac_code_848 10 rfl
theorem dL_law_859 : decode code 859 = .ok (.aload_n 0, 1) := o42 ac_code_848 11 rfl
theorem dL_law_860 : decode code 860 = .ok (.iload_n 3, 1) := o29 ac_code_848 12 rfl
theorem dL_law_861 : decode code 861 = .ok (.iconst 1, 1) := o4 ac_code_848 13 rfl
theorem dL_law_862 : decode code 862 = .ok (.iadd, 1) := o96 ac_code_848 14 rfl
theorem dL_law_863 : decode code 863 = .ok (.iaload, 1) := o46 ac_code_848 15 rfl
def kb_code_864 : List Nat := [182, 0, 120, 87, 167, 1, 214, 43, 42, 29, 4, 96, 46, 42, 29, 5, 96, 46, 182, 0]
theorem ac_code_864 : AL code 864 kb_code_864 := AL.of (m := 20) (by decide +kernel)
theorem dL_law_864 : decode code 864 = .ok (.invokevirtual 120, 3) := o182 ac_code_864 0 0 120 rfl
theorem dL_law_867 : decode code 867 = .ok (.pop, 1) := o87 ac_code_864 3 rfl
theorem dL_law_868 : decode code 868 = .ok (.goto 470, 3) := o167p ac_code_864 4 1 214 rfl rfl
theorem dL_law_871 : decode code 871 = .ok (.aload_n 1, 1) := o43 ac_code_864 7 rfl
theorem dL_law_872 : decode code 872 = .ok (.aload_n 0, 1) := o42 ac_code_864 8 rfl
theorem dL_law_873 : decode code 873 = .ok (.iload_n 3, 1) := o29 ac_code_864 9 rfl
theorem dL_law_874 : decode code 874 = .ok (.iconst 1, 1) := o4 ac_code_864 10 rfl
theorem dL_law_875 : decode code 875 = .ok (.iadd, 1) := o96 ac_code_864 11 rfl
theorem dL_law_876 : decode code 876 = .ok (.iaload, 1) := o46 ac_code_864 12 rfl
theorem dL_law_877 : decode code 877 = .ok (.aload_n 0, 1) := o42 ac_code_864 13 rfl
theorem dL_law_878 : decode code 878 = .ok (.iload_n 3, 1) := o29 ac_code_864 14 rfl
theorem dL_law_879 : decode code 879 = .ok (.iconst 2, 1) := o5 ac_code_864 15 rfl
def kb_code_880 : List Nat := [96, 46, 182, 0, 121, 87, 44, 42, 29, 4, 96, 46, 42, 29, 5, 96, 46, 182, 0, 124]
theorem ac_code_880 : AL code 880 kb_code_880 := AL.of (m := 20) (by decide +kernel)
theorem dL_law_880 : decode code 880 = .ok (.iadd, 1) := o96 ac_code_880 0 rfl
theorem dL_law_881 : decode code 881 = .ok (.iaload, 1) := o46 ac_code_880 1 rfl
theorem dL_law_882 : decode code 882 = .ok (.invokevirtual 121, 3) := o182 ac_code_880 2 0 121 rfl
theorem dL_law_885 : decode code 885 = .ok (.pop, 1) := o87 ac_code_880 5 rfl
theorem dL_law_886 : decode code 886 = .ok (.aload_n 2, 1) := o44 ac_code_880 6 rfl
theorem dL_law_887 : decode code 887 = .ok (.aload_n 0, 1) := o42 ac_code_880 7 rfl
theorem dL_law_888 : decode code 888 = .ok (.iload_n 3, 1) := o29 ac_code_880 8 rfl
theorem dL_law_889 : decode code 889 = .ok (.iconst 1, 1) := o4 ac_code_880 9 rfl
theorem dL_law_890 : decode code 890 = .ok (.iadd, 1) := o96 ac_code_880 10 rfl
theorem dL_law_891 : decode code 891 = .ok (.iaload, 1) := o46 ac_code_880 11 rfl
theorem dL_law_892 : decode code 892 = .ok (.aload_n 0, 1) := o42 ac_code_880 12 rfl
theorem dL_law_893 : decode code 893 = .ok (.iload_n 3, 1) := o29 ac_code_880 13 rfl
theorem dL_law_894 : decode code 894 = .ok (.iconst 2, 1) := o5 ac_code_880 14 rfl
theorem dL_law_895 : decode code 895 = .ok (.iadd, 1) := o96 ac_code_880 15 rfl
def kb_code_896 : List Nat := [46, 182, 0, 124, 87, 167, 1, 181, 43, 42, 29, 4, 96, 46, 182, 0, 125, 87, 44, 42]
theorem ac_code_896 : AL code 896 kb_code_896 := AL.of (m := 20) (by decide +kernel)
theorem dL_law_896 : decode code 896 = .ok (.iaload, 1) := o46 ac_code_896 0 rfl
theorem dL_law_897 : decode code 897 = .ok (.invokevirtual 124, 3) := o182 ac_code_896 1 0 124 rfl
theorem dL_law_900 : decode code 900 = .ok (.pop, 1) := o87 ac_code_896 4 rfl
theorem dL_law_901 : decode code 901 = .ok (.goto 437, 3) := o167p ac_code_896 5 1 181 rfl rfl
theorem dL_law_904 : decode code 904 = .ok (.aload_n 1, 1) := o43 ac_code_896 8 rfl
theorem dL_law_905 : decode code 905 = .ok (.aload_n 0, 1) := o42 ac_code_896 9 rfl
theorem dL_law_906 : decode code 906 = .ok (.iload_n 3, 1) := o29 ac_code_896 10 rfl
theorem dL_law_907 : decode code 907 = .ok (.iconst 1, 1) := o4 ac_code_896 11 rfl
theorem dL_law_908 : decode code 908 = .ok (.iadd, 1) := o96 ac_code_896 12 rfl
theorem dL_law_909 : decode code 909 = .ok (.iaload, 1) := o46 ac_code_896 13 rfl
theorem dL_law_910 : decode code 910 = .ok (.invokevirtual 125, 3) := o182 ac_code_896 14 0 125 rfl
def kb_code_912 : List Nat := [125, 87, 44, 42, 29, 4, 96, 46, 182, 0, 128, 87, 167, 1, 158, 43, 182, 0, 129, 87]
theorem ac_code_912 : AL code 912 kb_code_912 := AL.of (m := 20) (by decide +kernel)
theorem dL_law_913 : decode code 913 = .ok (.pop, 1) := o87 ac_code_912 1 rfl
theorem dL_law_914 : decode code 914 = .ok (.aload_n 2, 1) := o44 ac_code_912 2 rfl
theorem dL_law_915 : decode code 915 = .ok (.aload_n 0, 1) := o42 ac_code_912 3 rfl
theorem dL_law_916 : decode code 916 = .ok (.iload_n 3, 1) := o29 ac_code_912 4 rfl
theorem dL_law_917 : decode code 917 = .ok (.iconst 1, 1) := o4 ac_code_912 5 rfl
theorem dL_law_918 : decode code 918 = .ok (.iadd, 1) := o96 ac_code_912 6 rfl
theorem dL_law_919 : decode code 919 = .ok (.iaload, 1) := o46 ac_code_912 7 rfl
theorem dL_law_920 : decode code 920 = .ok (.invokevirtual 128, 3) := o182 ac_code_912 8 0 128 rfl
theorem dL_law_923 : decode code 923 = .ok (.pop, 1) := o87 ac_code_912 11 rfl
theorem dL_law_924 : decode code 924 = .ok (.goto 414, 3) := o167p ac_code_912 12 1 158 rfl rfl
theorem dL_law_927 : decode code 927 = .ok (.aload_n 1, 1) := o43 ac_code_912 15 rfl
def kb_code_928 : List Nat := [182, 0, 129, 87, 44, 182, 0, 132, 87, 167, 1, 145, 43, 42, 29, 4, 96, 46, 182, 0]
theorem ac_code_928 : AL code 928 kb_code_928 := AL.of (m := 20) (by decide +kernel)
theorem dL_law_928 : decode code 928 = .ok (.invokevirtual 129, 3) := o182 ac_code_928 0 0 129 rfl
theorem dL_law_931 : decode code 931 = .ok (.pop, 1) := o87 ac_code_928 3 rfl
theorem dL_law_932 : decode code 932 = .ok (.aload_n 2, 1) := o44 ac_code_928 4 rfl
theorem dL_law_933 : decode code 933 = .ok (.invokevirtual 132, 3) := o182 ac_code_928 5 0 132 rfl
theorem dL_law_936 : decode code 936 = .ok (.pop, 1) := o87 ac_code_928 8 rfl
theorem dL_law_937 : decode code 937 = .ok (.goto 401, 3) := o167p ac_code_928 9 1 145 rfl rfl
theorem dL_law_940 : decode code 940 = .ok (.aload_n 1, 1) := o43 ac_code_928 12 rfl
theorem dL_law_941 : decode code 941 = .ok (.aload_n 0, 1) := o42 ac_code_928 13 rfl
theorem dL_law_942 : decode code 942 = .ok (.iload_n 3, 1) := o29 ac_code_928 14 rfl
theorem dL_law_943 : decode code 943 = .ok (.iconst 1, 1) := o4 ac_code_928 15 rfl
def kb_code_944 : List Nat := [96, 46, 182, 0, 133, 87, 44, 42, 29, 4, 96, 46, 182, 0, 136, 87, 167, 1, 122, 43]
theorem ac_code_944 : AL code 944 kb_code_944 := AL.of (m := 20) (by decide +kernel)
theorem dL_law_944 : decode code 944 = .ok (.iadd, 1) := o96 ac_code_944 0 rfl
theorem dL_law_945 : decode code 945 = .ok (.iaload, 1) := o46 ac_code_944 1 rfl
theorem dL_law_946 : decode code 946 = .ok (.invokevirtual 133, 3) := o182 ac_code_944 2 0 133 rfl
theorem dL_law_949 : decode code 949 = .ok (.pop, 1) := o87 ac_code_944 5 rfl
theorem dL_law_950 : decode code 950 = .ok (.aload_n 2, 1) := o44 ac_code_944 6 rfl
theorem dL_law_951 : decode code 951 = .ok (.aload_n 0, 1) := o42 ac_code_944 7 rfl
theorem dL_law_952 : decode code 952 = .ok (.iload_n 3, 1) := o29 ac_code_944 8 rfl
theorem dL_law_953 : decode code 953 = .ok (.iconst 1, 1) := o4 ac_code_944 9 rfl
theorem dL_law_954 : decode code 954 = .ok (.iadd, 1) := o96 ac_code_944 10 rfl
theorem dL_law_955 : decode code 955 = .ok (.iaload, 1) := o46 ac_code_944 11 rfl
theorem dL_law_956 : decode code 956 = .ok (.invokevirtual 136, 3) := o182 ac_code_944 12 0 136 rfl
theorem dL_law_959 : decode code 959 = .ok (.pop, 1) := o87 ac_code_944 15 rfl
def kb_code_960 : List Nat := [167, 1, 122, 43, 42, 29, 4, 96, 46, 42, 29, 5, 96, 46, 42, 29, 6, 96, 46, 42]
theorem ac_code_960 : AL code 960 kb_code_960 := AL.of (m := 20) (by decide +kernel)
theorem dL_law_960 : decode code 960 = .ok (.goto 378, 3) := o167p ac_code_960 0 1 122 rfl rfl
theorem dL_law_963 : decode code 963 = .ok (.aload_n 1, 1) := o43 ac_code_960 3 rfl
theorem dL_law_964 : decode code 964 = .ok (.aload_n 0, 1) := o42 ac_code_960 4 rfl
theorem dL_law_965 : decode code 965 = .ok (.iload_n 3, 1) := o29 ac_code_960 5 rfl
theorem dL_law_966 : decode code 966 = .ok (.iconst 1, 1) := o4 ac_code_960 6 rfl
theorem dL_law_967 : decode code 967 = .ok (.iadd, 1) := o96 ac_code_960 7 rfl
theorem dL_law_968 : decode code 968 = .ok (.iaload, 1) := o46 ac_code_960 8 rfl
theorem dL_law_969 : decode code 969 = .ok (.aload_n 0, 1) := o42 ac_code_960 9 rfl
theorem dL_law_970 : decode code 970 = .ok (.iload_n 3, 1) := o29 ac_code_960 10 rfl
theorem dL_law_971 : decode code 971 = .ok (.iconst 2, 1) := o5 ac_code_960 11 rfl
theorem dL_law_972 : decode code 972 = .ok (.iadd, 1) := o96 ac_code_960 12 rfl
theorem dL_law_973 : decode code 973 = .ok (.iaload, 1) := o46 ac_code_960 13 rfl
theorem dL_law_974 : decode code 974 = .ok (.aload_n 0, 1) := o42 ac_code_960 14 rfl
theorem dL_law_975 : decode code 975 = .ok (.iload_n 3, 1) := o29 ac_code_960 15 rfl
def kb_code_976 : List Nat := [6, 96, 46, 42, 29, 7, 96, 46, 182, 0, 137, 87, 44, 42, 29, 4, 96, 46, 42, 29]
theorem ac_code_976 : AL code 976 kb_code_976 := AL.of (m := 20) (by decide +kernel)
theorem dL_law_976 : decode code 976 = .ok (.iconst 3, 1) := o6 ac_code_976 0 rfl
theorem dL_law_977 : decode code 977 = .ok (.iadd, 1) := o96 ac_code_976 1 rfl
theorem dL_law_978 : decode code 978 = .ok (.iaload, 1) := o46 ac_code_976 2 rfl
theorem dL_law_979 : decode code 979 = .ok (.aload_n 0, 1) := o42 ac_code_976 3 rfl
theorem dL_law_980 : decode code 980 = .ok (.iload_n 3, 1) := o29 ac_code_976 4 rfl
theorem dL_law_981 : decode code 981 = .ok (.iconst 4, 1) := o7 ac_code_976 5 rfl
theorem dL_law_982 : decode code 982 = .ok (.iadd, 1) := o96 ac_code_976 6 rfl
theorem dL_law_983 : decode code 983 = .ok (.iaload, 1) := o46 ac_code_976 7 rfl
theorem dL_law_984 : decode code 984 = .ok (.invokevirtual 137, 3) := o182 ac_code_976 8 0 137 rfl
theorem dL_law_987 : decode code 987 = .ok (.pop, 1) := o87 ac_code_976 11 rfl
theorem dL_law_988 : decode code 988 = .ok (.aload_n 2, 1) := o44 ac_code_976 12 rfl
theorem dL_law_989 : decode code 989 = .ok (.aload_n 0, 1) := o42 ac_code_976 13 rfl
theorem dL_law_990 : decode code 990 = .ok (.iload_n 3, 1) := o29 ac_code_976 14 rfl
theorem dL_law_991 : decode code 991 = .ok (.iconst 1, 1) := o4 ac_code_976 15 rfl
def kb_code_992 : List Nat := [96, 46, 42, 29, 5, 96, 46, 42, 29, 6, 96, 46, 42, 29, 7, 96, 46, 182, 0, 141]
theorem ac_code_992 : AL code 992 kb_code_992 := AL.of (m := 20) (by decide +kernel)
theorem dL_law_992 : decode code 992 = .ok (.iadd, 1) := o96 ac_code_992 0 rfl
theorem dL_law_993 : decode code 993 = .ok (.iaload, 1) := o46 ac_code_992 1 rfl
theorem dL_law_994 : decode code 994 = .ok (.aload_n 0, 1) := o42 ac_code_992 2 rfl
theorem dL_law_995 : decode code 995 = .ok (.iload_n 3, 1) := o29 ac_code_992 3 rfl
theorem dL_law_996 : decode code 996 = .ok (.iconst 2, 1) := o5 ac_code_992 4 rfl
theorem dL_law_997 : decode code 997 = .ok (.iadd, 1) := o96 ac_code_992 5 rfl
theorem dL_law_998 : decode code 998 = .ok (.iaload, 1) := o46 ac_code_992 6 rfl
theorem dL_law_999 : decode code 999 = .ok (.aload_n 0, 1) := o42 ac_code_992 7 rfl
theorem dL_law_1000 : decode code 1000 = .ok (.iload_n 3, 1) := o29 ac_code_992 8 rfl
theorem dL_law_1001 : decode code 1001 = .ok (.iconst 3, 1) := o6 ac_code_992 9 rfl
theorem dL_law_1002 : decode code 1002 = .ok (.iadd, 1) := o96 ac_code_992 10 rfl
theorem dL_law_1003 : decode code 1003 = .ok (.iaload, 1) := o46 ac_code_992 11 rfl
theorem dL_law_1004 : decode code 1004 = .ok (.aload_n 0, 1) := o42 ac_code_992 12 rfl
theorem dL_law_1005 : decode code 1005 = .ok (.iload_n 3, 1) := o29 ac_code_992 13 rfl
theorem dL_law_1006 : decode code 1006 = .ok (.iconst 4, 1) := o7 ac_code_992 14 rfl
theorem dL_law_1007 : decode code 1007 = .ok (.iadd, 1) := o96 ac_code_992 15 rfl
def kb_code_1008 : List Nat := [46, 182, 0, 141, 87, 167, 1, 69, 43, 42, 29, 4, 96, 46, 42, 29, 5, 96, 46, 182]
theorem ac_code_1008 : AL code 1008 kb_code_1008 := AL.of (m := 20) (by decide +kernel)
theorem dL_law_1008 : decode code 1008 = .ok (.iaload, 1) := o46 ac_code_1008 0 rfl
theorem dL_law_1009 : decode code 1009 = .ok (.invokevirtual 141, 3) := o182 ac_code_1008 1 0 141 rfl
theorem dL_law_1012 : decode code 1012 = .ok (.pop, 1) := o87 ac_code_1008 4 rfl
theorem dL_law_1013 : decode code 1013 = .ok (.goto 325, 3) := o167p ac_code_1008 5 1 69 rfl rfl
theorem dL_law_1016 : decode code 1016 = .ok (.aload_n 1, 1) := o43 ac_code_1008 8 rfl
theorem dL_law_1017 : decode code 1017 = .ok (.aload_n 0, 1) := o42 ac_code_1008 9 rfl
theorem dL_law_1018 : decode code 1018 = .ok (.iload_n 3, 1) := o29 ac_code_1008 10 rfl
theorem dL_law_1019 : decode code 1019 = .ok (.iconst 1, 1) := o4 ac_code_1008 11 rfl
theorem dL_law_1020 : decode code 1020 = .ok (.iadd, 1) := o96 ac_code_1008 12 rfl
theorem dL_law_1021 : decode code 1021 = .ok (.iaload, 1) := o46 ac_code_1008 13 rfl
theorem dL_law_1022 : decode code 1022 = .ok (.aload_n 0, 1) := o42 ac_code_1008 14 rfl
theorem dL_law_1023 : decode code 1023 = .ok (.iload_n 3, 1) := o29 ac_code_1008 15 rfl
def kb_code_1024 : List Nat := [5, 96, 46, 182, 0, 142, 87, 44, 42, 29, 4, 96, 46, 42, 29, 5, 96, 46, 182, 0]
theorem ac_code_1024 : AL code 1024 kb_code_1024 := AL.of (m := 20) (by decide +kernel)
theorem dL_law_1024 : decode code 1024 = .ok (.iconst 2, 1) := o5 ac_code_1024 0 rfl
theorem dL_law_1025 : decode code 1025 = .ok (.iadd, 1) := o96 ac_code_1024 1 rfl
theorem dL_law_1026 : decode code 1026 = .ok (.iaload, 1) := o46 ac_code_1024 2 rfl
theorem dL_law_1027 : decode code 1027 = .ok (.invokevirtual 142, 3) := o182 ac_code_1024 3 0 142 rfl
theorem dL_law_1030 : decode code 1030 = .ok (.pop, 1) := o87 ac_code_1024 6 rfl
theorem dL_law_1031 : decode code 1031 = .ok (.aload_n 2, 1) := o44 ac_code_1024 7 rfl
theorem dL_law_1032 : decode code 1032 = .ok (.aload_n 0, 1) := o42 ac_code_1024 8 rfl
theorem dL_law_1033 : decode code 1033 = .ok (.iload_n 3, 1) := o29 ac_code_1024 9 rfl
theorem dL_law_1034 : decode code 1034 = .ok (.iconst 1, 1) := o4 ac_code_1024 10 rfl
theorem dL_law_1035 : decode code 1035 = .ok (.iadd, 1) := o96 ac_code_1024 11 rfl
theorem dL_law_1036 : decode code 1036 = .ok (.iaload, 1) := o46 ac_code_1024 12 rfl
theorem dL_law_1037 : decode code 1037 = .ok (.aload_n 0, 1) := o42 ac_code_1024 13 rfl
theorem dL_law_1038 : decode code 1038 = .ok (.iload_n 3, 1) := o29 ac_code_1024 14 rfl
theorem dL_law_1039 : decode code 1039 = .ok (.iconst 2, 1) := o5 ac_code_1024 15 rfl
def kb_code_1040 : List Nat := [96, 46, 182, 0, 145, 87, 167, 1, 36, 43, 42, 29, 4, 96, 46, 182, 0, 146, 87, 44]
theorem ac_code_1040 : AL code 1040 kb_code_1040 := AL.of (m := 20) (by decide +kernel)
theorem dL_law_1040 : decode code 1040 = .ok (.iadd, 1) := o96 ac_code_1040 0 rfl
theorem dL_law_1041 : decode code 1041 = .ok (.iaload, 1) := o46 ac_code_1040 1 rfl
theorem dL_law_1042 : decode code 1042 = .ok (.invokevirtual 145, 3) := o182 ac_code_1040 2 0 145 rfl
theorem dL_law_1045 : decode code 1045 = .ok (.pop, 1) := o87 ac_code_1040 5 rfl
theorem dL_law_1046 : decode code 1046 = .ok (.goto 292, 3) := o167p ac_code_1040 6 1 36 rfl rfl
theorem dL_law_1049 : decode code 1049 = .ok (.aload_n 1, 1) := o43 ac_code_1040 9 rfl
theorem dL_law_1050 : decode code 1050 = .ok (.aload_n 0, 1) := o42 ac_code_1040 10 rfl
theorem dL_law_1051 : decode code 1051 = .ok (.iload_n 3, 1) := o29 ac_code_1040 11 rfl
theorem dL_law_1052 : decode code 1052 = .ok (.iconst 1, 1) := o4 ac_code_1040 12 rfl
theorem dL_law_1053 : decode code 1053 = .ok (.iadd, 1) := o96 ac_code_1040 13 rfl
theorem dL_law_1054 : decode code 1054 = .ok (.iaload, 1) := o46 ac_code_1040 14 rfl
theorem dL_law_1055 : decode code 1055 = .ok (.invokevirtual 146, 3) := o182 ac_code_1040 15 0 146 rfl
def kb_code_1056 : List Nat := [0, 146, 87, 44, 42, 29, 4, 96, 46, 182, 0, 149, 87, 167, 1, 13, 43, 182, 0, 150]
theorem ac_code_1056 : AL code 1056 kb_code_1056 := AL.of (m := 20) (by decide +kernel)
theorem dL_law_1058 : decode code 1058 = .ok (.pop, 1) := o87 ac_code_1056 2 rfl
theorem dL_law_1059 : decode code 1059 = .ok (.aload_n 2, 1) := o44 ac_code_1056 3 rfl
theorem dL_law_1060 : decode code 1060 = .ok (.aload_n 0, 1) := o42 ac_code_1056 4 rfl
theorem dL_law_1061 : decode code 1061 = .ok (.iload_n 3, 1) := o29 ac_code_1056 5 rfl
theorem dL_law_1062 : decode code 1062 = .ok (.iconst 1, 1) := o4 ac_code_1056 6 rfl
theorem dL_law_1063 : decode code 1063 = .ok (.iadd, 1) := o96 ac_code_1056 7 rfl
theorem dL_law_1064 : decode code 1064 = .ok (.iaload, 1) := o46 ac_code_1056 8 rfl
theorem dL_law_1065 : decode code 1065 = .ok (.invokevirtual 149, 3) := o182 ac_code_1056 9 0 149 rfl
theorem dL_law_1068 : decode code 1068 = .ok (.pop, 1) := o87 ac_code_1056 12 rfl
theorem dL_law_1069 : decode code 1069 = .ok (.goto 269, 3) := o167p ac_code_1056 13 1 13 rfl rfl
def kb_code_1072 : List Nat := [43, 182, 0, 150, 87, 44, 182, 0, 153, 87, 167, 1, 0, 43, 42, 29, 4, 96, 46, 42]
theorem ac_code_1072 : AL code 1072 kb_code_1072 := AL.of (m := 20) (by decide +kernel)
theorem dL_law_1072 : decode code 1072 = .ok (.aload_n 1, 1) := o43 ac_code_1072 0 rfl
theorem dL_law_1073 : decode code 1073 = .ok (.invokevirtual 150, 3) := o182 ac_code_1072 1 0 150 rfl
theorem dL_law_1076 : decode code 1076 = .ok (.pop, 1) := o87 ac_code_1072 4 rfl
theorem dL_law_1077 : decode code 1077 = .ok (.aload_n 2, 1) := o44 ac_code_1072 5 rfl
theorem dL_law_1078 : decode code 1078 = .ok (.invokevirtual 153, 3) := o182 ac_code_1072 6 0 153 rfl
theorem dL_law_1081 : decode code 1081 = .ok (.pop, 1) := o87 ac_code_1072 9 rfl
theorem dL_law_1082 : decode code 1082 = .ok (.goto 256, 3) := o167p ac_code_1072 10 1 0 rfl rfl
theorem dL_law_1085 : decode code 1085 = .ok (.aload_n 1, 1) := o43 ac_code_1072 13 rfl
theorem dL_law_1086 : decode code 1086 = .ok (.aload_n 0, 1) := o42 ac_code_1072 14 rfl
theorem dL_law_1087 : decode code 1087 = .ok (.iload_n 3, 1) := o29 ac_code_1072 15 rfl
def kb_code_1088 : List Nat := [4, 96, 46, 42, 29, 5, 96, 46, 182, 0, 154, 87, 44, 42, 29, 4, 96, 46, 42, 29]
theorem ac_code_1088 : AL code 1088 kb_code_1088 := AL.of (m := 20) (by decide +kernel)
theorem dL_law_1088 : decode code 1088 = .ok (.iconst 1, 1) := o4 ac_code_1088 0 rfl
theorem dL_law_1089 : decode code 1089 = .ok (.iadd, 1) := o96 ac_code_1088 1 rfl
theorem dL_law_1090 : decode code 1090 = .ok (.iaload, 1) := o46 ac_code_1088 2 rfl
theorem dL_law_1091 : decode code 1091 = .ok (.aload_n 0, 1) := o42 ac_code_1088 3 rfl
theorem dL_law_1092 : decode code 1092 = .ok (.iload_n 3, 1) := o29 ac_code_1088 4 rfl
theorem dL_law_1093 : decode code 1093 = .ok (.iconst 2, 1) := o5 ac_code_1088 5 rfl
theorem dL_law_1094 : decode code 1094 = .ok (.iadd, 1) := o96 ac_code_1088 6 rfl
theorem dL_law_1095 : decode code 1095 = .ok (.iaload, 1) := o46 ac_code_1088 7 rfl
theorem dL_law_1096 : decode code 1096 = .ok (.invokevirtual 154, 3) := o182 ac_code_1088 8 0 154 rfl
theorem dL_law_1099 : decode code 1099 = .ok (.pop, 1) := o87 ac_code_1088 11 rfl
theorem dL_law_1100 : decode code 1100 = .ok (.aload_n 2, 1) := o44 ac_code_1088 12 rfl
theorem dL_law_1101 : decode code 1101 = .ok (.aload_n 0, 1) := o42 ac_code_1088 13 rfl
theorem dL_law_1102 : decode code 1102 = .ok (.iload_n 3, 1) := o29 ac_code_1088 14 rfl
theorem dL_law_1103 : decode code 1103 = .ok (.iconst 1, 1) := o4 ac_code_1088 15 rfl
def kb_code_1104 : List Nat := [96, 46, 42, 29, 5, 96, 46, 182, 0, 157, 87, 167, 0, 223, 43, 42, 29, 4, 96, 46]
theorem ac_code_1104 : AL code 1104 kb_code_1104 := AL.of (m := 20) (by decide +kernel)
theorem dL_law_1104 : decode code 1104 = .ok (.iadd, 1) := o96 ac_code_1104 0 rfl
theorem dL_law_1105 : decode code 1105 = .ok (.iaload, 1) := o46 ac_code_1104 1 rfl
theorem dL_law_1106 : decode code 1106 = .ok (.aload_n 0, 1) := o42 ac_code_1104 2 rfl
theorem dL_law_1107 : decode code 1107 = .ok (.iload_n 3, 1) := o29 ac_code_1104 3 rfl
theorem dL_law_1108 : decode code 1108 = .ok (.iconst 2, 1) := o5 ac_code_1104 4 rfl
theorem dL_law_1109 : decode code 1109 = .ok (.iadd, 1) := o96 ac_code_1104 5 rfl
theorem dL_law_1110 : decode code 1110 = .ok (.iaload, 1) := o46 ac_code_1104 6 rfl
theorem dL_law_1111 : decode code 1111 = .ok (.invokevirtual 157, 3) := o182 ac_code_1104 7 0 157 rfl
theorem dL_law_1114 : decode code 1114 = .ok (.pop, 1) := o87 ac_code_1104 10 rfl
theorem dL_law_1115 : decode code 1115 = .ok (.goto 223, 3) := o167p ac_code_1104 11 0 223 rfl rfl
theorem dL_law_1118 : decode code 1118 = .ok (.aload_n 1, 1) := o43 ac_code_1104 14 rfl
theorem dL_law_1119 : decode code 1119 = .ok (.aload_n 0, 1) := o42 ac_code_1104 15 rfl
def kb_code_1120 : List Nat := [29, 4, 96, 46, 42, 29, 5, 96, 46, 182, 0, 158, 87, 44, 42, 29, 4, 96, 46, 42]
theorem ac_code_1120 : AL code 1120 kb_code_1120 := AL.of (m := 20) (by decide +kernel)
theorem dL_law_1120 : decode code 1120 = .ok (.iload_n 3, 1) := o29 ac_code_1120 0 rfl
theorem dL_law_1121 : decode code 1121 = .ok (.iconst 1, 1) := o4 ac_code_1120 1 rfl
theorem dL_law_1122 : decode code 1122 = .ok (.iadd, 1) := o96 ac_code_1120 2 rfl
theorem dL_law_1123 : decode code 1123 = .ok (.iaload, 1) := o46 ac_code_1120 3 rfl
theorem dL_law_1124 : decode code 1124 = .ok (.aload_n 0, 1) := o42 ac_code_1120 4 rfl
theorem dL_law_1125 : decode code 1125 = .ok (.iload_n 3, 1) := o29 ac_code_1120 5 rfl
theorem dL_law_1126 : decode code 1126 = .ok (.iconst 2, 1) := o5 ac_code_1120 6 rfl
theorem dL_law_1127 : decode code 1127 = .ok (.iadd, 1) := o96 ac_code_1120 7 rfl
theorem dL_law_1128 : decode code 1128 = .ok (.iaload, 1) := o46 ac_code_1120 8 rfl
theorem dL_law_1129 : decode code 1129 = .ok (.invokevirtual 158, 3) := o182 ac_code_1120 9 0 158 rfl
theorem dL_law_1132 : decode code 1132 = .ok (.pop, 1) := o87 ac_code_1120 12 rfl
theorem dL_law_1133 : decode code 1133 = .ok (.aload_n 2, 1) := o44 ac_code_1120 13 rfl
theorem dL_law_1134 : decode code 1134 = .ok (.aload_n 0, 1) := o42 ac_code_1120 14 rfl
theorem dL_law_1135 : decode code 1135 = .ok (.iload_n 3, 1) := o29 ac_code_1120 15 rfl
def kb_code_1136 : List Nat := [4, 96, 46, 42, 29, 5, 96, 46, 182, 0, 161, 87, 167, 0, 190, 43, 42, 29, 4, 96]
theorem ac_code_1136 : AL code 1136 kb_code_1136 := AL.of (m := 20) (by decide +kernel)
theorem dL_law_1136 : decode code 1136 = .ok (.iconst 1, 1) := o4 ac_code_1136 0 rfl
theorem dL_law_1137 : decode code 1137 = .ok (.iadd, 1) := o96 ac_code_1136 1 rfl
theorem dL_law_1138 : decode code 1138 = .ok (.iaload, 1) := o46 ac_code_1136 2 rfl
theorem dL_law_1139 : decode code 1139 = .ok (.aload_n 0, 1) := o42 ac_code_1136 3 rfl
theorem dL_law_1140 : decode code 1140 = .ok (.iload_n 3, 1) := o29 ac_code_1136 4 rfl
theorem dL_law_1141 : decode code 1141 = .ok (.iconst 2, 1) := o5 ac_code_1136 5 rfl
theorem dL_law_1142 : decode code 1142 = .ok (.iadd, 1) := o96 ac_code_1136 6 rfl
theorem dL_law_1143 : decode code 1143 = .ok (.iaload, 1) := o46 ac_code_1136 7 rfl
theorem dL_law_1144 : decode code 1144 = .ok (.invokevirtual 161, 3) := o182 ac_code_1136 8 0 161 rfl
theorem dL_law_1147 : decode code 1147 = .ok (.pop, 1) := o87 ac_code_1136 11 rfl
theorem dL_law_1148 : decode code 1148 = .ok (.goto 190, 3) := o167p ac_code_1136 12 0 190 rfl rfl
theorem dL_law_1151 : decode code 1151 = .ok (.aload_n 1, 1) := o43 ac_code_1136 15 rfl
def kb_code_1152 : List Nat := [42, 29, 4, 96, 46, 42, 29, 5, 96, 46, 153, 0, 7, 4, 167, 0, 4, 3, 182, 0]
theorem ac_code_1152 : AL code 1152 kb_code_1152 := AL.of (m := 20) (by decide +kernel)
theorem dL_law_1152 : decode code 1152 = .ok (.aload_n 0, 1) := o42 ac_code_1152 0 rfl
theorem dL_law_1153 : decode code 1153 = .ok (.iload_n 3, 1) := o29 ac_code_1152 1 rfl
theorem dL_law_1154 : decode code 1154 = .ok (.iconst 1, 1) := o4 ac_code_1152 2 rfl
theorem dL_law_1155 : decode code 1155 = .ok (.iadd, 1) := o96 ac_code_1152 3 rfl
theorem dL_law_1156 : decode code 1156 = .ok (.iaload, 1) := o46 ac_code_1152 4 rfl
theorem dL_law_1157 : decode code 1157 = .ok (.aload_n 0, 1) := o42 ac_code_1152 5 rfl
theorem dL_law_1158 : decode code 1158 = .ok (.iload_n 3, 1) := o29 ac_code_1152 6 rfl
theorem dL_law_1159 : decode code 1159 = .ok (.iconst 2, 1) := o5 ac_code_1152 7 rfl
theorem dL_law_1160 : decode code 1160 = .ok (.iadd, 1) := o96 ac_code_1152 8 rfl
theorem dL_law_1161 : decode code 1161 = .ok (.iaload, 1) := o46 ac_code_1152 9 rfl
theorem dL_law_1162 : decode code 1162 = .ok (.ifCond .eq 7, 3) := o153p ac_code_1152 10 0 7 rfl rfl
theorem dL_law_1165 : decode code 1165 = .ok (.iconst 1, 1) := o4 ac_code_1152 13 rfl
theorem dL_law_1166 : decode code 1166 = .ok (.goto 4, 3) := o167p ac_code_1152 14 0 4 rfl rfl
def kb_code_1168 : List Nat := [4, 3, 182, 0, 162, 87, 44, 42, 29, 4, 96, 46, 42, 29, 5, 96, 46, 153, 0, 7]
theorem ac_code_1168 : AL code 1168 kb_code_1168 := AL.of (m := 20) (by decide +kernel)
theorem dL_law_1169 : decode code 1169 = .ok (.iconst 0, 1) := o3 ac_code_1168 1 rfl
theorem dL_law_1170 : decode code 1170 = .ok (.invokevirtual 162, 3) := o182 ac_code_1168 2 0 162 rfl
theorem dL_law_1173 : decode code 1173 = .ok (.pop, 1) := o87 ac_code_1168 5 rfl
theorem dL_law_1174 : decode code 1174 = .ok (.aload_n 2, 1) := o44 ac_code_1168 6 rfl
theorem dL_law_1175 : decode code 1175 = .ok (.aload_n 0, 1) := o42 ac_code_1168 7 rfl
theorem dL_law_1176 : decode code 1176 = .ok (.iload_n 3, 1) := o29 ac_code_1168 8 rfl
theorem dL_law_1177 : decode code 1177 = .ok (.iconst 1, 1) := o4 ac_code_1168 9 rfl
theorem dL_law_1178 : decode code 1178 = .ok (.iadd, 1) := o96 ac_code_1168 10 rfl
theorem dL_law_1179 : decode code 1179 = .ok (.iaload, 1) := o46 ac_code_1168 11 rfl
theorem dL_law_1180 : decode code 1180 = .ok (.aload_n 0, 1) := o42 ac_code_1168 12 rfl
theorem dL_law_1181 : decode code 1181 = .ok (.iload_n 3, 1) := o29 ac_code_1168 13 rfl
theorem dL_law_1182 : decode code 1182 = .ok (.iconst 2, 1) := o5 ac_code_1168 14 rfl
theorem dL_law_1183 : decode code 1183 = .ok (.iadd, 1) := o96 ac_code_1168 15 rfl
def kb_code_1184 : List Nat := [46, 153, 0, 7, 4, 167, 0, 4, 3, 182, 0, 166, 87, 167, 0, 141, 43, 182, 0, 167]
theorem ac_code_1184 : AL code 1184 kb_code_1184 := AL.of (m := 20) (by decide +kernel)
theorem dL_law_1184 : decode code 1184 = .ok (.iaload, 1) := o46 ac_code_1184 0 rfl
theorem dL_law_1185 : decode code 1185 = .ok (.ifCond .eq 7, 3) := o153p ac_code_1184 1 0 7 rfl rfl
theorem dL_law_1188 : decode code 1188 = .ok (.iconst 1, 1) := o4 ac_code_1184 4 rfl
theorem dL_law_1189 : decode code 1189 = .ok (.goto 4, 3) := o167p ac_code_1184 5 0 4 rfl rfl
theorem dL_law_1192 : decode code 1192 = .ok (.iconst 0, 1) := o3 ac_code_1184 8 rfl
theorem dL_law_1193 : decode code 1193 = .ok (.invokevirtual 166, 3) := o182 ac_code_1184 9 0 166 rfl
theorem dL_law_1196 : decode code 1196 = .ok (.pop, 1) := o87 ac_code_1184 12 rfl
theorem dL_law_1197 : decode code 1197 = .ok (.goto 141, 3) := o167p ac_code_1184 13 0 141 rfl rfl
def kb_code_1200 : List Nat := [43, 182, 0, 167, 87, 44, 182, 0, 170, 87, 167, 0, 128, 43, 42, 29, 4, 96, 46, 42]
theorem ac_code_1200 : AL code 1200 kb_code_1200 := AL.of (m := 20) (by decide +kernel)
theorem dL_law_1200 : decode code 1200 = .ok (.aload_n 1, 1) := o43 ac_code_1200 0 rfl
theorem dL_law_1201 : decode code 1201 = .ok (.invokevirtual 167, 3) := o182 ac_code_1200 1 0 167 rfl
theorem dL_law_1204 : decode code 1204 = .ok (.pop, 1) := o87 ac_code_1200 4 rfl
theorem dL_law_1205 : decode code 1205 = .ok (.aload_n 2, 1) := o44 ac_code_1200 5 rfl
theorem dL_law_1206 : decode code 1206 = .ok (.invokevirtual 170, 3) := o182 ac_code_1200 6 0 170 rfl
theorem dL_law_1209 : decode code 1209 = .ok (.pop, 1) := o87 ac_code_1200 9 rfl
theorem dL_law_1210 : decode code 1210 = .ok (.goto 128, 3) := o167p ac_code_1200 10 0 128 rfl rfl
theorem dL_law_1213 : decode code 1213 = .ok (.aload_n 1, 1) := o43 ac_code_1200 13 rfl
theorem dL_law_1214 : decode code 1214 = .ok (.aload_n 0, 1) := o42 ac_code_1200 14 rfl
theorem dL_law_1215 : decode code 1215 = .ok (.iload_n 3, 1) := o29 ac_code_1200 15 rfl
def kb_code_1216 : List Nat := [4, 96, 46, 42, 29, 5, 96, 46, 182, 0, 171, 87, 44, 42, 29, 4, 96, 46, 42, 29]
theorem ac_code_1216 : AL code 1216 kb_code_1216 := AL.of (m := 20) (by decide +kernel)
theorem dL_law_1216 : decode code 1216 = .ok (.iconst 1, 1) := o4 ac_code_1216 0 rfl
theorem dL_law_1217 : decode code 1217 = .ok (.iadd, 1) := o96 ac_code_1216 1 rfl
theorem dL_law_1218 : decode code 1218 = .ok (.iaload, 1) := o46 ac_code_1216 2 rfl
theorem dL_law_1219 : decode code 1219 = .ok (.aload_n 0, 1) := o42 ac_code_1216 3 rfl
theorem dL_law_1220 : decode code 1220 = .ok (.iload_n 3, 1) := o29 ac_code_1216 4 rfl
theorem dL_law_1221 : decode code 1221 = .ok (.iconst 2, 1) := o5 ac_code_1216 5 rfl
theorem dL_law_1222 : decode code 1222 = .ok (.iadd, 1) := o96 ac_code_1216 6 rfl
theorem dL_law_1223 : decode code 1223 = .ok (.iaload, 1) := o46 ac_code_1216 7 rfl
theorem dL_law_1224 : decode code 1224 = .ok (.invokevirtual 171, 3) := o182 ac_code_1216 8 0 171 rfl
theorem dL_law_1227 : decode code 1227 = .ok (.pop, 1) := o87 ac_code_1216 11 rfl
theorem dL_law_1228 : decode code 1228 = .ok (.aload_n 2, 1) := o44 ac_code_1216 12 rfl
theorem dL_law_1229 : decode code 1229 = .ok (.aload_n 0, 1) := o42 ac_code_1216 13 rfl
theorem dL_law_1230 : decode code 1230 = .ok (.iload_n 3, 1) := o29 ac_code_1216 14 rfl
theorem dL_law_1231 : decode code 1231 = .ok (.iconst 1, 1) := o4 ac_code_1216 15 rfl
def kb_code_1232 : List Nat := [96, 46, 42, 29, 5, 96, 46, 182, 0, 174, 87, 167, 0, 95, 43, 42, 29, 4, 96, 46]
theorem ac_code_1232 : AL code 1232 kb_code_1232 := AL.of (m := 20) (by decide +kernel)
theorem dL_law_1232 : decode code 1232 = .ok (.iadd, 1) := o96 ac_code_1232 0 rfl
theorem dL_law_1233 : decode code 1233 = .ok (.iaload, 1) := o46 ac_code_1232 1 rfl
theorem dL_law_1234 : decode code 1234 = .ok (.aload_n 0, 1) := o42 ac_code_1232 2 rfl
theorem dL_law_1235 : decode code 1235 = .ok (.iload_n 3, 1) := o29 ac_code_1232 3 rfl
theorem dL_law_1236 : decode code 1236 = .ok (.iconst 2, 1) := o5 ac_code_1232 4 rfl
theorem dL_law_1237 : decode code 1237 = .ok (.iadd, 1) := o96 ac_code_1232 5 rfl
theorem dL_law_1238 : decode code 1238 = .ok (.iaload, 1) := o46 ac_code_1232 6 rfl
theorem dL_law_1239 : decode code 1239 = .ok (.invokevirtual 174, 3) := o182 ac_code_1232 7 0 174 rfl
theorem dL_law_1242 : decode code 1242 = .ok (.pop, 1) := o87 ac_code_1232 10 rfl
theorem dL_law_1243 : decode code 1243 = .ok (.goto 95, 3) := o167p ac_code_1232 11 0 95 rfl rfl
theorem dL_law_1246 : decode code 1246 = .ok (.aload_n 1, 1) := o43 ac_code_1232 14 rfl
theorem dL_law_1247 : decode code 1247 = .ok (.aload_n 0, 1) := o42 ac_code_1232 15 rfl
def kb_code_1248 : List Nat := [29, 4, 96, 46, 182, 0, 175, 87, 44, 42, 29, 4, 96, 46, 182, 0, 178, 87, 167, 0]
theorem ac_code_1248 : AL code 1248 kb_code_1248 := AL.of (m := 20) (by decide +kernel)
theorem dL_law_1248 : decode code 1248 = .ok (.iload_n 3, 1) := o29 ac_code_1248 0 rfl
theorem dL_law_1249 : decode code 1249 = .ok (.iconst 1, 1) := o4 ac_code_1248 1 rfl
theorem dL_law_1250 : decode code 1250 = .ok (.iadd, 1) := o96 ac_code_1248 2 rfl
theorem dL_law_1251 : decode code 1251 = .ok (.iaload, 1) := o46 ac_code_1248 3 rfl
theorem dL_law_1252 : decode code 1252 = .ok (.invokevirtual 175, 3) := o182 ac_code_1248 4 0 175 rfl
theorem dL_law_1255 : decode code 1255 = .ok (.pop, 1) := o87 ac_code_1248 7 rfl
theorem dL_law_1256 : decode code 1256 = .ok (.aload_n 2, 1) := o44 ac_code_1248 8 rfl
theorem dL_law_1257 : decode code 1257 = .ok (.aload_n 0, 1) := o42 ac_code_1248 9 rfl
theorem dL_law_1258 : decode code 1258 = .ok (.iload_n 3, 1) := o29 ac_code_1248 10 rfl
theorem dL_law_1259 : decode code 1259 = .ok (.iconst 1, 1) := o4 ac_code_1248 11 rfl
theorem dL_law_1260 : decode code 1260 = .ok (.iadd, 1) := o96 ac_code_1248 12 rfl
theorem dL_law_1261 : decode code 1261 = .ok (.iaload, 1) := o46 ac_code_1248 13 rfl
theorem dL_law_1262 : decode code 1262 = .ok (.invokevirtual 178, 3) := o182 ac_code_1248 14 0 178 rfl
def kb_code_1264 : List Nat := [178, 87, 167, 0, 72, 43, 42, 29, 4, 96, 46, 182, 0, 179, 87, 44, 42, 29, 4, 96]
theorem ac_code_1264 : AL code 1264 kb_code_1264 := AL.of (m := 20) (by decide +kernel)
theorem dL_law_1265 : decode code 1265 = .ok (.pop, 1) := o87 ac_code_1264 1 rfl
theorem dL_law_1266 : decode code 1266 = .ok (.goto 72, 3) := o167p ac_code_1264 2 0 72 rfl rfl
theorem dL_law_1269 : decode code 1269 = .ok (.aload_n 1, 1) := o43 ac_code_1264 5 rfl
theorem dL_law_1270 : decode code 1270 = .ok (.aload_n 0, 1) := o42 ac_code_1264 6 rfl
theorem dL_law_1271 : decode code 1271 = .ok (.iload_n 3, 1) := o29 ac_code_1264 7 rfl
theorem dL_law_1272 : decode code 1272 = .ok (.iconst 1, 1) := o4 ac_code_1264 8 rfl
theorem dL_law_1273 : decode code 1273 = .ok (.iadd, 1) := o96 ac_code_1264 9 rfl
theorem dL_law_1274 : decode code 1274 = .ok (.iaload, 1) := o46 ac_code_1264 10 rfl
theorem dL_law_1275 : decode code 1275 = .ok (.invokevirtual 179, 3) := o182 ac_code_1264 11 0 179 rfl
theorem dL_law_1278 : decode code 1278 = .ok (.pop, 1) := o87 ac_code_1264 14 rfl
theorem dL_law_1279 : decode code 1279 = .ok (.aload_n 2, 1) := o44 ac_code_1264 15 rfl
def kb_code_1280 : List Nat := [42, 29, 4, 96, 46, 182, 0, 182, 87, 167, 0, 49, 43, 42, 29, 4, 96, 46, 182, 0]
theorem ac_code_1280 : AL code 1280 kb_code_1280 := AL.of (m := 20) (by decide +kernel)
theorem dL_law_1280 : decode code 1280 = .ok (.aload_n 0, 1) := o42 ac_code_1280 0 rfl
theorem dL_law_1281 : decode code 1281 = .ok (.iload_n 3, 1) := o29 ac_code_1280 1 rfl
theorem dL_law_1282 : decode code 1282 = .ok (.iconst 1, 1) := o4 ac_code_1280 2 rfl
theorem dL_law_1283 : decode code 1283 = .ok (.iadd, 1) := o96 ac_code_1280 3 rfl
theorem dL_law_1284 : decode code 1284 = .ok (.iaload, 1) := o46 ac_code_1280 4 rfl
theorem dL_law_1285 : decode code 1285 = .ok (.invokevirtual 182, 3) := o182 ac_code_1280 5 0 182 rfl
theorem dL_law_1288 : decode code 1288 = .ok (.pop, 1) := o87 ac_code_1280 8 rfl
theorem dL_law_1289 : decode code 1289 = .ok (.goto 49, 3) := o167p ac_code_1280 9 0 49 rfl rfl
theorem dL_law_1292 : decode code 1292 = .ok (.aload_n 1, 1) := o43 ac_code_1280 12 rfl
theorem dL_law_1293 : decode code 1293 = .ok (.aload_n 0, 1) := o42 ac_code_1280 13 rfl
theorem dL_law_1294 : decode code 1294 = .ok (.iload_n 3, 1) := o29 ac_code_1280 14 rfl
theorem dL_law_1295 : decode code 1295 = .ok (.iconst 1, 1) := o4 ac_code_1280 15 rfl
def kb_code_1296 : List Nat := [96, 46, 182, 0, 183, 87, 44, 42, 29, 4, 96, 46, 182, 0, 186, 87, 167, 0, 26, 43]
theorem ac_code_1296 : AL code 1296 kb_code_1296 := AL.of (m := 20) (by decide +kernel)
theorem dL_law_1296 : decode code 1296 = .ok (.iadd, 1) := o96 ac_code_1296 0 rfl
theorem dL_law_1297 : decode code 1297 = .ok (.iaload, 1) := o46 ac_code_1296 1 rfl
theorem dL_law_1298 : decode code 1298 = .ok (.invokevirtual 183, 3) := o182 ac_code_1296 2 0 183 rfl
theorem dL_law_1301 : decode code 1301 = .ok (.pop, 1) := o87 ac_code_1296 5 rfl
theorem dL_law_1302 : decode code 1302 = .ok (.aload_n 2, 1) := o44 ac_code_1296 6 rfl
theorem dL_law_1303 : decode code 1303 = .ok (.aload_n 0, 1) := o42 ac_code_1296 7 rfl
theorem dL_law_1304 : decode code 1304 = .ok (.iload_n 3, 1) := o29 ac_code_1296 8 rfl
theorem dL_law_1305 : decode code 1305 = .ok (.iconst 1, 1) := o4 ac_code_1296 9 rfl
theorem dL_law_1306 : decode code 1306 = .ok (.iadd, 1) := o96 ac_code_1296 10 rfl
theorem dL_law_1307 : decode code 1307 = .ok (.iaload, 1) := o46 ac_code_1296 11 rfl
theorem dL_law_1308 : decode code 1308 = .ok (.invokevirtual 186, 3) := o182 ac_code_1296 12 0 186 rfl
theorem dL_law_1311 : decode code 1311 = .ok (.pop, 1) := o87 ac_code_1296 15 rfl
def kb_code_1312 : List Nat := [167, 0, 26, 43, 42, 29, 4, 96, 46, 182, 0, 187, 44, 42, 29, 4, 96, 46, 182, 0]
theorem ac_code_1312 : AL code 1312 kb_code_1312 := AL.of (m := 20) (by decide +kernel)
theorem dL_law_1312 : decode code 1312 = .ok (.goto 26, 3) := o167p ac_code_1312 0 0 26 rfl rfl
theorem dL_law_1315 : decode code 1315 = .ok (.aload_n 1, 1) := o43 ac_code_1312 3 rfl
theorem dL_law_1316 : decode code 1316 = .ok (.aload_n 0, 1) := o42 ac_code_1312 4 rfl
theorem dL_law_1317 : decode code 1317 = .ok (.iload_n 3, 1) := o29 ac_code_1312 5 rfl
theorem dL_law_1318 : decode code 1318 = .ok (.iconst 1, 1) := o4 ac_code_1312 6 rfl
theorem dL_law_1319 : decode code 1319 = .ok (.iadd, 1) := o96 ac_code_1312 7 rfl
theorem dL_law_1320 : decode code 1320 = .ok (.iaload, 1) := o46 ac_code_1312 8 rfl
theorem dL_law_1321 : decode code 1321 = .ok (.invokevirtual 187, 3) := o182 ac_code_1312 9 0 187 rfl
theorem dL_law_1324 : decode code 1324 = .ok (.aload_n 2, 1) := o44 ac_code_1312 12 rfl
theorem dL_law_1325 : decode code 1325 = .ok (.aload_n 0, 1) := o42 ac_code_1312 13 rfl
theorem dL_law_1326 : decode code 1326 = .ok (.iload_n 3, 1) := o29 ac_code_1312 14 rfl
theorem dL_law_1327 : decode code 1327 = .ok (.iconst 1, 1) := o4 ac_code_1312 15 rfl
def kb_code_1328 : List Nat := [96, 46, 182, 0, 190, 159, 0, 5, 3, 172, 132, 3, 6, 167, 250, 213, 4, 172]
theorem ac_code_1328 : AL code 1328 kb_code_1328 := AL.of (m := 18) (by decide +kernel)
theorem dL_law_1328 : decode code 1328 = .ok (.iadd, 1) := o96 ac_code_1328 0 rfl
theorem dL_law_1329 : decode code 1329 = .ok (.iaload, 1) := o46 ac_code_1328 1 rfl
theorem dL_law_1330 : decode code 1330 = .ok (.invokevirtual 190, 3) := o182 ac_code_1328 2 0 190 rfl
theorem dL_law_1333 : decode code 1333 = .ok (.if_icmp .eq 5, 3) := o159p ac_code_1328 5 0 5 rfl rfl
theorem dL_law_1338 : decode code 1338 = .ok (.iinc 3 6, 3) := o132p ac_code_1328 10 3 6 rfl rfl
theorem dL_law_1341 : decode code 1341 = .ok (.goto (-1323), 3) := o167n ac_code_1328 13 250 213 1322 rfl rfl rfl
def kb_code_1344 : List Nat := [4, 172]
theorem ac_code_1344 : AL code 1344 kb_code_1344 := AL.of (m := 2) (by decide +kernel)
theorem dL_law_1344 : decode code 1344 = .ok (.iconst 1, 1) := o4 ac_code_1344 0 rfl
theorem dL_law_1345 : decode code 1345 = .ok (.ireturn, 1) := o172 ac_code_1344 1 rfl
/-! the law's own script, and its end -/
def SX (Γ : GT) (b L : Nat) (xs : Nat → Int32) : Prop := match Γ with
  | (p, l, e, R, s, m, args, below, meth, c, kc, ks, Q, D, A, H0, nL) => va_X b L xs s H0 ∧ b < H0.size ∧ ¬ A b
def LE (Γ : GT) : Prop := match Γ with
  | (p, l, e, R, s, m, args, below, meth, c, kc, ks, Q, D, A, H0, nL) => ∀ (H : Heap) (locs : List Loc) (ls : Array Slot) (pc : Nat), va_S A H0 H locs → decode code pc = .ok (.ireturn, 1) → W p l e R s m args below meth c H locs kc ks Q (F0 m pc ls [.int 1])
section SCR
variable {ids : List Nat} {ad : Nat → Nat} {ca : Nat → ClassId} {Γ : GT} {cc : ByteArray} {own : String} {l0 : Launch} {D0 : va_G} {fr lo nL0 : Nat} {pc : Nat} {vs : List (Option Value)} {st : List Value} {σ : HS} {b L : Nat} {xs : Nat → Int32}
theorem a_sld (C : CT ids ad ca Γ cc own l0 D0 fr lo nL0) (X : SX Γ b L xs) {j : Int32} (jn : Nat) (hj : j.toNatClampNeg = jn) (h0 : ¬ j < 0) (hn : jn < L) (hd : decode cc pc = .ok (.iaload, 1)) (k : AW ids ad ca Γ (pc + 1) vs (.int (xs jn) :: st) σ) : AW ids ad ca Γ pc vs (.int j :: .ref b :: st) σ := by
  obtain ⟨p, l, e, R, s, m, args, below, meth, c, kc, ks, Q, D, A, H0, nL⟩ := Γ
  obtain ⟨⟨hx, hb, hml, hown, hts⟩, hK, hE, hD, hA0, rfl, rfl, hfr, hlo, hkc, hks, rfl⟩ := C
  intro H locs ls hP hS hl
  subst hj
  exact va_sld hx hb X.1 X.2.1 X.2.2 hS (fun h => h.elim h0 (fun h => absurd h (by omega))) hd (k H locs ls hP hS hl)
theorem a_slenL (C : CT ids ad ca Γ cc own l0 D0 fr lo nL0) (X : SX Γ b L xs) (hd : decode cc pc = .ok (.arraylength, 1)) (k : AW ids ad ca Γ (pc + 1) vs (.int (Int32.ofNat L) :: st) σ) : AW ids ad ca Γ pc vs (.ref b :: st) σ := by
  obtain ⟨p, l, e, R, s, m, args, below, meth, c, kc, ks, Q, D, A, H0, nL⟩ := Γ
  obtain ⟨⟨hx, hb, hml, hown, hts⟩, hK, hE, hD, hA0, rfl, rfl, hfr, hlo, hkc, hks, rfl⟩ := C
  intro H locs ls hP hS hl
  exact va_slen hx hb X.1 X.2.1 X.2.2 hS hd (k H locs ls hP hS hl)
theorem a_lend (E : LE Γ) (hd : decode code pc = .ok (.ireturn, 1)) : AW ids ad ca Γ pc vs [.int 1] σ := by
  obtain ⟨p, l, e, R, s, m, args, below, meth, c, kc, ks, Q, D, A, H0, nL⟩ := Γ
  intro H locs ls hP hS hl
  exact E H locs ls pc hS hd
theorem s_sld (C : CT ids ad ca Γ cc own l0 D0 fr lo nL0) (X : SX Γ b L xs) {j : Int32} (h0 : 0 ≤ j.toInt) (h1 : j.toInt < (L : Int)) (hd : decode cc pc = .ok (.iaload, 1)) (k : ∀ m : Nat, (m : Int) = j.toInt → AW ids ad ca Γ (pc + 1) vs (.int (xs m) :: st) σ) : AW ids ad ca Γ pc vs (.int j :: .ref b :: st) σ := by
  obtain ⟨n, h2, h3, h4⟩ := s_ix h0
  exact a_sld C X n h3 h2 (by omega) hd (k n h4)
theorem s_slen (C : CT ids ad ca Γ cc own l0 D0 fr lo nL0) (X : SX Γ b L xs) (hL : L ≤ 3072) (hd : decode cc pc = .ok (.arraylength, 1)) (k : ∀ z : Int32, z.toInt = (L : Int) → AW ids ad ca Γ (pc + 1) vs (.int z :: st) σ) : AW ids ad ca Γ pc vs (.ref b :: st) σ := a_slenL C X hd (k _ (nI_toInt (by omega)))
end SCR
theorem g_astore_n {Γ : GQ} {cc : ByteArray} {own : String} {l0 : Launch} {D0 : va_G} {fr lo mc ms nL0 : Nat} {pc : Nat} {vs : List (Option Value)} {st : List Value} {ws : va_W} {ts : List (ClassId × FieldType)} {kc ks : Nat} (C : CG Γ cc own l0 D0 fr lo mc ms nL0) {q : Fin 4} {i : Nat} {x : Nat} (hd : decode cc pc = .ok (.astore_n q, 1)) (hi : (q : Nat) = i) (hn : i < nL0) (hc : catOk vs i = true) {vs1 : List (Option Value)} (hvs : vs.set i (some (.ref x)) = vs1) (k : GW Γ (pc + 1) vs1 st ws ts kc ks) : GW Γ pc vs (.ref x :: st) ws ts kc ks := by
  obtain ⟨p, l, e, R, s, m, args, below, meth, c, Q, D, A, H0, nL⟩ := Γ
  obtain ⟨⟨hx, hb, hml, hown, hts⟩, hE, hA0, rfl, rfl, hfr, hlo, hmc, hms, rfl⟩ := C
  intro H locs ls hK hP hD hS hl
  subst hvs
  exact lv_astore_n hx hb hd hi hl.has hn rfl (fun ls1 h1 => k H locs ls1 hK hP hD hS (LV.store1 hc h1))
set_option maxHeartbeats 4000000 in
set_option maxRecDepth 100000 in
theorem la_0 {Γ : GT} {ids : List Nat} {ad : Nat → Nat} {ca : Nat → ClassId} {l0 : Launch} {D0 : va_G} {b L n : Nat} {i : Int32} {xs : Nat → Int32} {σ : HS} {K9 : (Nat → Nat) × (Nat → Nat)} (C : CT ids ad ca Γ code RL l0 D0 2048 84000 4) (X : SX Γ b L xs) (E9 : SG K9 Γ) (hid : ∀ i, i < 277 → i ∈ ids) (hi : i.toInt = 6 * (n : Int)) (hL : 6 * n + 6 ≤ L) (hLL : L ≤ 3072) (hI : REL n σ) (K : ∀ σ : HS, REL (n + 1) σ → AW ids ad ca Γ 1338 [some (.ref b), some (.ref (ad 0)), some (.ref (ad 236)), some (.int i)] [] σ) : AW ids ad ca Γ 216 [some (.ref b), some (.ref (ad 0)), some (.ref (ad 236)), some (.int i)] [] σ := by
  refine a_aload_n C dL_law_216 (i := 1) rfl rfl ?_
  refine a_aload_n C dL_law_217 (i := 0) rfl rfl ?_
  refine a_iload_n C dL_law_218 (i := 3) rfl rfl ?_
  refine s_iconst C dL_law_219 (1) (by decide) (fun z1 h2 => ?_)
  refine s_iadd C dL_law_220 (by omega) (fun z3 h4 => ?_)
  refine s_sld C X (by omega) (by omega) dL_law_221 (fun m5 h6 => ?_)
  refine a_aload_n C dL_law_222 (i := 0) rfl rfl ?_
  refine a_iload_n C dL_law_223 (i := 3) rfl rfl ?_
  refine s_iconst C dL_law_224 (2) (by decide) (fun z7 h8 => ?_)
  refine s_iadd C dL_law_225 (by omega) (fun z9 h10 => ?_)
  refine s_sld C X (by omega) (by omega) dL_law_226 (fun m11 h12 => ?_)
  refine a_aload_n C dL_law_227 (i := 0) rfl rfl ?_
  refine a_iload_n C dL_law_228 (i := 3) rfl rfl ?_
  refine s_iconst C dL_law_229 (3) (by decide) (fun z13 h14 => ?_)
  refine s_iadd C dL_law_230 (by omega) (fun z15 h16 => ?_)
  refine s_sld C X (by omega) (by omega) dL_law_231 (fun m17 h18 => ?_)
  refine a_aload_n C dL_law_232 (i := 0) rfl rfl ?_
  refine a_iload_n C dL_law_233 (i := 3) rfl rfl ?_
  refine s_iconst C dL_law_234 (4) (by decide) (fun z19 h20 => ?_)
  refine s_iadd C dL_law_235 (by omega) (fun z21 h22 => ?_)
  refine s_sld C X (by omega) (by omega) dL_law_236 (fun m23 h24 => ?_)
  refine a_aload_n C dL_law_237 (i := 0) rfl rfl ?_
  refine a_iload_n C dL_law_238 (i := 3) rfl rfl ?_
  refine s_iconst C dL_law_239 (5) (by decide) (fun z25 h26 => ?_)
  refine s_iadd C dL_law_240 (by omega) (fun z27 h28 => ?_)
  refine s_sld C X (by omega) (by omega) dL_law_241 (fun m29 h30 => ?_)
  have hS : SIM n (f_X11_feed (xs m5) (xs m11) (xs m17) (xs m23) (xs m29)) (f_X12_feed (xs m5) (xs m11) (xs m17) (xs m23) (xs m29)) := sim_feed
  obtain ⟨r9, s9, s8, ec, em, hN⟩ := hS σ hI
  refine a_callVi C (i := 0) kd_0 (hid 0 (by decide)) ⟨_, _, rfl⟩ (by decide) (Z_X11_feed hid ec) mi_X11_feed ml_RL_13 rfl rfl (Nat.le_of_ble_eq_true rfl) (Nat.le_of_ble_eq_true rfl) (Nat.le_of_ble_eq_true rfl) dL_law_242 (fun r σ1 q1 => ?_)
  obtain ⟨er, es⟩ := q1
  subst es
  subst er
  refine a_pop C dL_law_245 rfl ?_
  refine a_aload_n C dL_law_246 (i := 2) rfl rfl ?_
  refine a_aload_n C dL_law_247 (i := 0) rfl rfl ?_
  refine a_iload_n C dL_law_248 (i := 3) rfl rfl ?_
  refine s_iconst C dL_law_249 (1) (by decide) (fun z31 h32 => ?_)
  refine s_iadd C dL_law_250 (by omega) (fun z33 h34 => ?_)
  refine s_sld C X (by omega) (by omega) dL_law_251 (fun m35 h36 => ?_)
  refine a_aload_n C dL_law_252 (i := 0) rfl rfl ?_
  refine a_iload_n C dL_law_253 (i := 3) rfl rfl ?_
  refine s_iconst C dL_law_254 (2) (by decide) (fun z37 h38 => ?_)
  refine s_iadd C dL_law_255 (by omega) (fun z39 h40 => ?_)
  refine s_sld C X (by omega) (by omega) dL_law_256 (fun m41 h42 => ?_)
  refine a_aload_n C dL_law_257 (i := 0) rfl rfl ?_
  refine a_iload_n C dL_law_258 (i := 3) rfl rfl ?_
  refine s_iconst C dL_law_259 (3) (by decide) (fun z43 h44 => ?_)
  refine s_iadd C dL_law_260 (by omega) (fun z45 h46 => ?_)
  refine s_sld C X (by omega) (by omega) dL_law_261 (fun m47 h48 => ?_)
  refine a_aload_n C dL_law_262 (i := 0) rfl rfl ?_
  refine a_iload_n C dL_law_263 (i := 3) rfl rfl ?_
  refine s_iconst C dL_law_264 (4) (by decide) (fun z49 h50 => ?_)
  refine s_iadd C dL_law_265 (by omega) (fun z51 h52 => ?_)
  refine s_sld C X (by omega) (by omega) dL_law_266 (fun m53 h54 => ?_)
  refine a_aload_n C dL_law_267 (i := 0) rfl rfl ?_
  refine a_iload_n C dL_law_268 (i := 3) rfl rfl ?_
  refine s_iconst C dL_law_269 (5) (by decide) (fun z55 h56 => ?_)
  refine s_iadd C dL_law_270 (by omega) (fun z57 h58 => ?_)
  refine s_sld C X (by omega) (by omega) dL_law_271 (fun m59 h60 => ?_)
  obtain rfl : m35 = m5 := by omega
  obtain rfl : m41 = m11 := by omega
  obtain rfl : m47 = m17 := by omega
  obtain rfl : m53 = m23 := by omega
  obtain rfl : m59 = m29 := by omega
  refine a_callVi C (i := 236) kd_236 (hid 236 (by decide)) ⟨_, _, rfl⟩ (by decide) (Z_X12_feed hid em) mi_X12_feed ml_RL_17 rfl rfl (Nat.le_of_ble_eq_true rfl) (Nat.le_of_ble_eq_true rfl) (Nat.le_of_ble_eq_true rfl) dL_law_272 (fun r2 σ2 q2 => ?_)
  obtain ⟨er2, es2⟩ := q2
  subst es2
  subst er2
  refine a_pop C dL_law_275 rfl ?_
  exact a_goto C dL_law_276 (tgt := 1338) rfl (K _ hN)
set_option maxHeartbeats 4000000 in
set_option maxRecDepth 100000 in
theorem la_1 {Γ : GT} {ids : List Nat} {ad : Nat → Nat} {ca : Nat → ClassId} {l0 : Launch} {D0 : va_G} {b L n : Nat} {i : Int32} {xs : Nat → Int32} {σ : HS} {K9 : (Nat → Nat) × (Nat → Nat)} (C : CT ids ad ca Γ code RL l0 D0 2048 84000 4) (X : SX Γ b L xs) (E9 : SG K9 Γ) (hid : ∀ i, i < 277 → i ∈ ids) (hi : i.toInt = 6 * (n : Int)) (hL : 6 * n + 6 ≤ L) (hLL : L ≤ 3072) (hI : REL n σ) (K : ∀ σ : HS, REL (n + 1) σ → AW ids ad ca Γ 1338 [some (.ref b), some (.ref (ad 0)), some (.ref (ad 236)), some (.int i)] [] σ) : AW ids ad ca Γ 279 [some (.ref b), some (.ref (ad 0)), some (.ref (ad 236)), some (.int i)] [] σ := by
  refine a_aload_n C dL_law_279 (i := 1) rfl rfl ?_
  refine a_aload_n C dL_law_280 (i := 0) rfl rfl ?_
  refine a_iload_n C dL_law_281 (i := 3) rfl rfl ?_
  refine s_iconst C dL_law_282 (1) (by decide) (fun z61 h62 => ?_)
  refine s_iadd C dL_law_283 (by omega) (fun z63 h64 => ?_)
  refine s_sld C X (by omega) (by omega) dL_law_284 (fun m65 h66 => ?_)
  have hS : SIM n (f_X11_back (xs m65)) (f_X12_back (xs m65)) := sim_back
  obtain ⟨r9, s9, s8, ec, em, hN⟩ := hS σ hI
  refine a_callVi C (i := 0) kd_0 (hid 0 (by decide)) ⟨_, _, rfl⟩ (by decide) (Z_X11_back hid ec) mi_X11_back ml_RL_18 rfl rfl (Nat.le_of_ble_eq_true rfl) (Nat.le_of_ble_eq_true rfl) (Nat.le_of_ble_eq_true rfl) dL_law_285 (fun r σ1 q1 => ?_)
  obtain ⟨er, es⟩ := q1
  subst es
  subst er
  refine a_pop C dL_law_288 rfl ?_
  refine a_aload_n C dL_law_289 (i := 2) rfl rfl ?_
  refine a_aload_n C dL_law_290 (i := 0) rfl rfl ?_
  refine a_iload_n C dL_law_291 (i := 3) rfl rfl ?_
  refine s_iconst C dL_law_292 (1) (by decide) (fun z67 h68 => ?_)
  refine s_iadd C dL_law_293 (by omega) (fun z69 h70 => ?_)
  refine s_sld C X (by omega) (by omega) dL_law_294 (fun m71 h72 => ?_)
  obtain rfl : m71 = m65 := by omega
  refine a_callVi C (i := 236) kd_236 (hid 236 (by decide)) ⟨_, _, rfl⟩ (by decide) (Z_X12_back hid em) mi_X12_back ml_RL_22 rfl rfl (Nat.le_of_ble_eq_true rfl) (Nat.le_of_ble_eq_true rfl) (Nat.le_of_ble_eq_true rfl) dL_law_295 (fun r2 σ2 q2 => ?_)
  obtain ⟨er2, es2⟩ := q2
  subst es2
  subst er2
  refine a_pop C dL_law_298 rfl ?_
  exact a_goto C dL_law_299 (tgt := 1338) rfl (K _ hN)
set_option maxHeartbeats 4000000 in
set_option maxRecDepth 100000 in
theorem la_2 {Γ : GT} {ids : List Nat} {ad : Nat → Nat} {ca : Nat → ClassId} {l0 : Launch} {D0 : va_G} {b L n : Nat} {i : Int32} {xs : Nat → Int32} {σ : HS} {K9 : (Nat → Nat) × (Nat → Nat)} (C : CT ids ad ca Γ code RL l0 D0 2048 84000 4) (X : SX Γ b L xs) (E9 : SG K9 Γ) (hid : ∀ i, i < 277 → i ∈ ids) (hi : i.toInt = 6 * (n : Int)) (hL : 6 * n + 6 ≤ L) (hLL : L ≤ 3072) (hI : REL n σ) (K : ∀ σ : HS, REL (n + 1) σ → AW ids ad ca Γ 1338 [some (.ref b), some (.ref (ad 0)), some (.ref (ad 236)), some (.int i)] [] σ) : AW ids ad ca Γ 302 [some (.ref b), some (.ref (ad 0)), some (.ref (ad 236)), some (.int i)] [] σ := by
  refine a_aload_n C dL_law_302 (i := 1) rfl rfl ?_
  have hS : SIM n (f_X11_read) (f_X12_read) := sim_read
  obtain ⟨r9, s9, s8, ec, em, hN⟩ := hS σ hI
  refine a_cViS C E9 (i := 0) kd_0 (hid 0 (by decide)) ⟨_, _, rfl⟩ (by decide) (Z_X11_read hid ec) mi_X11_read ml_RL_23 rfl rfl (Nat.le_of_ble_eq_true rfl) (Nat.le_of_ble_eq_true rfl) (Nat.le_of_ble_eq_true rfl) dL_law_303 (fun r σ1 q1 => ?_)
  obtain ⟨er, es⟩ := q1
  subst es
  subst er
  refine a_pop C dL_law_306 rfl ?_
  refine a_aload_n C dL_law_307 (i := 2) rfl rfl ?_
  refine a_callVi C (i := 236) kd_236 (hid 236 (by decide)) ⟨_, _, rfl⟩ (by decide) (Z_X12_read hid em) mi_X12_read ml_RL_27 rfl rfl (Nat.le_of_ble_eq_true rfl) (Nat.le_of_ble_eq_true rfl) (Nat.le_of_ble_eq_true rfl) dL_law_308 (fun r2 σ2 q2 => ?_)
  obtain ⟨er2, es2⟩ := q2
  subst es2
  subst er2
  refine a_pop C dL_law_311 rfl ?_
  exact a_goto C dL_law_312 (tgt := 1338) rfl (K _ hN)
set_option maxHeartbeats 4000000 in
set_option maxRecDepth 100000 in
theorem la_3 {Γ : GT} {ids : List Nat} {ad : Nat → Nat} {ca : Nat → ClassId} {l0 : Launch} {D0 : va_G} {b L n : Nat} {i : Int32} {xs : Nat → Int32} {σ : HS} {K9 : (Nat → Nat) × (Nat → Nat)} (C : CT ids ad ca Γ code RL l0 D0 2048 84000 4) (X : SX Γ b L xs) (E9 : SG K9 Γ) (hid : ∀ i, i < 277 → i ∈ ids) (hi : i.toInt = 6 * (n : Int)) (hL : 6 * n + 6 ≤ L) (hLL : L ≤ 3072) (hI : REL n σ) (K : ∀ σ : HS, REL (n + 1) σ → AW ids ad ca Γ 1338 [some (.ref b), some (.ref (ad 0)), some (.ref (ad 236)), some (.int i)] [] σ) : AW ids ad ca Γ 315 [some (.ref b), some (.ref (ad 0)), some (.ref (ad 236)), some (.int i)] [] σ := by
  refine a_aload_n C dL_law_315 (i := 1) rfl rfl ?_
  have hS : SIM n (f_X11_place) (f_X12_place) := sim_place
  obtain ⟨r9, s9, s8, ec, em, hN⟩ := hS σ hI
  refine a_callVi C (i := 0) kd_0 (hid 0 (by decide)) ⟨_, _, rfl⟩ (by decide) (Z_X11_place hid ec) mi_X11_place ml_RL_28 rfl rfl (Nat.le_of_ble_eq_true rfl) (Nat.le_of_ble_eq_true rfl) (Nat.le_of_ble_eq_true rfl) dL_law_316 (fun r σ1 q1 => ?_)
  obtain ⟨er, es⟩ := q1
  subst es
  subst er
  refine a_pop C dL_law_319 rfl ?_
  refine a_aload_n C dL_law_320 (i := 2) rfl rfl ?_
  refine a_callVi C (i := 236) kd_236 (hid 236 (by decide)) ⟨_, _, rfl⟩ (by decide) (Z_X12_place hid em) mi_X12_place ml_RL_31 rfl rfl (Nat.le_of_ble_eq_true rfl) (Nat.le_of_ble_eq_true rfl) (Nat.le_of_ble_eq_true rfl) dL_law_321 (fun r2 σ2 q2 => ?_)
  obtain ⟨er2, es2⟩ := q2
  subst es2
  subst er2
  refine a_pop C dL_law_324 rfl ?_
  exact a_goto C dL_law_325 (tgt := 1338) rfl (K _ hN)
set_option maxHeartbeats 4000000 in
set_option maxRecDepth 100000 in
theorem la_4 {Γ : GT} {ids : List Nat} {ad : Nat → Nat} {ca : Nat → ClassId} {l0 : Launch} {D0 : va_G} {b L n : Nat} {i : Int32} {xs : Nat → Int32} {σ : HS} {K9 : (Nat → Nat) × (Nat → Nat)} (C : CT ids ad ca Γ code RL l0 D0 2048 84000 4) (X : SX Γ b L xs) (E9 : SG K9 Γ) (hid : ∀ i, i < 277 → i ∈ ids) (hi : i.toInt = 6 * (n : Int)) (hL : 6 * n + 6 ≤ L) (hLL : L ≤ 3072) (hI : REL n σ) (K : ∀ σ : HS, REL (n + 1) σ → AW ids ad ca Γ 1338 [some (.ref b), some (.ref (ad 0)), some (.ref (ad 236)), some (.int i)] [] σ) : AW ids ad ca Γ 328 [some (.ref b), some (.ref (ad 0)), some (.ref (ad 236)), some (.int i)] [] σ := by
  refine a_aload_n C dL_law_328 (i := 1) rfl rfl ?_
  refine a_aload_n C dL_law_329 (i := 0) rfl rfl ?_
  refine a_iload_n C dL_law_330 (i := 3) rfl rfl ?_
  refine s_iconst C dL_law_331 (1) (by decide) (fun z73 h74 => ?_)
  refine s_iadd C dL_law_332 (by omega) (fun z75 h76 => ?_)
  refine s_sld C X (by omega) (by omega) dL_law_333 (fun m77 h78 => ?_)
  refine a_aload_n C dL_law_334 (i := 0) rfl rfl ?_
  refine a_iload_n C dL_law_335 (i := 3) rfl rfl ?_
  refine s_iconst C dL_law_336 (2) (by decide) (fun z79 h80 => ?_)
  refine s_iadd C dL_law_337 (by omega) (fun z81 h82 => ?_)
  refine s_sld C X (by omega) (by omega) dL_law_338 (fun m83 h84 => ?_)
  have hS : SIM n (f_X11_thing (xs m77) (xs m83)) (f_X12_thing (xs m77) (xs m83)) := sim_thing
  obtain ⟨r9, s9, s8, ec, em, hN⟩ := hS σ hI
  refine a_callVi C (i := 0) kd_0 (hid 0 (by decide)) ⟨_, _, rfl⟩ (by decide) (Z_X11_thing hid ec) mi_X11_thing ml_RL_32 rfl rfl (Nat.le_of_ble_eq_true rfl) (Nat.le_of_ble_eq_true rfl) (Nat.le_of_ble_eq_true rfl) dL_law_339 (fun r σ1 q1 => ?_)
  obtain ⟨er, es⟩ := q1
  subst es
  subst er
  refine a_pop C dL_law_342 rfl ?_
  refine a_aload_n C dL_law_343 (i := 2) rfl rfl ?_
  refine a_aload_n C dL_law_344 (i := 0) rfl rfl ?_
  refine a_iload_n C dL_law_345 (i := 3) rfl rfl ?_
  refine s_iconst C dL_law_346 (1) (by decide) (fun z85 h86 => ?_)
  refine s_iadd C dL_law_347 (by omega) (fun z87 h88 => ?_)
  refine s_sld C X (by omega) (by omega) dL_law_348 (fun m89 h90 => ?_)
  refine a_aload_n C dL_law_349 (i := 0) rfl rfl ?_
  refine a_iload_n C dL_law_350 (i := 3) rfl rfl ?_
  refine s_iconst C dL_law_351 (2) (by decide) (fun z91 h92 => ?_)
  refine s_iadd C dL_law_352 (by omega) (fun z93 h94 => ?_)
  refine s_sld C X (by omega) (by omega) dL_law_353 (fun m95 h96 => ?_)
  obtain rfl : m89 = m77 := by omega
  obtain rfl : m95 = m83 := by omega
  refine a_callVi C (i := 236) kd_236 (hid 236 (by decide)) ⟨_, _, rfl⟩ (by decide) (Z_X12_thing hid em) mi_X12_thing ml_RL_36 rfl rfl (Nat.le_of_ble_eq_true rfl) (Nat.le_of_ble_eq_true rfl) (Nat.le_of_ble_eq_true rfl) dL_law_354 (fun r2 σ2 q2 => ?_)
  obtain ⟨er2, es2⟩ := q2
  subst es2
  subst er2
  refine a_pop C dL_law_357 rfl ?_
  exact a_goto C dL_law_358 (tgt := 1338) rfl (K _ hN)
set_option maxHeartbeats 4000000 in
set_option maxRecDepth 100000 in
theorem la_5 {Γ : GT} {ids : List Nat} {ad : Nat → Nat} {ca : Nat → ClassId} {l0 : Launch} {D0 : va_G} {b L n : Nat} {i : Int32} {xs : Nat → Int32} {σ : HS} {K9 : (Nat → Nat) × (Nat → Nat)} (C : CT ids ad ca Γ code RL l0 D0 2048 84000 4) (X : SX Γ b L xs) (E9 : SG K9 Γ) (hid : ∀ i, i < 277 → i ∈ ids) (hi : i.toInt = 6 * (n : Int)) (hL : 6 * n + 6 ≤ L) (hLL : L ≤ 3072) (hI : REL n σ) (K : ∀ σ : HS, REL (n + 1) σ → AW ids ad ca Γ 1338 [some (.ref b), some (.ref (ad 0)), some (.ref (ad 236)), some (.int i)] [] σ) : AW ids ad ca Γ 361 [some (.ref b), some (.ref (ad 0)), some (.ref (ad 236)), some (.int i)] [] σ := by
  refine a_aload_n C dL_law_361 (i := 1) rfl rfl ?_
  refine a_aload_n C dL_law_362 (i := 0) rfl rfl ?_
  refine a_iload_n C dL_law_363 (i := 3) rfl rfl ?_
  refine s_iconst C dL_law_364 (1) (by decide) (fun z97 h98 => ?_)
  refine s_iadd C dL_law_365 (by omega) (fun z99 h100 => ?_)
  refine s_sld C X (by omega) (by omega) dL_law_366 (fun m101 h102 => ?_)
  refine a_aload_n C dL_law_367 (i := 0) rfl rfl ?_
  refine a_iload_n C dL_law_368 (i := 3) rfl rfl ?_
  refine s_iconst C dL_law_369 (2) (by decide) (fun z103 h104 => ?_)
  refine s_iadd C dL_law_370 (by omega) (fun z105 h106 => ?_)
  refine s_sld C X (by omega) (by omega) dL_law_371 (fun m107 h108 => ?_)
  have hS : SIM n (f_X11_pattern (xs m101) (xs m107)) (f_X12_pattern (xs m101) (xs m107)) := sim_pattern
  obtain ⟨r9, s9, s8, ec, em, hN⟩ := hS σ hI
  refine a_callVi C (i := 0) kd_0 (hid 0 (by decide)) ⟨_, _, rfl⟩ (by decide) (Z_X11_pattern hid ec) mi_X11_pattern ml_RL_37 rfl rfl (Nat.le_of_ble_eq_true rfl) (Nat.le_of_ble_eq_true rfl) (Nat.le_of_ble_eq_true rfl) dL_law_372 (fun r σ1 q1 => ?_)
  obtain ⟨er, es⟩ := q1
  subst es
  subst er
  refine a_pop C dL_law_375 rfl ?_
  refine a_aload_n C dL_law_376 (i := 2) rfl rfl ?_
  refine a_aload_n C dL_law_377 (i := 0) rfl rfl ?_
  refine a_iload_n C dL_law_378 (i := 3) rfl rfl ?_
  refine s_iconst C dL_law_379 (1) (by decide) (fun z109 h110 => ?_)
  refine s_iadd C dL_law_380 (by omega) (fun z111 h112 => ?_)
  refine s_sld C X (by omega) (by omega) dL_law_381 (fun m113 h114 => ?_)
  refine a_aload_n C dL_law_382 (i := 0) rfl rfl ?_
  refine a_iload_n C dL_law_383 (i := 3) rfl rfl ?_
  refine s_iconst C dL_law_384 (2) (by decide) (fun z115 h116 => ?_)
  refine s_iadd C dL_law_385 (by omega) (fun z117 h118 => ?_)
  refine s_sld C X (by omega) (by omega) dL_law_386 (fun m119 h120 => ?_)
  obtain rfl : m113 = m101 := by omega
  obtain rfl : m119 = m107 := by omega
  refine a_callVi C (i := 236) kd_236 (hid 236 (by decide)) ⟨_, _, rfl⟩ (by decide) (Z_X12_pattern hid em) mi_X12_pattern ml_RL_40 rfl rfl (Nat.le_of_ble_eq_true rfl) (Nat.le_of_ble_eq_true rfl) (Nat.le_of_ble_eq_true rfl) dL_law_387 (fun r2 σ2 q2 => ?_)
  obtain ⟨er2, es2⟩ := q2
  subst es2
  subst er2
  refine a_pop C dL_law_390 rfl ?_
  exact a_goto C dL_law_391 (tgt := 1338) rfl (K _ hN)
set_option maxHeartbeats 4000000 in
set_option maxRecDepth 100000 in
theorem la_6 {Γ : GT} {ids : List Nat} {ad : Nat → Nat} {ca : Nat → ClassId} {l0 : Launch} {D0 : va_G} {b L n : Nat} {i : Int32} {xs : Nat → Int32} {σ : HS} {K9 : (Nat → Nat) × (Nat → Nat)} (C : CT ids ad ca Γ code RL l0 D0 2048 84000 4) (X : SX Γ b L xs) (E9 : SG K9 Γ) (hid : ∀ i, i < 277 → i ∈ ids) (hi : i.toInt = 6 * (n : Int)) (hL : 6 * n + 6 ≤ L) (hLL : L ≤ 3072) (hI : REL n σ) (K : ∀ σ : HS, REL (n + 1) σ → AW ids ad ca Γ 1338 [some (.ref b), some (.ref (ad 0)), some (.ref (ad 236)), some (.int i)] [] σ) : AW ids ad ca Γ 394 [some (.ref b), some (.ref (ad 0)), some (.ref (ad 236)), some (.int i)] [] σ := by
  refine a_aload_n C dL_law_394 (i := 1) rfl rfl ?_
  refine a_aload_n C dL_law_395 (i := 0) rfl rfl ?_
  refine a_iload_n C dL_law_396 (i := 3) rfl rfl ?_
  refine s_iconst C dL_law_397 (1) (by decide) (fun z121 h122 => ?_)
  refine s_iadd C dL_law_398 (by omega) (fun z123 h124 => ?_)
  refine s_sld C X (by omega) (by omega) dL_law_399 (fun m125 h126 => ?_)
  refine a_aload_n C dL_law_400 (i := 0) rfl rfl ?_
  refine a_iload_n C dL_law_401 (i := 3) rfl rfl ?_
  refine s_iconst C dL_law_402 (2) (by decide) (fun z127 h128 => ?_)
  refine s_iadd C dL_law_403 (by omega) (fun z129 h130 => ?_)
  refine s_sld C X (by omega) (by omega) dL_law_404 (fun m131 h132 => ?_)
  refine a_aload_n C dL_law_405 (i := 0) rfl rfl ?_
  refine a_iload_n C dL_law_406 (i := 3) rfl rfl ?_
  refine s_iconst C dL_law_407 (3) (by decide) (fun z133 h134 => ?_)
  refine s_iadd C dL_law_408 (by omega) (fun z135 h136 => ?_)
  refine s_sld C X (by omega) (by omega) dL_law_409 (fun m137 h138 => ?_)
  have hS : SIM n (f_X11_tells (xs m125) (xs m131) (xs m137)) (f_X12_tells (xs m125) (xs m131) (xs m137)) := sim_tells
  obtain ⟨r9, s9, s8, ec, em, hN⟩ := hS σ hI
  refine a_callVi C (i := 0) kd_0 (hid 0 (by decide)) ⟨_, _, rfl⟩ (by decide) (Z_X11_tells hid ec) mi_X11_tells ml_RL_41 rfl rfl (Nat.le_of_ble_eq_true rfl) (Nat.le_of_ble_eq_true rfl) (Nat.le_of_ble_eq_true rfl) dL_law_410 (fun r σ1 q1 => ?_)
  obtain ⟨er, es⟩ := q1
  subst es
  subst er
  refine a_pop C dL_law_413 rfl ?_
  refine a_aload_n C dL_law_414 (i := 2) rfl rfl ?_
  refine a_aload_n C dL_law_415 (i := 0) rfl rfl ?_
  refine a_iload_n C dL_law_416 (i := 3) rfl rfl ?_
  refine s_iconst C dL_law_417 (1) (by decide) (fun z139 h140 => ?_)
  refine s_iadd C dL_law_418 (by omega) (fun z141 h142 => ?_)
  refine s_sld C X (by omega) (by omega) dL_law_419 (fun m143 h144 => ?_)
  refine a_aload_n C dL_law_420 (i := 0) rfl rfl ?_
  refine a_iload_n C dL_law_421 (i := 3) rfl rfl ?_
  refine s_iconst C dL_law_422 (2) (by decide) (fun z145 h146 => ?_)
  refine s_iadd C dL_law_423 (by omega) (fun z147 h148 => ?_)
  refine s_sld C X (by omega) (by omega) dL_law_424 (fun m149 h150 => ?_)
  refine a_aload_n C dL_law_425 (i := 0) rfl rfl ?_
  refine a_iload_n C dL_law_426 (i := 3) rfl rfl ?_
  refine s_iconst C dL_law_427 (3) (by decide) (fun z151 h152 => ?_)
  refine s_iadd C dL_law_428 (by omega) (fun z153 h154 => ?_)
  refine s_sld C X (by omega) (by omega) dL_law_429 (fun m155 h156 => ?_)
  obtain rfl : m143 = m125 := by omega
  obtain rfl : m149 = m131 := by omega
  obtain rfl : m155 = m137 := by omega
  refine a_callVi C (i := 236) kd_236 (hid 236 (by decide)) ⟨_, _, rfl⟩ (by decide) (Z_X12_tells hid em) mi_X12_tells ml_RL_45 rfl rfl (Nat.le_of_ble_eq_true rfl) (Nat.le_of_ble_eq_true rfl) (Nat.le_of_ble_eq_true rfl) dL_law_430 (fun r2 σ2 q2 => ?_)
  obtain ⟨er2, es2⟩ := q2
  subst es2
  subst er2
  refine a_pop C dL_law_433 rfl ?_
  exact a_goto C dL_law_434 (tgt := 1338) rfl (K _ hN)
set_option maxHeartbeats 4000000 in
set_option maxRecDepth 100000 in
theorem la_7 {Γ : GT} {ids : List Nat} {ad : Nat → Nat} {ca : Nat → ClassId} {l0 : Launch} {D0 : va_G} {b L n : Nat} {i : Int32} {xs : Nat → Int32} {σ : HS} {K9 : (Nat → Nat) × (Nat → Nat)} (C : CT ids ad ca Γ code RL l0 D0 2048 84000 4) (X : SX Γ b L xs) (E9 : SG K9 Γ) (hid : ∀ i, i < 277 → i ∈ ids) (hi : i.toInt = 6 * (n : Int)) (hL : 6 * n + 6 ≤ L) (hLL : L ≤ 3072) (hI : REL n σ) (K : ∀ σ : HS, REL (n + 1) σ → AW ids ad ca Γ 1338 [some (.ref b), some (.ref (ad 0)), some (.ref (ad 236)), some (.int i)] [] σ) : AW ids ad ca Γ 437 [some (.ref b), some (.ref (ad 0)), some (.ref (ad 236)), some (.int i)] [] σ := by
  refine a_aload_n C dL_law_437 (i := 1) rfl rfl ?_
  refine a_aload_n C dL_law_438 (i := 0) rfl rfl ?_
  refine a_iload_n C dL_law_439 (i := 3) rfl rfl ?_
  refine s_iconst C dL_law_440 (1) (by decide) (fun z157 h158 => ?_)
  refine s_iadd C dL_law_441 (by omega) (fun z159 h160 => ?_)
  refine s_sld C X (by omega) (by omega) dL_law_442 (fun m161 h162 => ?_)
  refine a_aload_n C dL_law_443 (i := 0) rfl rfl ?_
  refine a_iload_n C dL_law_444 (i := 3) rfl rfl ?_
  refine s_iconst C dL_law_445 (2) (by decide) (fun z163 h164 => ?_)
  refine s_iadd C dL_law_446 (by omega) (fun z165 h166 => ?_)
  refine s_sld C X (by omega) (by omega) dL_law_447 (fun m167 h168 => ?_)
  have hS : SIM n (f_X11_throwIn (xs m161) (xs m167)) (f_X12_throwIn (xs m161) (xs m167)) := sim_throwIn
  obtain ⟨r9, s9, s8, ec, em, hN⟩ := hS σ hI
  refine a_callVi C (i := 0) kd_0 (hid 0 (by decide)) ⟨_, _, rfl⟩ (by decide) (Z_X11_throwIn hid ec) mi_X11_throwIn ml_RL_46 rfl rfl (Nat.le_of_ble_eq_true rfl) (Nat.le_of_ble_eq_true rfl) (Nat.le_of_ble_eq_true rfl) dL_law_448 (fun r σ1 q1 => ?_)
  obtain ⟨er, es⟩ := q1
  subst es
  subst er
  refine a_pop C dL_law_451 rfl ?_
  refine a_aload_n C dL_law_452 (i := 2) rfl rfl ?_
  refine a_aload_n C dL_law_453 (i := 0) rfl rfl ?_
  refine a_iload_n C dL_law_454 (i := 3) rfl rfl ?_
  refine s_iconst C dL_law_455 (1) (by decide) (fun z169 h170 => ?_)
  refine s_iadd C dL_law_456 (by omega) (fun z171 h172 => ?_)
  refine s_sld C X (by omega) (by omega) dL_law_457 (fun m173 h174 => ?_)
  refine a_aload_n C dL_law_458 (i := 0) rfl rfl ?_
  refine a_iload_n C dL_law_459 (i := 3) rfl rfl ?_
  refine s_iconst C dL_law_460 (2) (by decide) (fun z175 h176 => ?_)
  refine s_iadd C dL_law_461 (by omega) (fun z177 h178 => ?_)
  refine s_sld C X (by omega) (by omega) dL_law_462 (fun m179 h180 => ?_)
  obtain rfl : m173 = m161 := by omega
  obtain rfl : m179 = m167 := by omega
  refine a_callVi C (i := 236) kd_236 (hid 236 (by decide)) ⟨_, _, rfl⟩ (by decide) (Z_X12_throwIn hid em) mi_X12_throwIn ml_RL_50 rfl rfl (Nat.le_of_ble_eq_true rfl) (Nat.le_of_ble_eq_true rfl) (Nat.le_of_ble_eq_true rfl) dL_law_463 (fun r2 σ2 q2 => ?_)
  obtain ⟨er2, es2⟩ := q2
  subst es2
  subst er2
  refine a_pop C dL_law_466 rfl ?_
  exact a_goto C dL_law_467 (tgt := 1338) rfl (K _ hN)
set_option maxHeartbeats 4000000 in
set_option maxRecDepth 100000 in
theorem la_8 {Γ : GT} {ids : List Nat} {ad : Nat → Nat} {ca : Nat → ClassId} {l0 : Launch} {D0 : va_G} {b L n : Nat} {i : Int32} {xs : Nat → Int32} {σ : HS} {K9 : (Nat → Nat) × (Nat → Nat)} (C : CT ids ad ca Γ code RL l0 D0 2048 84000 4) (X : SX Γ b L xs) (E9 : SG K9 Γ) (hid : ∀ i, i < 277 → i ∈ ids) (hi : i.toInt = 6 * (n : Int)) (hL : 6 * n + 6 ≤ L) (hLL : L ≤ 3072) (hI : REL n σ) (K : ∀ σ : HS, REL (n + 1) σ → AW ids ad ca Γ 1338 [some (.ref b), some (.ref (ad 0)), some (.ref (ad 236)), some (.int i)] [] σ) : AW ids ad ca Γ 470 [some (.ref b), some (.ref (ad 0)), some (.ref (ad 236)), some (.int i)] [] σ := by
  refine a_aload_n C dL_law_470 (i := 1) rfl rfl ?_
  refine a_aload_n C dL_law_471 (i := 0) rfl rfl ?_
  refine a_iload_n C dL_law_472 (i := 3) rfl rfl ?_
  refine s_iconst C dL_law_473 (1) (by decide) (fun z181 h182 => ?_)
  refine s_iadd C dL_law_474 (by omega) (fun z183 h184 => ?_)
  refine s_sld C X (by omega) (by omega) dL_law_475 (fun m185 h186 => ?_)
  have hS : SIM n (f_X11_use (xs m185)) (f_X12_use (xs m185)) := sim_use
  obtain ⟨r9, s9, s8, ec, em, hN⟩ := hS σ hI
  refine a_callVi C (i := 0) kd_0 (hid 0 (by decide)) ⟨_, _, rfl⟩ (by decide) (Z_X11_use hid ec) mi_X11_use ml_RL_51 rfl rfl (Nat.le_of_ble_eq_true rfl) (Nat.le_of_ble_eq_true rfl) (Nat.le_of_ble_eq_true rfl) dL_law_476 (fun r σ1 q1 => ?_)
  obtain ⟨er, es⟩ := q1
  subst es
  subst er
  refine a_pop C dL_law_479 rfl ?_
  refine a_aload_n C dL_law_480 (i := 2) rfl rfl ?_
  refine a_aload_n C dL_law_481 (i := 0) rfl rfl ?_
  refine a_iload_n C dL_law_482 (i := 3) rfl rfl ?_
  refine s_iconst C dL_law_483 (1) (by decide) (fun z187 h188 => ?_)
  refine s_iadd C dL_law_484 (by omega) (fun z189 h190 => ?_)
  refine s_sld C X (by omega) (by omega) dL_law_485 (fun m191 h192 => ?_)
  obtain rfl : m191 = m185 := by omega
  refine a_callVi C (i := 236) kd_236 (hid 236 (by decide)) ⟨_, _, rfl⟩ (by decide) (Z_X12_use hid em) mi_X12_use ml_RL_55 rfl rfl (Nat.le_of_ble_eq_true rfl) (Nat.le_of_ble_eq_true rfl) (Nat.le_of_ble_eq_true rfl) dL_law_486 (fun r2 σ2 q2 => ?_)
  obtain ⟨er2, es2⟩ := q2
  subst es2
  subst er2
  refine a_pop C dL_law_489 rfl ?_
  exact a_goto C dL_law_490 (tgt := 1338) rfl (K _ hN)
set_option maxHeartbeats 4000000 in
set_option maxRecDepth 100000 in
theorem la_9 {Γ : GT} {ids : List Nat} {ad : Nat → Nat} {ca : Nat → ClassId} {l0 : Launch} {D0 : va_G} {b L n : Nat} {i : Int32} {xs : Nat → Int32} {σ : HS} {K9 : (Nat → Nat) × (Nat → Nat)} (C : CT ids ad ca Γ code RL l0 D0 2048 84000 4) (X : SX Γ b L xs) (E9 : SG K9 Γ) (hid : ∀ i, i < 277 → i ∈ ids) (hi : i.toInt = 6 * (n : Int)) (hL : 6 * n + 6 ≤ L) (hLL : L ≤ 3072) (hI : REL n σ) (K : ∀ σ : HS, REL (n + 1) σ → AW ids ad ca Γ 1338 [some (.ref b), some (.ref (ad 0)), some (.ref (ad 236)), some (.int i)] [] σ) : AW ids ad ca Γ 493 [some (.ref b), some (.ref (ad 0)), some (.ref (ad 236)), some (.int i)] [] σ := by
  refine a_aload_n C dL_law_493 (i := 1) rfl rfl ?_
  refine a_aload_n C dL_law_494 (i := 0) rfl rfl ?_
  refine a_iload_n C dL_law_495 (i := 3) rfl rfl ?_
  refine s_iconst C dL_law_496 (1) (by decide) (fun z193 h194 => ?_)
  refine s_iadd C dL_law_497 (by omega) (fun z195 h196 => ?_)
  refine s_sld C X (by omega) (by omega) dL_law_498 (fun m197 h198 => ?_)
  have hS : SIM n (f_X11_set (xs m197)) (f_X12_set (xs m197)) := sim_set
  obtain ⟨r9, s9, s8, ec, em, hN⟩ := hS σ hI
  refine a_callVi C (i := 0) kd_0 (hid 0 (by decide)) ⟨_, _, rfl⟩ (by decide) (Z_X11_set hid ec) mi_X11_set ml_RL_56 rfl rfl (Nat.le_of_ble_eq_true rfl) (Nat.le_of_ble_eq_true rfl) (Nat.le_of_ble_eq_true rfl) dL_law_499 (fun r σ1 q1 => ?_)
  obtain ⟨er, es⟩ := q1
  subst es
  subst er
  refine a_pop C dL_law_502 rfl ?_
  refine a_aload_n C dL_law_503 (i := 2) rfl rfl ?_
  refine a_aload_n C dL_law_504 (i := 0) rfl rfl ?_
  refine a_iload_n C dL_law_505 (i := 3) rfl rfl ?_
  refine s_iconst C dL_law_506 (1) (by decide) (fun z199 h200 => ?_)
  refine s_iadd C dL_law_507 (by omega) (fun z201 h202 => ?_)
  refine s_sld C X (by omega) (by omega) dL_law_508 (fun m203 h204 => ?_)
  obtain rfl : m203 = m197 := by omega
  refine a_callVi C (i := 236) kd_236 (hid 236 (by decide)) ⟨_, _, rfl⟩ (by decide) (Z_X12_set hid em) mi_X12_set ml_RL_59 rfl rfl (Nat.le_of_ble_eq_true rfl) (Nat.le_of_ble_eq_true rfl) (Nat.le_of_ble_eq_true rfl) dL_law_509 (fun r2 σ2 q2 => ?_)
  obtain ⟨er2, es2⟩ := q2
  subst es2
  subst er2
  refine a_pop C dL_law_512 rfl ?_
  exact a_goto C dL_law_513 (tgt := 1338) rfl (K _ hN)
set_option maxHeartbeats 4000000 in
set_option maxRecDepth 100000 in
theorem la_10 {Γ : GT} {ids : List Nat} {ad : Nat → Nat} {ca : Nat → ClassId} {l0 : Launch} {D0 : va_G} {b L n : Nat} {i : Int32} {xs : Nat → Int32} {σ : HS} {K9 : (Nat → Nat) × (Nat → Nat)} (C : CT ids ad ca Γ code RL l0 D0 2048 84000 4) (X : SX Γ b L xs) (E9 : SG K9 Γ) (hid : ∀ i, i < 277 → i ∈ ids) (hi : i.toInt = 6 * (n : Int)) (hL : 6 * n + 6 ≤ L) (hLL : L ≤ 3072) (hI : REL n σ) (K : ∀ σ : HS, REL (n + 1) σ → AW ids ad ca Γ 1338 [some (.ref b), some (.ref (ad 0)), some (.ref (ad 236)), some (.int i)] [] σ) : AW ids ad ca Γ 516 [some (.ref b), some (.ref (ad 0)), some (.ref (ad 236)), some (.int i)] [] σ := by
  refine a_aload_n C dL_law_516 (i := 1) rfl rfl ?_
  refine a_aload_n C dL_law_517 (i := 0) rfl rfl ?_
  refine a_iload_n C dL_law_518 (i := 3) rfl rfl ?_
  refine s_iconst C dL_law_519 (1) (by decide) (fun z205 h206 => ?_)
  refine s_iadd C dL_law_520 (by omega) (fun z207 h208 => ?_)
  refine s_sld C X (by omega) (by omega) dL_law_521 (fun m209 h210 => ?_)
  have hS : SIM n (f_X11_beats (xs m209)) (f_X12_beats (xs m209)) := sim_beats (by omega)
  obtain ⟨r9, s9, s8, ec, em, hN⟩ := hS σ hI
  refine a_callVi C (i := 0) kd_0 (hid 0 (by decide)) ⟨_, _, rfl⟩ (by decide) (Z_X11_beats hid ec) mi_X11_beats ml_RL_60 rfl rfl (Nat.le_of_ble_eq_true rfl) (Nat.le_of_ble_eq_true rfl) (Nat.le_of_ble_eq_true rfl) dL_law_522 (fun r σ1 q1 => ?_)
  obtain ⟨er, es⟩ := q1
  subst es
  subst er
  refine a_pop C dL_law_525 rfl ?_
  refine a_aload_n C dL_law_526 (i := 2) rfl rfl ?_
  refine a_aload_n C dL_law_527 (i := 0) rfl rfl ?_
  refine a_iload_n C dL_law_528 (i := 3) rfl rfl ?_
  refine s_iconst C dL_law_529 (1) (by decide) (fun z211 h212 => ?_)
  refine s_iadd C dL_law_530 (by omega) (fun z213 h214 => ?_)
  refine s_sld C X (by omega) (by omega) dL_law_531 (fun m215 h216 => ?_)
  obtain rfl : m215 = m209 := by omega
  refine a_callVi C (i := 236) kd_236 (hid 236 (by decide)) ⟨_, _, rfl⟩ (by decide) (Z_X12_beats hid em) mi_X12_beats ml_RL_63 rfl rfl (Nat.le_of_ble_eq_true rfl) (Nat.le_of_ble_eq_true rfl) (Nat.le_of_ble_eq_true rfl) dL_law_532 (fun r2 σ2 q2 => ?_)
  obtain ⟨er2, es2⟩ := q2
  subst es2
  subst er2
  refine a_pop C dL_law_535 rfl ?_
  exact a_goto C dL_law_536 (tgt := 1338) rfl (K _ hN)
set_option maxHeartbeats 4000000 in
set_option maxRecDepth 100000 in
theorem la_11 {Γ : GT} {ids : List Nat} {ad : Nat → Nat} {ca : Nat → ClassId} {l0 : Launch} {D0 : va_G} {b L n : Nat} {i : Int32} {xs : Nat → Int32} {σ : HS} {K9 : (Nat → Nat) × (Nat → Nat)} (C : CT ids ad ca Γ code RL l0 D0 2048 84000 4) (X : SX Γ b L xs) (E9 : SG K9 Γ) (hid : ∀ i, i < 277 → i ∈ ids) (hi : i.toInt = 6 * (n : Int)) (hL : 6 * n + 6 ≤ L) (hLL : L ≤ 3072) (hI : REL n σ) (K : ∀ σ : HS, REL (n + 1) σ → AW ids ad ca Γ 1338 [some (.ref b), some (.ref (ad 0)), some (.ref (ad 236)), some (.int i)] [] σ) : AW ids ad ca Γ 539 [some (.ref b), some (.ref (ad 0)), some (.ref (ad 236)), some (.int i)] [] σ := by
  refine a_aload_n C dL_law_539 (i := 1) rfl rfl ?_
  have hS : SIM n (f_X11_undo) (f_X12_undo) := sim_undo
  obtain ⟨r9, s9, s8, ec, em, hN⟩ := hS σ hI
  refine a_callVi C (i := 0) kd_0 (hid 0 (by decide)) ⟨_, _, rfl⟩ (by decide) (Z_X11_undo hid ec) mi_X11_undo ml_RL_64 rfl rfl (Nat.le_of_ble_eq_true rfl) (Nat.le_of_ble_eq_true rfl) (Nat.le_of_ble_eq_true rfl) dL_law_540 (fun r σ1 q1 => ?_)
  obtain ⟨er, es⟩ := q1
  subst es
  subst er
  refine a_pop C dL_law_543 rfl ?_
  refine a_aload_n C dL_law_544 (i := 2) rfl rfl ?_
  refine a_callVi C (i := 236) kd_236 (hid 236 (by decide)) ⟨_, _, rfl⟩ (by decide) (Z_X12_undo hid em) mi_X12_undo ml_RL_68 rfl rfl (Nat.le_of_ble_eq_true rfl) (Nat.le_of_ble_eq_true rfl) (Nat.le_of_ble_eq_true rfl) dL_law_545 (fun r2 σ2 q2 => ?_)
  obtain ⟨er2, es2⟩ := q2
  subst es2
  subst er2
  refine a_pop C dL_law_548 rfl ?_
  exact a_goto C dL_law_549 (tgt := 1338) rfl (K _ hN)
set_option maxHeartbeats 4000000 in
set_option maxRecDepth 100000 in
theorem la_12 {Γ : GT} {ids : List Nat} {ad : Nat → Nat} {ca : Nat → ClassId} {l0 : Launch} {D0 : va_G} {b L n : Nat} {i : Int32} {xs : Nat → Int32} {σ : HS} {K9 : (Nat → Nat) × (Nat → Nat)} (C : CT ids ad ca Γ code RL l0 D0 2048 84000 4) (X : SX Γ b L xs) (E9 : SG K9 Γ) (hid : ∀ i, i < 277 → i ∈ ids) (hi : i.toInt = 6 * (n : Int)) (hL : 6 * n + 6 ≤ L) (hLL : L ≤ 3072) (hI : REL n σ) (K : ∀ σ : HS, REL (n + 1) σ → AW ids ad ca Γ 1338 [some (.ref b), some (.ref (ad 0)), some (.ref (ad 236)), some (.int i)] [] σ) : AW ids ad ca Γ 552 [some (.ref b), some (.ref (ad 0)), some (.ref (ad 236)), some (.int i)] [] σ := by
  refine a_aload_n C dL_law_552 (i := 1) rfl rfl ?_
  refine a_aload_n C dL_law_553 (i := 0) rfl rfl ?_
  refine a_iload_n C dL_law_554 (i := 3) rfl rfl ?_
  refine s_iconst C dL_law_555 (1) (by decide) (fun z217 h218 => ?_)
  refine s_iadd C dL_law_556 (by omega) (fun z219 h220 => ?_)
  refine s_sld C X (by omega) (by omega) dL_law_557 (fun m221 h222 => ?_)
  refine a_aload_n C dL_law_558 (i := 0) rfl rfl ?_
  refine a_iload_n C dL_law_559 (i := 3) rfl rfl ?_
  refine s_iconst C dL_law_560 (2) (by decide) (fun z223 h224 => ?_)
  refine s_iadd C dL_law_561 (by omega) (fun z225 h226 => ?_)
  refine s_sld C X (by omega) (by omega) dL_law_562 (fun m227 h228 => ?_)
  have hS : SIM n (f_X11_closes (xs m221) (xs m227)) (f_X12_closes (xs m221) (xs m227)) := sim_closes
  obtain ⟨r9, s9, s8, ec, em, hN⟩ := hS σ hI
  refine a_callVi C (i := 0) kd_0 (hid 0 (by decide)) ⟨_, _, rfl⟩ (by decide) (Z_X11_closes hid ec) mi_X11_closes ml_RL_69 rfl rfl (Nat.le_of_ble_eq_true rfl) (Nat.le_of_ble_eq_true rfl) (Nat.le_of_ble_eq_true rfl) dL_law_563 (fun r σ1 q1 => ?_)
  obtain ⟨er, es⟩ := q1
  subst es
  subst er
  refine a_pop C dL_law_566 rfl ?_
  refine a_aload_n C dL_law_567 (i := 2) rfl rfl ?_
  refine a_aload_n C dL_law_568 (i := 0) rfl rfl ?_
  refine a_iload_n C dL_law_569 (i := 3) rfl rfl ?_
  refine s_iconst C dL_law_570 (1) (by decide) (fun z229 h230 => ?_)
  refine s_iadd C dL_law_571 (by omega) (fun z231 h232 => ?_)
  refine s_sld C X (by omega) (by omega) dL_law_572 (fun m233 h234 => ?_)
  refine a_aload_n C dL_law_573 (i := 0) rfl rfl ?_
  refine a_iload_n C dL_law_574 (i := 3) rfl rfl ?_
  refine s_iconst C dL_law_575 (2) (by decide) (fun z235 h236 => ?_)
  refine s_iadd C dL_law_576 (by omega) (fun z237 h238 => ?_)
  refine s_sld C X (by omega) (by omega) dL_law_577 (fun m239 h240 => ?_)
  obtain rfl : m233 = m221 := by omega
  obtain rfl : m239 = m227 := by omega
  refine a_callVi C (i := 236) kd_236 (hid 236 (by decide)) ⟨_, _, rfl⟩ (by decide) (Z_X12_closes hid em) mi_X12_closes ml_RL_72 rfl rfl (Nat.le_of_ble_eq_true rfl) (Nat.le_of_ble_eq_true rfl) (Nat.le_of_ble_eq_true rfl) dL_law_578 (fun r2 σ2 q2 => ?_)
  obtain ⟨er2, es2⟩ := q2
  subst es2
  subst er2
  refine a_pop C dL_law_581 rfl ?_
  exact a_goto C dL_law_582 (tgt := 1338) rfl (K _ hN)
set_option maxHeartbeats 4000000 in
set_option maxRecDepth 100000 in
theorem la_13 {Γ : GT} {ids : List Nat} {ad : Nat → Nat} {ca : Nat → ClassId} {l0 : Launch} {D0 : va_G} {b L n : Nat} {i : Int32} {xs : Nat → Int32} {σ : HS} {K9 : (Nat → Nat) × (Nat → Nat)} (C : CT ids ad ca Γ code RL l0 D0 2048 84000 4) (X : SX Γ b L xs) (E9 : SG K9 Γ) (hid : ∀ i, i < 277 → i ∈ ids) (hi : i.toInt = 6 * (n : Int)) (hL : 6 * n + 6 ≤ L) (hLL : L ≤ 3072) (hI : REL n σ) (K : ∀ σ : HS, REL (n + 1) σ → AW ids ad ca Γ 1338 [some (.ref b), some (.ref (ad 0)), some (.ref (ad 236)), some (.int i)] [] σ) : AW ids ad ca Γ 585 [some (.ref b), some (.ref (ad 0)), some (.ref (ad 236)), some (.int i)] [] σ := by
  refine a_aload_n C dL_law_585 (i := 1) rfl rfl ?_
  have hS : SIM n (f_X11_lands) (f_X12_lands) := sim_lands
  obtain ⟨r9, s9, s8, ec, em, hN⟩ := hS σ hI
  refine a_callVi C (i := 0) kd_0 (hid 0 (by decide)) ⟨_, _, rfl⟩ (by decide) (Z_X11_lands hid ec) mi_X11_lands ml_RL_73 rfl rfl (Nat.le_of_ble_eq_true rfl) (Nat.le_of_ble_eq_true rfl) (Nat.le_of_ble_eq_true rfl) dL_law_586 (fun r σ1 q1 => ?_)
  obtain ⟨er, es⟩ := q1
  subst es
  subst er
  refine a_pop C dL_law_589 rfl ?_
  refine a_aload_n C dL_law_590 (i := 2) rfl rfl ?_
  refine a_callVi C (i := 236) kd_236 (hid 236 (by decide)) ⟨_, _, rfl⟩ (by decide) (Z_X12_lands hid em) mi_X12_lands ml_RL_76 rfl rfl (Nat.le_of_ble_eq_true rfl) (Nat.le_of_ble_eq_true rfl) (Nat.le_of_ble_eq_true rfl) dL_law_591 (fun r2 σ2 q2 => ?_)
  obtain ⟨er2, es2⟩ := q2
  subst es2
  subst er2
  refine a_pop C dL_law_594 rfl ?_
  exact a_goto C dL_law_595 (tgt := 1338) rfl (K _ hN)
set_option maxHeartbeats 4000000 in
set_option maxRecDepth 100000 in
theorem la_14 {Γ : GT} {ids : List Nat} {ad : Nat → Nat} {ca : Nat → ClassId} {l0 : Launch} {D0 : va_G} {b L n : Nat} {i : Int32} {xs : Nat → Int32} {σ : HS} {K9 : (Nat → Nat) × (Nat → Nat)} (C : CT ids ad ca Γ code RL l0 D0 2048 84000 4) (X : SX Γ b L xs) (E9 : SG K9 Γ) (hid : ∀ i, i < 277 → i ∈ ids) (hi : i.toInt = 6 * (n : Int)) (hL : 6 * n + 6 ≤ L) (hLL : L ≤ 3072) (hI : REL n σ) (K : ∀ σ : HS, REL (n + 1) σ → AW ids ad ca Γ 1338 [some (.ref b), some (.ref (ad 0)), some (.ref (ad 236)), some (.int i)] [] σ) : AW ids ad ca Γ 598 [some (.ref b), some (.ref (ad 0)), some (.ref (ad 236)), some (.int i)] [] σ := by
  refine a_aload_n C dL_law_598 (i := 1) rfl rfl ?_
  refine a_aload_n C dL_law_599 (i := 0) rfl rfl ?_
  refine a_iload_n C dL_law_600 (i := 3) rfl rfl ?_
  refine s_iconst C dL_law_601 (1) (by decide) (fun z241 h242 => ?_)
  refine s_iadd C dL_law_602 (by omega) (fun z243 h244 => ?_)
  refine s_sld C X (by omega) (by omega) dL_law_603 (fun m245 h246 => ?_)
  have hS : SIM n (f_X11_inHand (xs m245)) (f_X12_inHand (xs m245)) := sim_inHand (by omega)
  obtain ⟨r9, s9, s8, ec, em, hN⟩ := hS σ hI
  refine a_callVi C (i := 0) kd_0 (hid 0 (by decide)) ⟨_, _, rfl⟩ (by decide) (Z_X11_inHand hid ec) mi_X11_inHand ml_RL_77 rfl rfl (Nat.le_of_ble_eq_true rfl) (Nat.le_of_ble_eq_true rfl) (Nat.le_of_ble_eq_true rfl) dL_law_604 (fun r σ1 q1 => ?_)
  obtain ⟨er, es⟩ := q1
  subst es
  subst er
  refine a_pop C dL_law_607 rfl ?_
  refine a_aload_n C dL_law_608 (i := 2) rfl rfl ?_
  refine a_aload_n C dL_law_609 (i := 0) rfl rfl ?_
  refine a_iload_n C dL_law_610 (i := 3) rfl rfl ?_
  refine s_iconst C dL_law_611 (1) (by decide) (fun z247 h248 => ?_)
  refine s_iadd C dL_law_612 (by omega) (fun z249 h250 => ?_)
  refine s_sld C X (by omega) (by omega) dL_law_613 (fun m251 h252 => ?_)
  obtain rfl : m251 = m245 := by omega
  refine a_callVi C (i := 236) kd_236 (hid 236 (by decide)) ⟨_, _, rfl⟩ (by decide) (Z_X12_inHand hid em) mi_X12_inHand ml_RL_80 rfl rfl (Nat.le_of_ble_eq_true rfl) (Nat.le_of_ble_eq_true rfl) (Nat.le_of_ble_eq_true rfl) dL_law_614 (fun r2 σ2 q2 => ?_)
  obtain ⟨er2, es2⟩ := q2
  subst es2
  subst er2
  refine a_pop C dL_law_617 rfl ?_
  exact a_goto C dL_law_618 (tgt := 1338) rfl (K _ hN)
set_option maxHeartbeats 4000000 in
set_option maxRecDepth 100000 in
theorem la_15 {Γ : GT} {ids : List Nat} {ad : Nat → Nat} {ca : Nat → ClassId} {l0 : Launch} {D0 : va_G} {b L n : Nat} {i : Int32} {xs : Nat → Int32} {σ : HS} {K9 : (Nat → Nat) × (Nat → Nat)} (C : CT ids ad ca Γ code RL l0 D0 2048 84000 4) (X : SX Γ b L xs) (E9 : SG K9 Γ) (hid : ∀ i, i < 277 → i ∈ ids) (hi : i.toInt = 6 * (n : Int)) (hL : 6 * n + 6 ≤ L) (hLL : L ≤ 3072) (hI : REL n σ) (K : ∀ σ : HS, REL (n + 1) σ → AW ids ad ca Γ 1338 [some (.ref b), some (.ref (ad 0)), some (.ref (ad 236)), some (.int i)] [] σ) : AW ids ad ca Γ 621 [some (.ref b), some (.ref (ad 0)), some (.ref (ad 236)), some (.int i)] [] σ := by
  refine a_aload_n C dL_law_621 (i := 1) rfl rfl ?_
  have hS : SIM n (f_X11_clash) (f_X12_clash) := sim_clash (by omega)
  obtain ⟨r9, s9, s8, ec, em, hN⟩ := hS σ hI
  refine a_callVi C (i := 0) kd_0 (hid 0 (by decide)) ⟨_, _, rfl⟩ (by decide) (Z_X11_clash hid ec) mi_X11_clash ml_RL_81 rfl rfl (Nat.le_of_ble_eq_true rfl) (Nat.le_of_ble_eq_true rfl) (Nat.le_of_ble_eq_true rfl) dL_law_622 (fun r σ1 q1 => ?_)
  obtain ⟨er, es⟩ := q1
  subst es
  subst er
  refine a_pop C dL_law_625 rfl ?_
  refine a_aload_n C dL_law_626 (i := 2) rfl rfl ?_
  refine a_callVi C (i := 236) kd_236 (hid 236 (by decide)) ⟨_, _, rfl⟩ (by decide) (Z_X12_clash hid em) mi_X12_clash ml_RL_84 rfl rfl (Nat.le_of_ble_eq_true rfl) (Nat.le_of_ble_eq_true rfl) (Nat.le_of_ble_eq_true rfl) dL_law_627 (fun r2 σ2 q2 => ?_)
  obtain ⟨er2, es2⟩ := q2
  subst es2
  subst er2
  refine a_pop C dL_law_630 rfl ?_
  exact a_goto C dL_law_631 (tgt := 1338) rfl (K _ hN)
set_option maxHeartbeats 4000000 in
set_option maxRecDepth 100000 in
theorem la_16 {Γ : GT} {ids : List Nat} {ad : Nat → Nat} {ca : Nat → ClassId} {l0 : Launch} {D0 : va_G} {b L n : Nat} {i : Int32} {xs : Nat → Int32} {σ : HS} {K9 : (Nat → Nat) × (Nat → Nat)} (C : CT ids ad ca Γ code RL l0 D0 2048 84000 4) (X : SX Γ b L xs) (E9 : SG K9 Γ) (hid : ∀ i, i < 277 → i ∈ ids) (hi : i.toInt = 6 * (n : Int)) (hL : 6 * n + 6 ≤ L) (hLL : L ≤ 3072) (hI : REL n σ) (K : ∀ σ : HS, REL (n + 1) σ → AW ids ad ca Γ 1338 [some (.ref b), some (.ref (ad 0)), some (.ref (ad 236)), some (.int i)] [] σ) : AW ids ad ca Γ 634 [some (.ref b), some (.ref (ad 0)), some (.ref (ad 236)), some (.int i)] [] σ := by
  refine a_aload_n C dL_law_634 (i := 1) rfl rfl ?_
  refine a_aload_n C dL_law_635 (i := 0) rfl rfl ?_
  refine a_iload_n C dL_law_636 (i := 3) rfl rfl ?_
  refine s_iconst C dL_law_637 (1) (by decide) (fun z253 h254 => ?_)
  refine s_iadd C dL_law_638 (by omega) (fun z255 h256 => ?_)
  refine s_sld C X (by omega) (by omega) dL_law_639 (fun m257 h258 => ?_)
  refine a_aload_n C dL_law_640 (i := 0) rfl rfl ?_
  refine a_iload_n C dL_law_641 (i := 3) rfl rfl ?_
  refine s_iconst C dL_law_642 (2) (by decide) (fun z259 h260 => ?_)
  refine s_iadd C dL_law_643 (by omega) (fun z261 h262 => ?_)
  refine s_sld C X (by omega) (by omega) dL_law_644 (fun m263 h264 => ?_)
  have hS : SIMx n (f_X11_into (xs m257) (xs m263)) (f_X12_into (xs m257) (xs m263)) := simx_into
  obtain ⟨r9, r8, s9, s8, ec, em, hN⟩ := hS σ hI
  refine a_callVi C (i := 0) kd_0 (hid 0 (by decide)) ⟨_, _, rfl⟩ (by decide) (Z_X11_into hid ec) mi_X11_into ml_RL_85 rfl rfl (Nat.le_of_ble_eq_true rfl) (Nat.le_of_ble_eq_true rfl) (Nat.le_of_ble_eq_true rfl) dL_law_645 (fun r σ1 q1 => ?_)
  obtain ⟨er, es⟩ := q1
  subst es
  subst er
  refine a_pop C dL_law_648 rfl ?_
  refine a_aload_n C dL_law_649 (i := 2) rfl rfl ?_
  refine a_aload_n C dL_law_650 (i := 0) rfl rfl ?_
  refine a_iload_n C dL_law_651 (i := 3) rfl rfl ?_
  refine s_iconst C dL_law_652 (1) (by decide) (fun z265 h266 => ?_)
  refine s_iadd C dL_law_653 (by omega) (fun z267 h268 => ?_)
  refine s_sld C X (by omega) (by omega) dL_law_654 (fun m269 h270 => ?_)
  refine a_aload_n C dL_law_655 (i := 0) rfl rfl ?_
  refine a_iload_n C dL_law_656 (i := 3) rfl rfl ?_
  refine s_iconst C dL_law_657 (2) (by decide) (fun z271 h272 => ?_)
  refine s_iadd C dL_law_658 (by omega) (fun z273 h274 => ?_)
  refine s_sld C X (by omega) (by omega) dL_law_659 (fun m275 h276 => ?_)
  obtain rfl : m269 = m257 := by omega
  obtain rfl : m275 = m263 := by omega
  refine a_callVi C (i := 236) kd_236 (hid 236 (by decide)) ⟨_, _, rfl⟩ (by decide) (Z_X12_into hid em) mi_X12_into ml_RL_88 rfl rfl (Nat.le_of_ble_eq_true rfl) (Nat.le_of_ble_eq_true rfl) (Nat.le_of_ble_eq_true rfl) dL_law_660 (fun r2 σ2 q2 => ?_)
  obtain ⟨er2, es2⟩ := q2
  subst es2
  subst er2
  refine a_pop C dL_law_663 rfl ?_
  exact a_goto C dL_law_664 (tgt := 1338) rfl (K _ hN)
set_option maxHeartbeats 4000000 in
set_option maxRecDepth 100000 in
theorem la_17 {Γ : GT} {ids : List Nat} {ad : Nat → Nat} {ca : Nat → ClassId} {l0 : Launch} {D0 : va_G} {b L n : Nat} {i : Int32} {xs : Nat → Int32} {σ : HS} {K9 : (Nat → Nat) × (Nat → Nat)} (C : CT ids ad ca Γ code RL l0 D0 2048 84000 4) (X : SX Γ b L xs) (E9 : SG K9 Γ) (hid : ∀ i, i < 277 → i ∈ ids) (hi : i.toInt = 6 * (n : Int)) (hL : 6 * n + 6 ≤ L) (hLL : L ≤ 3072) (hI : REL n σ) (K : ∀ σ : HS, REL (n + 1) σ → AW ids ad ca Γ 1338 [some (.ref b), some (.ref (ad 0)), some (.ref (ad 236)), some (.int i)] [] σ) : AW ids ad ca Γ 667 [some (.ref b), some (.ref (ad 0)), some (.ref (ad 236)), some (.int i)] [] σ := by
  refine a_aload_n C dL_law_667 (i := 1) rfl rfl ?_
  refine a_aload_n C dL_law_668 (i := 0) rfl rfl ?_
  refine a_iload_n C dL_law_669 (i := 3) rfl rfl ?_
  refine s_iconst C dL_law_670 (1) (by decide) (fun z277 h278 => ?_)
  refine s_iadd C dL_law_671 (by omega) (fun z279 h280 => ?_)
  refine s_sld C X (by omega) (by omega) dL_law_672 (fun m281 h282 => ?_)
  refine a_aload_n C dL_law_673 (i := 0) rfl rfl ?_
  refine a_iload_n C dL_law_674 (i := 3) rfl rfl ?_
  refine s_iconst C dL_law_675 (2) (by decide) (fun z283 h284 => ?_)
  refine s_iadd C dL_law_676 (by omega) (fun z285 h286 => ?_)
  refine s_sld C X (by omega) (by omega) dL_law_677 (fun m287 h288 => ?_)
  refine a_aload_n C dL_law_678 (i := 0) rfl rfl ?_
  refine a_iload_n C dL_law_679 (i := 3) rfl rfl ?_
  refine s_iconst C dL_law_680 (3) (by decide) (fun z289 h290 => ?_)
  refine s_iadd C dL_law_681 (by omega) (fun z291 h292 => ?_)
  refine s_sld C X (by omega) (by omega) dL_law_682 (fun m293 h294 => ?_)
  have hS : SIM n (f_X11_joined (xs m281) (xs m287) (xs m293)) (f_X12_joined (xs m281) (xs m287) (xs m293)) := sim_joined
  obtain ⟨r9, s9, s8, ec, em, hN⟩ := hS σ hI
  refine a_callVi C (i := 0) kd_0 (hid 0 (by decide)) ⟨_, _, rfl⟩ (by decide) (Z_X11_joined hid ec) mi_X11_joined ml_RL_89 rfl rfl (Nat.le_of_ble_eq_true rfl) (Nat.le_of_ble_eq_true rfl) (Nat.le_of_ble_eq_true rfl) dL_law_683 (fun r σ1 q1 => ?_)
  obtain ⟨er, es⟩ := q1
  subst es
  subst er
  refine a_pop C dL_law_686 rfl ?_
  refine a_aload_n C dL_law_687 (i := 2) rfl rfl ?_
  refine a_aload_n C dL_law_688 (i := 0) rfl rfl ?_
  refine a_iload_n C dL_law_689 (i := 3) rfl rfl ?_
  refine s_iconst C dL_law_690 (1) (by decide) (fun z295 h296 => ?_)
  refine s_iadd C dL_law_691 (by omega) (fun z297 h298 => ?_)
  refine s_sld C X (by omega) (by omega) dL_law_692 (fun m299 h300 => ?_)
  refine a_aload_n C dL_law_693 (i := 0) rfl rfl ?_
  refine a_iload_n C dL_law_694 (i := 3) rfl rfl ?_
  refine s_iconst C dL_law_695 (2) (by decide) (fun z301 h302 => ?_)
  refine s_iadd C dL_law_696 (by omega) (fun z303 h304 => ?_)
  refine s_sld C X (by omega) (by omega) dL_law_697 (fun m305 h306 => ?_)
  refine a_aload_n C dL_law_698 (i := 0) rfl rfl ?_
  refine a_iload_n C dL_law_699 (i := 3) rfl rfl ?_
  refine s_iconst C dL_law_700 (3) (by decide) (fun z307 h308 => ?_)
  refine s_iadd C dL_law_701 (by omega) (fun z309 h310 => ?_)
  refine s_sld C X (by omega) (by omega) dL_law_702 (fun m311 h312 => ?_)
  obtain rfl : m299 = m281 := by omega
  obtain rfl : m305 = m287 := by omega
  obtain rfl : m311 = m293 := by omega
  refine a_callVi C (i := 236) kd_236 (hid 236 (by decide)) ⟨_, _, rfl⟩ (by decide) (Z_X12_joined hid em) mi_X12_joined ml_RL_92 rfl rfl (Nat.le_of_ble_eq_true rfl) (Nat.le_of_ble_eq_true rfl) (Nat.le_of_ble_eq_true rfl) dL_law_703 (fun r2 σ2 q2 => ?_)
  obtain ⟨er2, es2⟩ := q2
  subst es2
  subst er2
  refine a_pop C dL_law_706 rfl ?_
  exact a_goto C dL_law_707 (tgt := 1338) rfl (K _ hN)
set_option maxHeartbeats 4000000 in
set_option maxRecDepth 100000 in
theorem la_18 {Γ : GT} {ids : List Nat} {ad : Nat → Nat} {ca : Nat → ClassId} {l0 : Launch} {D0 : va_G} {b L n : Nat} {i : Int32} {xs : Nat → Int32} {σ : HS} {K9 : (Nat → Nat) × (Nat → Nat)} (C : CT ids ad ca Γ code RL l0 D0 2048 84000 4) (X : SX Γ b L xs) (E9 : SG K9 Γ) (hid : ∀ i, i < 277 → i ∈ ids) (hi : i.toInt = 6 * (n : Int)) (hL : 6 * n + 6 ≤ L) (hLL : L ≤ 3072) (hI : REL n σ) (K : ∀ σ : HS, REL (n + 1) σ → AW ids ad ca Γ 1338 [some (.ref b), some (.ref (ad 0)), some (.ref (ad 236)), some (.int i)] [] σ) : AW ids ad ca Γ 710 [some (.ref b), some (.ref (ad 0)), some (.ref (ad 236)), some (.int i)] [] σ := by
  refine a_aload_n C dL_law_710 (i := 1) rfl rfl ?_
  refine a_aload_n C dL_law_711 (i := 0) rfl rfl ?_
  refine a_iload_n C dL_law_712 (i := 3) rfl rfl ?_
  refine s_iconst C dL_law_713 (1) (by decide) (fun z313 h314 => ?_)
  refine s_iadd C dL_law_714 (by omega) (fun z315 h316 => ?_)
  refine s_sld C X (by omega) (by omega) dL_law_715 (fun m317 h318 => ?_)
  refine a_aload_n C dL_law_716 (i := 0) rfl rfl ?_
  refine a_iload_n C dL_law_717 (i := 3) rfl rfl ?_
  refine s_iconst C dL_law_718 (2) (by decide) (fun z319 h320 => ?_)
  refine s_iadd C dL_law_719 (by omega) (fun z321 h322 => ?_)
  refine s_sld C X (by omega) (by omega) dL_law_720 (fun m323 h324 => ?_)
  have hS : SIM n (f_X11_turned (xs m317) (xs m323)) (f_X12_turned (xs m317) (xs m323)) := sim_turned
  obtain ⟨r9, s9, s8, ec, em, hN⟩ := hS σ hI
  refine a_callVi C (i := 0) kd_0 (hid 0 (by decide)) ⟨_, _, rfl⟩ (by decide) (Z_X11_turned hid ec) mi_X11_turned ml_RL_93 rfl rfl (Nat.le_of_ble_eq_true rfl) (Nat.le_of_ble_eq_true rfl) (Nat.le_of_ble_eq_true rfl) dL_law_721 (fun r σ1 q1 => ?_)
  obtain ⟨er, es⟩ := q1
  subst es
  subst er
  refine a_pop C dL_law_724 rfl ?_
  refine a_aload_n C dL_law_725 (i := 2) rfl rfl ?_
  refine a_aload_n C dL_law_726 (i := 0) rfl rfl ?_
  refine a_iload_n C dL_law_727 (i := 3) rfl rfl ?_
  refine s_iconst C dL_law_728 (1) (by decide) (fun z325 h326 => ?_)
  refine s_iadd C dL_law_729 (by omega) (fun z327 h328 => ?_)
  refine s_sld C X (by omega) (by omega) dL_law_730 (fun m329 h330 => ?_)
  refine a_aload_n C dL_law_731 (i := 0) rfl rfl ?_
  refine a_iload_n C dL_law_732 (i := 3) rfl rfl ?_
  refine s_iconst C dL_law_733 (2) (by decide) (fun z331 h332 => ?_)
  refine s_iadd C dL_law_734 (by omega) (fun z333 h334 => ?_)
  refine s_sld C X (by omega) (by omega) dL_law_735 (fun m335 h336 => ?_)
  obtain rfl : m329 = m317 := by omega
  obtain rfl : m335 = m323 := by omega
  refine a_callVi C (i := 236) kd_236 (hid 236 (by decide)) ⟨_, _, rfl⟩ (by decide) (Z_X12_turned hid em) mi_X12_turned ml_RL_96 rfl rfl (Nat.le_of_ble_eq_true rfl) (Nat.le_of_ble_eq_true rfl) (Nat.le_of_ble_eq_true rfl) dL_law_736 (fun r2 σ2 q2 => ?_)
  obtain ⟨er2, es2⟩ := q2
  subst es2
  subst er2
  refine a_pop C dL_law_739 rfl ?_
  exact a_goto C dL_law_740 (tgt := 1338) rfl (K _ hN)
set_option maxHeartbeats 4000000 in
set_option maxRecDepth 100000 in
theorem la_19 {Γ : GT} {ids : List Nat} {ad : Nat → Nat} {ca : Nat → ClassId} {l0 : Launch} {D0 : va_G} {b L n : Nat} {i : Int32} {xs : Nat → Int32} {σ : HS} {K9 : (Nat → Nat) × (Nat → Nat)} (C : CT ids ad ca Γ code RL l0 D0 2048 84000 4) (X : SX Γ b L xs) (E9 : SG K9 Γ) (hid : ∀ i, i < 277 → i ∈ ids) (hi : i.toInt = 6 * (n : Int)) (hL : 6 * n + 6 ≤ L) (hLL : L ≤ 3072) (hI : REL n σ) (K : ∀ σ : HS, REL (n + 1) σ → AW ids ad ca Γ 1338 [some (.ref b), some (.ref (ad 0)), some (.ref (ad 236)), some (.int i)] [] σ) : AW ids ad ca Γ 743 [some (.ref b), some (.ref (ad 0)), some (.ref (ad 236)), some (.int i)] [] σ := by
  refine a_aload_n C dL_law_743 (i := 1) rfl rfl ?_
  refine a_aload_n C dL_law_744 (i := 0) rfl rfl ?_
  refine a_iload_n C dL_law_745 (i := 3) rfl rfl ?_
  refine s_iconst C dL_law_746 (1) (by decide) (fun z337 h338 => ?_)
  refine s_iadd C dL_law_747 (by omega) (fun z339 h340 => ?_)
  refine s_sld C X (by omega) (by omega) dL_law_748 (fun m341 h342 => ?_)
  have hS : SIM n (f_X11_span (xs m341)) (f_X12_span (xs m341)) := sim_span
  obtain ⟨r9, s9, s8, ec, em, hN⟩ := hS σ hI
  refine a_callVi C (i := 0) kd_0 (hid 0 (by decide)) ⟨_, _, rfl⟩ (by decide) (Z_X11_span hid ec) mi_X11_span ml_RL_97 rfl rfl (Nat.le_of_ble_eq_true rfl) (Nat.le_of_ble_eq_true rfl) (Nat.le_of_ble_eq_true rfl) dL_law_749 (fun r σ1 q1 => ?_)
  obtain ⟨er, es⟩ := q1
  subst es
  subst er
  refine a_pop C dL_law_752 rfl ?_
  refine a_aload_n C dL_law_753 (i := 2) rfl rfl ?_
  refine a_aload_n C dL_law_754 (i := 0) rfl rfl ?_
  refine a_iload_n C dL_law_755 (i := 3) rfl rfl ?_
  refine s_iconst C dL_law_756 (1) (by decide) (fun z343 h344 => ?_)
  refine s_iadd C dL_law_757 (by omega) (fun z345 h346 => ?_)
  refine s_sld C X (by omega) (by omega) dL_law_758 (fun m347 h348 => ?_)
  obtain rfl : m347 = m341 := by omega
  refine a_callVi C (i := 236) kd_236 (hid 236 (by decide)) ⟨_, _, rfl⟩ (by decide) (Z_X12_span hid em) mi_X12_span ml_RL_100 rfl rfl (Nat.le_of_ble_eq_true rfl) (Nat.le_of_ble_eq_true rfl) (Nat.le_of_ble_eq_true rfl) dL_law_759 (fun r2 σ2 q2 => ?_)
  obtain ⟨er2, es2⟩ := q2
  subst es2
  subst er2
  refine a_pop C dL_law_762 rfl ?_
  exact a_goto C dL_law_763 (tgt := 1338) rfl (K _ hN)
set_option maxHeartbeats 4000000 in
set_option maxRecDepth 100000 in
theorem la_20 {Γ : GT} {ids : List Nat} {ad : Nat → Nat} {ca : Nat → ClassId} {l0 : Launch} {D0 : va_G} {b L n : Nat} {i : Int32} {xs : Nat → Int32} {σ : HS} {K9 : (Nat → Nat) × (Nat → Nat)} (C : CT ids ad ca Γ code RL l0 D0 2048 84000 4) (X : SX Γ b L xs) (E9 : SG K9 Γ) (hid : ∀ i, i < 277 → i ∈ ids) (hi : i.toInt = 6 * (n : Int)) (hL : 6 * n + 6 ≤ L) (hLL : L ≤ 3072) (hI : REL n σ) (K : ∀ σ : HS, REL (n + 1) σ → AW ids ad ca Γ 1338 [some (.ref b), some (.ref (ad 0)), some (.ref (ad 236)), some (.int i)] [] σ) : AW ids ad ca Γ 766 [some (.ref b), some (.ref (ad 0)), some (.ref (ad 236)), some (.int i)] [] σ := by
  refine a_aload_n C dL_law_766 (i := 1) rfl rfl ?_
  refine a_aload_n C dL_law_767 (i := 0) rfl rfl ?_
  refine a_iload_n C dL_law_768 (i := 3) rfl rfl ?_
  refine s_iconst C dL_law_769 (1) (by decide) (fun z349 h350 => ?_)
  refine s_iadd C dL_law_770 (by omega) (fun z351 h352 => ?_)
  refine s_sld C X (by omega) (by omega) dL_law_771 (fun m353 h354 => ?_)
  have hS : SIM n (f_X11_orbits (xs m353)) (f_X12_orbits (xs m353)) := sim_orbits
  obtain ⟨r9, s9, s8, ec, em, hN⟩ := hS σ hI
  refine a_callVi C (i := 0) kd_0 (hid 0 (by decide)) ⟨_, _, rfl⟩ (by decide) (Z_X11_orbits hid ec) mi_X11_orbits ml_RL_101 rfl rfl (Nat.le_of_ble_eq_true rfl) (Nat.le_of_ble_eq_true rfl) (Nat.le_of_ble_eq_true rfl) dL_law_772 (fun r σ1 q1 => ?_)
  obtain ⟨er, es⟩ := q1
  subst es
  subst er
  refine a_pop C dL_law_775 rfl ?_
  refine a_aload_n C dL_law_776 (i := 2) rfl rfl ?_
  refine a_aload_n C dL_law_777 (i := 0) rfl rfl ?_
  refine a_iload_n C dL_law_778 (i := 3) rfl rfl ?_
  refine s_iconst C dL_law_779 (1) (by decide) (fun z355 h356 => ?_)
  refine s_iadd C dL_law_780 (by omega) (fun z357 h358 => ?_)
  refine s_sld C X (by omega) (by omega) dL_law_781 (fun m359 h360 => ?_)
  obtain rfl : m359 = m353 := by omega
  refine a_callVi C (i := 236) kd_236 (hid 236 (by decide)) ⟨_, _, rfl⟩ (by decide) (Z_X12_orbits hid em) mi_X12_orbits ml_RL_104 rfl rfl (Nat.le_of_ble_eq_true rfl) (Nat.le_of_ble_eq_true rfl) (Nat.le_of_ble_eq_true rfl) dL_law_782 (fun r2 σ2 q2 => ?_)
  obtain ⟨er2, es2⟩ := q2
  subst es2
  subst er2
  refine a_pop C dL_law_785 rfl ?_
  exact a_goto C dL_law_786 (tgt := 1338) rfl (K _ hN)
set_option maxHeartbeats 4000000 in
set_option maxRecDepth 100000 in
theorem la_21 {Γ : GT} {ids : List Nat} {ad : Nat → Nat} {ca : Nat → ClassId} {l0 : Launch} {D0 : va_G} {b L n : Nat} {i : Int32} {xs : Nat → Int32} {σ : HS} {K9 : (Nat → Nat) × (Nat → Nat)} (C : CT ids ad ca Γ code RL l0 D0 2048 84000 4) (X : SX Γ b L xs) (E9 : SG K9 Γ) (hid : ∀ i, i < 277 → i ∈ ids) (hi : i.toInt = 6 * (n : Int)) (hL : 6 * n + 6 ≤ L) (hLL : L ≤ 3072) (hI : REL n σ) (K : ∀ σ : HS, REL (n + 1) σ → AW ids ad ca Γ 1338 [some (.ref b), some (.ref (ad 0)), some (.ref (ad 236)), some (.int i)] [] σ) : AW ids ad ca Γ 789 [some (.ref b), some (.ref (ad 0)), some (.ref (ad 236)), some (.int i)] [] σ := by
  refine a_aload_n C dL_law_789 (i := 1) rfl rfl ?_
  refine a_aload_n C dL_law_790 (i := 0) rfl rfl ?_
  refine a_iload_n C dL_law_791 (i := 3) rfl rfl ?_
  refine s_iconst C dL_law_792 (1) (by decide) (fun z361 h362 => ?_)
  refine s_iadd C dL_law_793 (by omega) (fun z363 h364 => ?_)
  refine s_sld C X (by omega) (by omega) dL_law_794 (fun m365 h366 => ?_)
  have hS : SIM n (f_X11_swaps (xs m365)) (f_X12_swaps (xs m365)) := sim_swaps
  obtain ⟨r9, s9, s8, ec, em, hN⟩ := hS σ hI
  refine a_callVi C (i := 0) kd_0 (hid 0 (by decide)) ⟨_, _, rfl⟩ (by decide) (Z_X11_swaps hid ec) mi_X11_swaps ml_RL_105 rfl rfl (Nat.le_of_ble_eq_true rfl) (Nat.le_of_ble_eq_true rfl) (Nat.le_of_ble_eq_true rfl) dL_law_795 (fun r σ1 q1 => ?_)
  obtain ⟨er, es⟩ := q1
  subst es
  subst er
  refine a_pop C dL_law_798 rfl ?_
  refine a_aload_n C dL_law_799 (i := 2) rfl rfl ?_
  refine a_aload_n C dL_law_800 (i := 0) rfl rfl ?_
  refine a_iload_n C dL_law_801 (i := 3) rfl rfl ?_
  refine s_iconst C dL_law_802 (1) (by decide) (fun z367 h368 => ?_)
  refine s_iadd C dL_law_803 (by omega) (fun z369 h370 => ?_)
  refine s_sld C X (by omega) (by omega) dL_law_804 (fun m371 h372 => ?_)
  obtain rfl : m371 = m365 := by omega
  refine a_callVi C (i := 236) kd_236 (hid 236 (by decide)) ⟨_, _, rfl⟩ (by decide) (Z_X12_swaps hid em) mi_X12_swaps ml_RL_108 rfl rfl (Nat.le_of_ble_eq_true rfl) (Nat.le_of_ble_eq_true rfl) (Nat.le_of_ble_eq_true rfl) dL_law_805 (fun r2 σ2 q2 => ?_)
  obtain ⟨er2, es2⟩ := q2
  subst es2
  subst er2
  refine a_pop C dL_law_808 rfl ?_
  exact a_goto C dL_law_809 (tgt := 1338) rfl (K _ hN)
set_option maxHeartbeats 4000000 in
set_option maxRecDepth 100000 in
theorem la_22 {Γ : GT} {ids : List Nat} {ad : Nat → Nat} {ca : Nat → ClassId} {l0 : Launch} {D0 : va_G} {b L n : Nat} {i : Int32} {xs : Nat → Int32} {σ : HS} {K9 : (Nat → Nat) × (Nat → Nat)} (C : CT ids ad ca Γ code RL l0 D0 2048 84000 4) (X : SX Γ b L xs) (E9 : SG K9 Γ) (hid : ∀ i, i < 277 → i ∈ ids) (hi : i.toInt = 6 * (n : Int)) (hL : 6 * n + 6 ≤ L) (hLL : L ≤ 3072) (hI : REL n σ) (K : ∀ σ : HS, REL (n + 1) σ → AW ids ad ca Γ 1338 [some (.ref b), some (.ref (ad 0)), some (.ref (ad 236)), some (.int i)] [] σ) : AW ids ad ca Γ 812 [some (.ref b), some (.ref (ad 0)), some (.ref (ad 236)), some (.int i)] [] σ := by
  refine a_aload_n C dL_law_812 (i := 1) rfl rfl ?_
  refine a_aload_n C dL_law_813 (i := 0) rfl rfl ?_
  refine a_iload_n C dL_law_814 (i := 3) rfl rfl ?_
  refine s_iconst C dL_law_815 (1) (by decide) (fun z373 h374 => ?_)
  refine s_iadd C dL_law_816 (by omega) (fun z375 h376 => ?_)
  refine s_sld C X (by omega) (by omega) dL_law_817 (fun m377 h378 => ?_)
  have hS : SIM n (f_X11_room (xs m377)) (f_X12_room (xs m377)) := sim_room (by omega)
  obtain ⟨r9, s9, s8, ec, em, hN⟩ := hS σ hI
  refine a_callVi C (i := 0) kd_0 (hid 0 (by decide)) ⟨_, _, rfl⟩ (by decide) (Z_X11_room hid ec) mi_X11_room ml_RL_109 rfl rfl (Nat.le_of_ble_eq_true rfl) (Nat.le_of_ble_eq_true rfl) (Nat.le_of_ble_eq_true rfl) dL_law_818 (fun r σ1 q1 => ?_)
  obtain ⟨er, es⟩ := q1
  subst es
  subst er
  refine a_pop C dL_law_821 rfl ?_
  refine a_aload_n C dL_law_822 (i := 2) rfl rfl ?_
  refine a_aload_n C dL_law_823 (i := 0) rfl rfl ?_
  refine a_iload_n C dL_law_824 (i := 3) rfl rfl ?_
  refine s_iconst C dL_law_825 (1) (by decide) (fun z379 h380 => ?_)
  refine s_iadd C dL_law_826 (by omega) (fun z381 h382 => ?_)
  refine s_sld C X (by omega) (by omega) dL_law_827 (fun m383 h384 => ?_)
  obtain rfl : m383 = m377 := by omega
  refine a_callVi C (i := 236) kd_236 (hid 236 (by decide)) ⟨_, _, rfl⟩ (by decide) (Z_X12_room hid em) mi_X12_room ml_RL_112 rfl rfl (Nat.le_of_ble_eq_true rfl) (Nat.le_of_ble_eq_true rfl) (Nat.le_of_ble_eq_true rfl) dL_law_828 (fun r2 σ2 q2 => ?_)
  obtain ⟨er2, es2⟩ := q2
  subst es2
  subst er2
  refine a_pop C dL_law_831 rfl ?_
  exact a_goto C dL_law_832 (tgt := 1338) rfl (K _ hN)
set_option maxHeartbeats 4000000 in
set_option maxRecDepth 100000 in
theorem la_23 {Γ : GT} {ids : List Nat} {ad : Nat → Nat} {ca : Nat → ClassId} {l0 : Launch} {D0 : va_G} {b L n : Nat} {i : Int32} {xs : Nat → Int32} {σ : HS} {K9 : (Nat → Nat) × (Nat → Nat)} (C : CT ids ad ca Γ code RL l0 D0 2048 84000 4) (X : SX Γ b L xs) (E9 : SG K9 Γ) (hid : ∀ i, i < 277 → i ∈ ids) (hi : i.toInt = 6 * (n : Int)) (hL : 6 * n + 6 ≤ L) (hLL : L ≤ 3072) (hI : REL n σ) (K : ∀ σ : HS, REL (n + 1) σ → AW ids ad ca Γ 1338 [some (.ref b), some (.ref (ad 0)), some (.ref (ad 236)), some (.int i)] [] σ) : AW ids ad ca Γ 835 [some (.ref b), some (.ref (ad 0)), some (.ref (ad 236)), some (.int i)] [] σ := by
  refine a_aload_n C dL_law_835 (i := 1) rfl rfl ?_
  have hS : SIMx n (f_X11_handover) (f_X12_handover) := simx_handover (by omega)
  obtain ⟨r9, r8, s9, s8, ec, em, hN⟩ := hS σ hI
  refine a_callVi C (i := 0) kd_0 (hid 0 (by decide)) ⟨_, _, rfl⟩ (by decide) (Z_X11_handover hid ec) mi_X11_handover ml_RL_113 rfl rfl (Nat.le_of_ble_eq_true rfl) (Nat.le_of_ble_eq_true rfl) (Nat.le_of_ble_eq_true rfl) dL_law_836 (fun r σ1 q1 => ?_)
  obtain ⟨er, es⟩ := q1
  subst es
  subst er
  refine a_pop C dL_law_839 rfl ?_
  refine a_aload_n C dL_law_840 (i := 2) rfl rfl ?_
  refine a_callVi C (i := 236) kd_236 (hid 236 (by decide)) ⟨_, _, rfl⟩ (by decide) (Z_X12_handover hid em) mi_X12_handover ml_RL_116 rfl rfl (Nat.le_of_ble_eq_true rfl) (Nat.le_of_ble_eq_true rfl) (Nat.le_of_ble_eq_true rfl) dL_law_841 (fun r2 σ2 q2 => ?_)
  obtain ⟨er2, es2⟩ := q2
  subst es2
  subst er2
  refine a_pop C dL_law_844 rfl ?_
  exact a_goto C dL_law_845 (tgt := 1338) rfl (K _ hN)
set_option maxHeartbeats 4000000 in
set_option maxRecDepth 100000 in
theorem la_24 {Γ : GT} {ids : List Nat} {ad : Nat → Nat} {ca : Nat → ClassId} {l0 : Launch} {D0 : va_G} {b L n : Nat} {i : Int32} {xs : Nat → Int32} {σ : HS} {K9 : (Nat → Nat) × (Nat → Nat)} (C : CT ids ad ca Γ code RL l0 D0 2048 84000 4) (X : SX Γ b L xs) (E9 : SG K9 Γ) (hid : ∀ i, i < 277 → i ∈ ids) (hi : i.toInt = 6 * (n : Int)) (hL : 6 * n + 6 ≤ L) (hLL : L ≤ 3072) (hI : REL n σ) (K : ∀ σ : HS, REL (n + 1) σ → AW ids ad ca Γ 1338 [some (.ref b), some (.ref (ad 0)), some (.ref (ad 236)), some (.int i)] [] σ) : AW ids ad ca Γ 848 [some (.ref b), some (.ref (ad 0)), some (.ref (ad 236)), some (.int i)] [] σ := by
  refine a_aload_n C dL_law_848 (i := 1) rfl rfl ?_
  refine a_aload_n C dL_law_849 (i := 0) rfl rfl ?_
  refine a_iload_n C dL_law_850 (i := 3) rfl rfl ?_
  refine s_iconst C dL_law_851 (1) (by decide) (fun z385 h386 => ?_)
  refine s_iadd C dL_law_852 (by omega) (fun z387 h388 => ?_)
  refine s_sld C X (by omega) (by omega) dL_law_853 (fun m389 h390 => ?_)
  have hS : SIMx n (f_X11_limit (xs m389)) (f_X12_limit (xs m389)) := simx_limit (by omega)
  obtain ⟨r9, r8, s9, s8, ec, em, hN⟩ := hS σ hI
  refine a_callVi C (i := 0) kd_0 (hid 0 (by decide)) ⟨_, _, rfl⟩ (by decide) (Z_X11_limit hid ec) mi_X11_limit ml_RL_117 rfl rfl (Nat.le_of_ble_eq_true rfl) (Nat.le_of_ble_eq_true rfl) (Nat.le_of_ble_eq_true rfl) dL_law_854 (fun r σ1 q1 => ?_)
  obtain ⟨er, es⟩ := q1
  subst es
  subst er
  refine a_pop C dL_law_857 rfl ?_
  refine a_aload_n C dL_law_858 (i := 2) rfl rfl ?_
  refine a_aload_n C dL_law_859 (i := 0) rfl rfl ?_
  refine a_iload_n C dL_law_860 (i := 3) rfl rfl ?_
  refine s_iconst C dL_law_861 (1) (by decide) (fun z391 h392 => ?_)
  refine s_iadd C dL_law_862 (by omega) (fun z393 h394 => ?_)
  refine s_sld C X (by omega) (by omega) dL_law_863 (fun m395 h396 => ?_)
  obtain rfl : m395 = m389 := by omega
  refine a_callVi C (i := 236) kd_236 (hid 236 (by decide)) ⟨_, _, rfl⟩ (by decide) (Z_X12_limit hid em) mi_X12_limit ml_RL_120 rfl rfl (Nat.le_of_ble_eq_true rfl) (Nat.le_of_ble_eq_true rfl) (Nat.le_of_ble_eq_true rfl) dL_law_864 (fun r2 σ2 q2 => ?_)
  obtain ⟨er2, es2⟩ := q2
  subst es2
  subst er2
  refine a_pop C dL_law_867 rfl ?_
  exact a_goto C dL_law_868 (tgt := 1338) rfl (K _ hN)
set_option maxHeartbeats 4000000 in
set_option maxRecDepth 100000 in
theorem la_25 {Γ : GT} {ids : List Nat} {ad : Nat → Nat} {ca : Nat → ClassId} {l0 : Launch} {D0 : va_G} {b L n : Nat} {i : Int32} {xs : Nat → Int32} {σ : HS} {K9 : (Nat → Nat) × (Nat → Nat)} (C : CT ids ad ca Γ code RL l0 D0 2048 84000 4) (X : SX Γ b L xs) (E9 : SG K9 Γ) (hid : ∀ i, i < 277 → i ∈ ids) (hi : i.toInt = 6 * (n : Int)) (hL : 6 * n + 6 ≤ L) (hLL : L ≤ 3072) (hI : REL n σ) (K : ∀ σ : HS, REL (n + 1) σ → AW ids ad ca Γ 1338 [some (.ref b), some (.ref (ad 0)), some (.ref (ad 236)), some (.int i)] [] σ) : AW ids ad ca Γ 871 [some (.ref b), some (.ref (ad 0)), some (.ref (ad 236)), some (.int i)] [] σ := by
  refine a_aload_n C dL_law_871 (i := 1) rfl rfl ?_
  refine a_aload_n C dL_law_872 (i := 0) rfl rfl ?_
  refine a_iload_n C dL_law_873 (i := 3) rfl rfl ?_
  refine s_iconst C dL_law_874 (1) (by decide) (fun z397 h398 => ?_)
  refine s_iadd C dL_law_875 (by omega) (fun z399 h400 => ?_)
  refine s_sld C X (by omega) (by omega) dL_law_876 (fun m401 h402 => ?_)
  refine a_aload_n C dL_law_877 (i := 0) rfl rfl ?_
  refine a_iload_n C dL_law_878 (i := 3) rfl rfl ?_
  refine s_iconst C dL_law_879 (2) (by decide) (fun z403 h404 => ?_)
  refine s_iadd C dL_law_880 (by omega) (fun z405 h406 => ?_)
  refine s_sld C X (by omega) (by omega) dL_law_881 (fun m407 h408 => ?_)
  have hS : SIM n (f_X11_busiest (xs m401) (xs m407)) (f_X12_busiest (xs m401) (xs m407)) := sim_busiest (by omega)
  obtain ⟨r9, s9, s8, ec, em, hN⟩ := hS σ hI
  refine a_callVi C (i := 0) kd_0 (hid 0 (by decide)) ⟨_, _, rfl⟩ (by decide) (Z_X11_busiest hid ec) mi_X11_busiest ml_RL_121 rfl rfl (Nat.le_of_ble_eq_true rfl) (Nat.le_of_ble_eq_true rfl) (Nat.le_of_ble_eq_true rfl) dL_law_882 (fun r σ1 q1 => ?_)
  obtain ⟨er, es⟩ := q1
  subst es
  subst er
  refine a_pop C dL_law_885 rfl ?_
  refine a_aload_n C dL_law_886 (i := 2) rfl rfl ?_
  refine a_aload_n C dL_law_887 (i := 0) rfl rfl ?_
  refine a_iload_n C dL_law_888 (i := 3) rfl rfl ?_
  refine s_iconst C dL_law_889 (1) (by decide) (fun z409 h410 => ?_)
  refine s_iadd C dL_law_890 (by omega) (fun z411 h412 => ?_)
  refine s_sld C X (by omega) (by omega) dL_law_891 (fun m413 h414 => ?_)
  refine a_aload_n C dL_law_892 (i := 0) rfl rfl ?_
  refine a_iload_n C dL_law_893 (i := 3) rfl rfl ?_
  refine s_iconst C dL_law_894 (2) (by decide) (fun z415 h416 => ?_)
  refine s_iadd C dL_law_895 (by omega) (fun z417 h418 => ?_)
  refine s_sld C X (by omega) (by omega) dL_law_896 (fun m419 h420 => ?_)
  obtain rfl : m413 = m401 := by omega
  obtain rfl : m419 = m407 := by omega
  refine a_callVi C (i := 236) kd_236 (hid 236 (by decide)) ⟨_, _, rfl⟩ (by decide) (Z_X12_busiest hid em) mi_X12_busiest ml_RL_124 rfl rfl (Nat.le_of_ble_eq_true rfl) (Nat.le_of_ble_eq_true rfl) (Nat.le_of_ble_eq_true rfl) dL_law_897 (fun r2 σ2 q2 => ?_)
  obtain ⟨er2, es2⟩ := q2
  subst es2
  subst er2
  refine a_pop C dL_law_900 rfl ?_
  exact a_goto C dL_law_901 (tgt := 1338) rfl (K _ hN)
set_option maxHeartbeats 4000000 in
set_option maxRecDepth 100000 in
theorem la_26 {Γ : GT} {ids : List Nat} {ad : Nat → Nat} {ca : Nat → ClassId} {l0 : Launch} {D0 : va_G} {b L n : Nat} {i : Int32} {xs : Nat → Int32} {σ : HS} {K9 : (Nat → Nat) × (Nat → Nat)} (C : CT ids ad ca Γ code RL l0 D0 2048 84000 4) (X : SX Γ b L xs) (E9 : SG K9 Γ) (hid : ∀ i, i < 277 → i ∈ ids) (hi : i.toInt = 6 * (n : Int)) (hL : 6 * n + 6 ≤ L) (hLL : L ≤ 3072) (hI : REL n σ) (K : ∀ σ : HS, REL (n + 1) σ → AW ids ad ca Γ 1338 [some (.ref b), some (.ref (ad 0)), some (.ref (ad 236)), some (.int i)] [] σ) : AW ids ad ca Γ 904 [some (.ref b), some (.ref (ad 0)), some (.ref (ad 236)), some (.int i)] [] σ := by
  refine a_aload_n C dL_law_904 (i := 1) rfl rfl ?_
  refine a_aload_n C dL_law_905 (i := 0) rfl rfl ?_
  refine a_iload_n C dL_law_906 (i := 3) rfl rfl ?_
  refine s_iconst C dL_law_907 (1) (by decide) (fun z421 h422 => ?_)
  refine s_iadd C dL_law_908 (by omega) (fun z423 h424 => ?_)
  refine s_sld C X (by omega) (by omega) dL_law_909 (fun m425 h426 => ?_)
  have hS : SIM n (f_X11_load (xs m425)) (f_X12_load (xs m425)) := sim_load (by omega)
  obtain ⟨r9, s9, s8, ec, em, hN⟩ := hS σ hI
  refine a_callVi C (i := 0) kd_0 (hid 0 (by decide)) ⟨_, _, rfl⟩ (by decide) (Z_X11_load hid ec) mi_X11_load ml_RL_125 rfl rfl (Nat.le_of_ble_eq_true rfl) (Nat.le_of_ble_eq_true rfl) (Nat.le_of_ble_eq_true rfl) dL_law_910 (fun r σ1 q1 => ?_)
  obtain ⟨er, es⟩ := q1
  subst es
  subst er
  refine a_pop C dL_law_913 rfl ?_
  refine a_aload_n C dL_law_914 (i := 2) rfl rfl ?_
  refine a_aload_n C dL_law_915 (i := 0) rfl rfl ?_
  refine a_iload_n C dL_law_916 (i := 3) rfl rfl ?_
  refine s_iconst C dL_law_917 (1) (by decide) (fun z427 h428 => ?_)
  refine s_iadd C dL_law_918 (by omega) (fun z429 h430 => ?_)
  refine s_sld C X (by omega) (by omega) dL_law_919 (fun m431 h432 => ?_)
  obtain rfl : m431 = m425 := by omega
  refine a_callVi C (i := 236) kd_236 (hid 236 (by decide)) ⟨_, _, rfl⟩ (by decide) (Z_X12_load hid em) mi_X12_load ml_RL_128 rfl rfl (Nat.le_of_ble_eq_true rfl) (Nat.le_of_ble_eq_true rfl) (Nat.le_of_ble_eq_true rfl) dL_law_920 (fun r2 σ2 q2 => ?_)
  obtain ⟨er2, es2⟩ := q2
  subst es2
  subst er2
  refine a_pop C dL_law_923 rfl ?_
  exact a_goto C dL_law_924 (tgt := 1338) rfl (K _ hN)
set_option maxHeartbeats 4000000 in
set_option maxRecDepth 100000 in
theorem la_27 {Γ : GT} {ids : List Nat} {ad : Nat → Nat} {ca : Nat → ClassId} {l0 : Launch} {D0 : va_G} {b L n : Nat} {i : Int32} {xs : Nat → Int32} {σ : HS} {K9 : (Nat → Nat) × (Nat → Nat)} (C : CT ids ad ca Γ code RL l0 D0 2048 84000 4) (X : SX Γ b L xs) (E9 : SG K9 Γ) (hid : ∀ i, i < 277 → i ∈ ids) (hi : i.toInt = 6 * (n : Int)) (hL : 6 * n + 6 ≤ L) (hLL : L ≤ 3072) (hI : REL n σ) (K : ∀ σ : HS, REL (n + 1) σ → AW ids ad ca Γ 1338 [some (.ref b), some (.ref (ad 0)), some (.ref (ad 236)), some (.int i)] [] σ) : AW ids ad ca Γ 927 [some (.ref b), some (.ref (ad 0)), some (.ref (ad 236)), some (.int i)] [] σ := by
  refine a_aload_n C dL_law_927 (i := 1) rfl rfl ?_
  have hS : SIM n (f_X11_gap) (f_X12_gap) := sim_gap (by omega)
  obtain ⟨r9, s9, s8, ec, em, hN⟩ := hS σ hI
  refine a_callVi C (i := 0) kd_0 (hid 0 (by decide)) ⟨_, _, rfl⟩ (by decide) (Z_X11_gap hid ec) mi_X11_gap ml_RL_129 rfl rfl (Nat.le_of_ble_eq_true rfl) (Nat.le_of_ble_eq_true rfl) (Nat.le_of_ble_eq_true rfl) dL_law_928 (fun r σ1 q1 => ?_)
  obtain ⟨er, es⟩ := q1
  subst es
  subst er
  refine a_pop C dL_law_931 rfl ?_
  refine a_aload_n C dL_law_932 (i := 2) rfl rfl ?_
  refine a_callVi C (i := 236) kd_236 (hid 236 (by decide)) ⟨_, _, rfl⟩ (by decide) (Z_X12_gap hid em) mi_X12_gap ml_RL_132 rfl rfl (Nat.le_of_ble_eq_true rfl) (Nat.le_of_ble_eq_true rfl) (Nat.le_of_ble_eq_true rfl) dL_law_933 (fun r2 σ2 q2 => ?_)
  obtain ⟨er2, es2⟩ := q2
  subst es2
  subst er2
  refine a_pop C dL_law_936 rfl ?_
  exact a_goto C dL_law_937 (tgt := 1338) rfl (K _ hN)
set_option maxHeartbeats 4000000 in
set_option maxRecDepth 100000 in
theorem la_28 {Γ : GT} {ids : List Nat} {ad : Nat → Nat} {ca : Nat → ClassId} {l0 : Launch} {D0 : va_G} {b L n : Nat} {i : Int32} {xs : Nat → Int32} {σ : HS} {K9 : (Nat → Nat) × (Nat → Nat)} (C : CT ids ad ca Γ code RL l0 D0 2048 84000 4) (X : SX Γ b L xs) (E9 : SG K9 Γ) (hid : ∀ i, i < 277 → i ∈ ids) (hi : i.toInt = 6 * (n : Int)) (hL : 6 * n + 6 ≤ L) (hLL : L ≤ 3072) (hI : REL n σ) (K : ∀ σ : HS, REL (n + 1) σ → AW ids ad ca Γ 1338 [some (.ref b), some (.ref (ad 0)), some (.ref (ad 236)), some (.int i)] [] σ) : AW ids ad ca Γ 940 [some (.ref b), some (.ref (ad 0)), some (.ref (ad 236)), some (.int i)] [] σ := by
  refine a_aload_n C dL_law_940 (i := 1) rfl rfl ?_
  refine a_aload_n C dL_law_941 (i := 0) rfl rfl ?_
  refine a_iload_n C dL_law_942 (i := 3) rfl rfl ?_
  refine s_iconst C dL_law_943 (1) (by decide) (fun z433 h434 => ?_)
  refine s_iadd C dL_law_944 (by omega) (fun z435 h436 => ?_)
  refine s_sld C X (by omega) (by omega) dL_law_945 (fun m437 h438 => ?_)
  have hS : SIM n (f_X11_order (xs m437)) (f_X12_order (xs m437)) := sim_order
  obtain ⟨r9, s9, s8, ec, em, hN⟩ := hS σ hI
  refine a_callVi C (i := 0) kd_0 (hid 0 (by decide)) ⟨_, _, rfl⟩ (by decide) (Z_X11_order hid ec) mi_X11_order ml_RL_133 rfl rfl (Nat.le_of_ble_eq_true rfl) (Nat.le_of_ble_eq_true rfl) (Nat.le_of_ble_eq_true rfl) dL_law_946 (fun r σ1 q1 => ?_)
  obtain ⟨er, es⟩ := q1
  subst es
  subst er
  refine a_pop C dL_law_949 rfl ?_
  refine a_aload_n C dL_law_950 (i := 2) rfl rfl ?_
  refine a_aload_n C dL_law_951 (i := 0) rfl rfl ?_
  refine a_iload_n C dL_law_952 (i := 3) rfl rfl ?_
  refine s_iconst C dL_law_953 (1) (by decide) (fun z439 h440 => ?_)
  refine s_iadd C dL_law_954 (by omega) (fun z441 h442 => ?_)
  refine s_sld C X (by omega) (by omega) dL_law_955 (fun m443 h444 => ?_)
  obtain rfl : m443 = m437 := by omega
  refine a_callVi C (i := 236) kd_236 (hid 236 (by decide)) ⟨_, _, rfl⟩ (by decide) (Z_X12_order hid em) mi_X12_order ml_RL_136 rfl rfl (Nat.le_of_ble_eq_true rfl) (Nat.le_of_ble_eq_true rfl) (Nat.le_of_ble_eq_true rfl) dL_law_956 (fun r2 σ2 q2 => ?_)
  obtain ⟨er2, es2⟩ := q2
  subst es2
  subst er2
  refine a_pop C dL_law_959 rfl ?_
  exact a_goto C dL_law_960 (tgt := 1338) rfl (K _ hN)
set_option maxHeartbeats 4000000 in
set_option maxRecDepth 100000 in
theorem la_29 {Γ : GT} {ids : List Nat} {ad : Nat → Nat} {ca : Nat → ClassId} {l0 : Launch} {D0 : va_G} {b L n : Nat} {i : Int32} {xs : Nat → Int32} {σ : HS} {K9 : (Nat → Nat) × (Nat → Nat)} (C : CT ids ad ca Γ code RL l0 D0 2048 84000 4) (X : SX Γ b L xs) (E9 : SG K9 Γ) (hid : ∀ i, i < 277 → i ∈ ids) (hi : i.toInt = 6 * (n : Int)) (hL : 6 * n + 6 ≤ L) (hLL : L ≤ 3072) (hI : REL n σ) (K : ∀ σ : HS, REL (n + 1) σ → AW ids ad ca Γ 1338 [some (.ref b), some (.ref (ad 0)), some (.ref (ad 236)), some (.int i)] [] σ) : AW ids ad ca Γ 963 [some (.ref b), some (.ref (ad 0)), some (.ref (ad 236)), some (.int i)] [] σ := by
  refine a_aload_n C dL_law_963 (i := 1) rfl rfl ?_
  refine a_aload_n C dL_law_964 (i := 0) rfl rfl ?_
  refine a_iload_n C dL_law_965 (i := 3) rfl rfl ?_
  refine s_iconst C dL_law_966 (1) (by decide) (fun z445 h446 => ?_)
  refine s_iadd C dL_law_967 (by omega) (fun z447 h448 => ?_)
  refine s_sld C X (by omega) (by omega) dL_law_968 (fun m449 h450 => ?_)
  refine a_aload_n C dL_law_969 (i := 0) rfl rfl ?_
  refine a_iload_n C dL_law_970 (i := 3) rfl rfl ?_
  refine s_iconst C dL_law_971 (2) (by decide) (fun z451 h452 => ?_)
  refine s_iadd C dL_law_972 (by omega) (fun z453 h454 => ?_)
  refine s_sld C X (by omega) (by omega) dL_law_973 (fun m455 h456 => ?_)
  refine a_aload_n C dL_law_974 (i := 0) rfl rfl ?_
  refine a_iload_n C dL_law_975 (i := 3) rfl rfl ?_
  refine s_iconst C dL_law_976 (3) (by decide) (fun z457 h458 => ?_)
  refine s_iadd C dL_law_977 (by omega) (fun z459 h460 => ?_)
  refine s_sld C X (by omega) (by omega) dL_law_978 (fun m461 h462 => ?_)
  refine a_aload_n C dL_law_979 (i := 0) rfl rfl ?_
  refine a_iload_n C dL_law_980 (i := 3) rfl rfl ?_
  refine s_iconst C dL_law_981 (4) (by decide) (fun z463 h464 => ?_)
  refine s_iadd C dL_law_982 (by omega) (fun z465 h466 => ?_)
  refine s_sld C X (by omega) (by omega) dL_law_983 (fun m467 h468 => ?_)
  have hS : SIMx n (f_X11_ways (xs m449) (xs m455) (xs m461) (xs m467)) (f_X12_ways (xs m449) (xs m455) (xs m461) (xs m467)) := simx_ways
  obtain ⟨r9, r8, s9, s8, ec, em, hN⟩ := hS σ hI
  refine a_callVi C (i := 0) kd_0 (hid 0 (by decide)) ⟨_, _, rfl⟩ (by decide) (Z_X11_ways hid ec) mi_X11_ways ml_RL_137 rfl rfl (Nat.le_of_ble_eq_true rfl) (Nat.le_of_ble_eq_true rfl) (Nat.le_of_ble_eq_true rfl) dL_law_984 (fun r σ1 q1 => ?_)
  obtain ⟨er, es⟩ := q1
  subst es
  subst er
  refine a_pop C dL_law_987 rfl ?_
  refine a_aload_n C dL_law_988 (i := 2) rfl rfl ?_
  refine a_aload_n C dL_law_989 (i := 0) rfl rfl ?_
  refine a_iload_n C dL_law_990 (i := 3) rfl rfl ?_
  refine s_iconst C dL_law_991 (1) (by decide) (fun z469 h470 => ?_)
  refine s_iadd C dL_law_992 (by omega) (fun z471 h472 => ?_)
  refine s_sld C X (by omega) (by omega) dL_law_993 (fun m473 h474 => ?_)
  refine a_aload_n C dL_law_994 (i := 0) rfl rfl ?_
  refine a_iload_n C dL_law_995 (i := 3) rfl rfl ?_
  refine s_iconst C dL_law_996 (2) (by decide) (fun z475 h476 => ?_)
  refine s_iadd C dL_law_997 (by omega) (fun z477 h478 => ?_)
  refine s_sld C X (by omega) (by omega) dL_law_998 (fun m479 h480 => ?_)
  refine a_aload_n C dL_law_999 (i := 0) rfl rfl ?_
  refine a_iload_n C dL_law_1000 (i := 3) rfl rfl ?_
  refine s_iconst C dL_law_1001 (3) (by decide) (fun z481 h482 => ?_)
  refine s_iadd C dL_law_1002 (by omega) (fun z483 h484 => ?_)
  refine s_sld C X (by omega) (by omega) dL_law_1003 (fun m485 h486 => ?_)
  refine a_aload_n C dL_law_1004 (i := 0) rfl rfl ?_
  refine a_iload_n C dL_law_1005 (i := 3) rfl rfl ?_
  refine s_iconst C dL_law_1006 (4) (by decide) (fun z487 h488 => ?_)
  refine s_iadd C dL_law_1007 (by omega) (fun z489 h490 => ?_)
  refine s_sld C X (by omega) (by omega) dL_law_1008 (fun m491 h492 => ?_)
  obtain rfl : m473 = m449 := by omega
  obtain rfl : m479 = m455 := by omega
  obtain rfl : m485 = m461 := by omega
  obtain rfl : m491 = m467 := by omega
  refine a_callVi C (i := 236) kd_236 (hid 236 (by decide)) ⟨_, _, rfl⟩ (by decide) (Z_X12_ways hid em) mi_X12_ways ml_RL_141 rfl rfl (Nat.le_of_ble_eq_true rfl) (Nat.le_of_ble_eq_true rfl) (Nat.le_of_ble_eq_true rfl) dL_law_1009 (fun r2 σ2 q2 => ?_)
  obtain ⟨er2, es2⟩ := q2
  subst es2
  subst er2
  refine a_pop C dL_law_1012 rfl ?_
  exact a_goto C dL_law_1013 (tgt := 1338) rfl (K _ hN)
set_option maxHeartbeats 4000000 in
set_option maxRecDepth 100000 in
theorem la_30 {Γ : GT} {ids : List Nat} {ad : Nat → Nat} {ca : Nat → ClassId} {l0 : Launch} {D0 : va_G} {b L n : Nat} {i : Int32} {xs : Nat → Int32} {σ : HS} {K9 : (Nat → Nat) × (Nat → Nat)} (C : CT ids ad ca Γ code RL l0 D0 2048 84000 4) (X : SX Γ b L xs) (E9 : SG K9 Γ) (hid : ∀ i, i < 277 → i ∈ ids) (hi : i.toInt = 6 * (n : Int)) (hL : 6 * n + 6 ≤ L) (hLL : L ≤ 3072) (hI : REL n σ) (K : ∀ σ : HS, REL (n + 1) σ → AW ids ad ca Γ 1338 [some (.ref b), some (.ref (ad 0)), some (.ref (ad 236)), some (.int i)] [] σ) : AW ids ad ca Γ 1016 [some (.ref b), some (.ref (ad 0)), some (.ref (ad 236)), some (.int i)] [] σ := by
  refine a_aload_n C dL_law_1016 (i := 1) rfl rfl ?_
  refine a_aload_n C dL_law_1017 (i := 0) rfl rfl ?_
  refine a_iload_n C dL_law_1018 (i := 3) rfl rfl ?_
  refine s_iconst C dL_law_1019 (1) (by decide) (fun z493 h494 => ?_)
  refine s_iadd C dL_law_1020 (by omega) (fun z495 h496 => ?_)
  refine s_sld C X (by omega) (by omega) dL_law_1021 (fun m497 h498 => ?_)
  refine a_aload_n C dL_law_1022 (i := 0) rfl rfl ?_
  refine a_iload_n C dL_law_1023 (i := 3) rfl rfl ?_
  refine s_iconst C dL_law_1024 (2) (by decide) (fun z499 h500 => ?_)
  refine s_iadd C dL_law_1025 (by omega) (fun z501 h502 => ?_)
  refine s_sld C X (by omega) (by omega) dL_law_1026 (fun m503 h504 => ?_)
  have hS : SIMx n (f_X11_light (xs m497) (xs m503)) (f_X12_light (xs m497) (xs m503)) := simx_light (by omega)
  obtain ⟨r9, r8, s9, s8, ec, em, hN⟩ := hS σ hI
  refine a_callVi C (i := 0) kd_0 (hid 0 (by decide)) ⟨_, _, rfl⟩ (by decide) (Z_X11_light hid ec) mi_X11_light ml_RL_142 rfl rfl (Nat.le_of_ble_eq_true rfl) (Nat.le_of_ble_eq_true rfl) (Nat.le_of_ble_eq_true rfl) dL_law_1027 (fun r σ1 q1 => ?_)
  obtain ⟨er, es⟩ := q1
  subst es
  subst er
  refine a_pop C dL_law_1030 rfl ?_
  refine a_aload_n C dL_law_1031 (i := 2) rfl rfl ?_
  refine a_aload_n C dL_law_1032 (i := 0) rfl rfl ?_
  refine a_iload_n C dL_law_1033 (i := 3) rfl rfl ?_
  refine s_iconst C dL_law_1034 (1) (by decide) (fun z505 h506 => ?_)
  refine s_iadd C dL_law_1035 (by omega) (fun z507 h508 => ?_)
  refine s_sld C X (by omega) (by omega) dL_law_1036 (fun m509 h510 => ?_)
  refine a_aload_n C dL_law_1037 (i := 0) rfl rfl ?_
  refine a_iload_n C dL_law_1038 (i := 3) rfl rfl ?_
  refine s_iconst C dL_law_1039 (2) (by decide) (fun z511 h512 => ?_)
  refine s_iadd C dL_law_1040 (by omega) (fun z513 h514 => ?_)
  refine s_sld C X (by omega) (by omega) dL_law_1041 (fun m515 h516 => ?_)
  obtain rfl : m509 = m497 := by omega
  obtain rfl : m515 = m503 := by omega
  refine a_callVi C (i := 236) kd_236 (hid 236 (by decide)) ⟨_, _, rfl⟩ (by decide) (Z_X12_light hid em) mi_X12_light ml_RL_145 rfl rfl (Nat.le_of_ble_eq_true rfl) (Nat.le_of_ble_eq_true rfl) (Nat.le_of_ble_eq_true rfl) dL_law_1042 (fun r2 σ2 q2 => ?_)
  obtain ⟨er2, es2⟩ := q2
  subst es2
  subst er2
  refine a_pop C dL_law_1045 rfl ?_
  exact a_goto C dL_law_1046 (tgt := 1338) rfl (K _ hN)
set_option maxHeartbeats 4000000 in
set_option maxRecDepth 100000 in
theorem la_31 {Γ : GT} {ids : List Nat} {ad : Nat → Nat} {ca : Nat → ClassId} {l0 : Launch} {D0 : va_G} {b L n : Nat} {i : Int32} {xs : Nat → Int32} {σ : HS} {K9 : (Nat → Nat) × (Nat → Nat)} (C : CT ids ad ca Γ code RL l0 D0 2048 84000 4) (X : SX Γ b L xs) (E9 : SG K9 Γ) (hid : ∀ i, i < 277 → i ∈ ids) (hi : i.toInt = 6 * (n : Int)) (hL : 6 * n + 6 ≤ L) (hLL : L ≤ 3072) (hI : REL n σ) (K : ∀ σ : HS, REL (n + 1) σ → AW ids ad ca Γ 1338 [some (.ref b), some (.ref (ad 0)), some (.ref (ad 236)), some (.int i)] [] σ) : AW ids ad ca Γ 1049 [some (.ref b), some (.ref (ad 0)), some (.ref (ad 236)), some (.int i)] [] σ := by
  refine a_aload_n C dL_law_1049 (i := 1) rfl rfl ?_
  refine a_aload_n C dL_law_1050 (i := 0) rfl rfl ?_
  refine a_iload_n C dL_law_1051 (i := 3) rfl rfl ?_
  refine s_iconst C dL_law_1052 (1) (by decide) (fun z517 h518 => ?_)
  refine s_iadd C dL_law_1053 (by omega) (fun z519 h520 => ?_)
  refine s_sld C X (by omega) (by omega) dL_law_1054 (fun m521 h522 => ?_)
  have hS : SIM n (f_X11_rule (xs m521)) (f_X12_rule (xs m521)) := sim_rule (by omega)
  obtain ⟨r9, s9, s8, ec, em, hN⟩ := hS σ hI
  refine a_callVi C (i := 0) kd_0 (hid 0 (by decide)) ⟨_, _, rfl⟩ (by decide) (Z_X11_rule hid ec) mi_X11_rule ml_RL_146 rfl rfl (Nat.le_of_ble_eq_true rfl) (Nat.le_of_ble_eq_true rfl) (Nat.le_of_ble_eq_true rfl) dL_law_1055 (fun r σ1 q1 => ?_)
  obtain ⟨er, es⟩ := q1
  subst es
  subst er
  refine a_pop C dL_law_1058 rfl ?_
  refine a_aload_n C dL_law_1059 (i := 2) rfl rfl ?_
  refine a_aload_n C dL_law_1060 (i := 0) rfl rfl ?_
  refine a_iload_n C dL_law_1061 (i := 3) rfl rfl ?_
  refine s_iconst C dL_law_1062 (1) (by decide) (fun z523 h524 => ?_)
  refine s_iadd C dL_law_1063 (by omega) (fun z525 h526 => ?_)
  refine s_sld C X (by omega) (by omega) dL_law_1064 (fun m527 h528 => ?_)
  obtain rfl : m527 = m521 := by omega
  refine a_callVi C (i := 236) kd_236 (hid 236 (by decide)) ⟨_, _, rfl⟩ (by decide) (Z_X12_rule hid em) mi_X12_rule ml_RL_149 rfl rfl (Nat.le_of_ble_eq_true rfl) (Nat.le_of_ble_eq_true rfl) (Nat.le_of_ble_eq_true rfl) dL_law_1065 (fun r2 σ2 q2 => ?_)
  obtain ⟨er2, es2⟩ := q2
  subst es2
  subst er2
  refine a_pop C dL_law_1068 rfl ?_
  exact a_goto C dL_law_1069 (tgt := 1338) rfl (K _ hN)
set_option maxHeartbeats 4000000 in
set_option maxRecDepth 100000 in
theorem la_32 {Γ : GT} {ids : List Nat} {ad : Nat → Nat} {ca : Nat → ClassId} {l0 : Launch} {D0 : va_G} {b L n : Nat} {i : Int32} {xs : Nat → Int32} {σ : HS} {K9 : (Nat → Nat) × (Nat → Nat)} (C : CT ids ad ca Γ code RL l0 D0 2048 84000 4) (X : SX Γ b L xs) (E9 : SG K9 Γ) (hid : ∀ i, i < 277 → i ∈ ids) (hi : i.toInt = 6 * (n : Int)) (hL : 6 * n + 6 ≤ L) (hLL : L ≤ 3072) (hI : REL n σ) (K : ∀ σ : HS, REL (n + 1) σ → AW ids ad ca Γ 1338 [some (.ref b), some (.ref (ad 0)), some (.ref (ad 236)), some (.int i)] [] σ) : AW ids ad ca Γ 1072 [some (.ref b), some (.ref (ad 0)), some (.ref (ad 236)), some (.int i)] [] σ := by
  refine a_aload_n C dL_law_1072 (i := 1) rfl rfl ?_
  have hS : SIMx n (f_X11_down) (f_X12_down) := simx_down (by omega)
  obtain ⟨r9, r8, s9, s8, ec, em, hN⟩ := hS σ hI
  refine a_callVi C (i := 0) kd_0 (hid 0 (by decide)) ⟨_, _, rfl⟩ (by decide) (Z_X11_down hid ec) mi_X11_down ml_RL_150 rfl rfl (Nat.le_of_ble_eq_true rfl) (Nat.le_of_ble_eq_true rfl) (Nat.le_of_ble_eq_true rfl) dL_law_1073 (fun r σ1 q1 => ?_)
  obtain ⟨er, es⟩ := q1
  subst es
  subst er
  refine a_pop C dL_law_1076 rfl ?_
  refine a_aload_n C dL_law_1077 (i := 2) rfl rfl ?_
  refine a_callVi C (i := 236) kd_236 (hid 236 (by decide)) ⟨_, _, rfl⟩ (by decide) (Z_X12_down hid em) mi_X12_down ml_RL_153 rfl rfl (Nat.le_of_ble_eq_true rfl) (Nat.le_of_ble_eq_true rfl) (Nat.le_of_ble_eq_true rfl) dL_law_1078 (fun r2 σ2 q2 => ?_)
  obtain ⟨er2, es2⟩ := q2
  subst es2
  subst er2
  refine a_pop C dL_law_1081 rfl ?_
  exact a_goto C dL_law_1082 (tgt := 1338) rfl (K _ hN)
set_option maxHeartbeats 4000000 in
set_option maxRecDepth 100000 in
theorem la_33 {Γ : GT} {ids : List Nat} {ad : Nat → Nat} {ca : Nat → ClassId} {l0 : Launch} {D0 : va_G} {b L n : Nat} {i : Int32} {xs : Nat → Int32} {σ : HS} {K9 : (Nat → Nat) × (Nat → Nat)} (C : CT ids ad ca Γ code RL l0 D0 2048 84000 4) (X : SX Γ b L xs) (E9 : SG K9 Γ) (hid : ∀ i, i < 277 → i ∈ ids) (hi : i.toInt = 6 * (n : Int)) (hL : 6 * n + 6 ≤ L) (hLL : L ≤ 3072) (hI : REL n σ) (K : ∀ σ : HS, REL (n + 1) σ → AW ids ad ca Γ 1338 [some (.ref b), some (.ref (ad 0)), some (.ref (ad 236)), some (.int i)] [] σ) : AW ids ad ca Γ 1085 [some (.ref b), some (.ref (ad 0)), some (.ref (ad 236)), some (.int i)] [] σ := by
  refine a_aload_n C dL_law_1085 (i := 1) rfl rfl ?_
  refine a_aload_n C dL_law_1086 (i := 0) rfl rfl ?_
  refine a_iload_n C dL_law_1087 (i := 3) rfl rfl ?_
  refine s_iconst C dL_law_1088 (1) (by decide) (fun z529 h530 => ?_)
  refine s_iadd C dL_law_1089 (by omega) (fun z531 h532 => ?_)
  refine s_sld C X (by omega) (by omega) dL_law_1090 (fun m533 h534 => ?_)
  refine a_aload_n C dL_law_1091 (i := 0) rfl rfl ?_
  refine a_iload_n C dL_law_1092 (i := 3) rfl rfl ?_
  refine s_iconst C dL_law_1093 (2) (by decide) (fun z535 h536 => ?_)
  refine s_iadd C dL_law_1094 (by omega) (fun z537 h538 => ?_)
  refine s_sld C X (by omega) (by omega) dL_law_1095 (fun m539 h540 => ?_)
  have hS : SIM n (f_X11_then (xs m533) (xs m539)) (f_X12_then (xs m533) (xs m539)) := sim_then (by omega)
  obtain ⟨r9, s9, s8, ec, em, hN⟩ := hS σ hI
  refine a_callVi C (i := 0) kd_0 (hid 0 (by decide)) ⟨_, _, rfl⟩ (by decide) (Z_X11_then hid ec) mi_X11_then ml_RL_154 rfl rfl (Nat.le_of_ble_eq_true rfl) (Nat.le_of_ble_eq_true rfl) (Nat.le_of_ble_eq_true rfl) dL_law_1096 (fun r σ1 q1 => ?_)
  obtain ⟨er, es⟩ := q1
  subst es
  subst er
  refine a_pop C dL_law_1099 rfl ?_
  refine a_aload_n C dL_law_1100 (i := 2) rfl rfl ?_
  refine a_aload_n C dL_law_1101 (i := 0) rfl rfl ?_
  refine a_iload_n C dL_law_1102 (i := 3) rfl rfl ?_
  refine s_iconst C dL_law_1103 (1) (by decide) (fun z541 h542 => ?_)
  refine s_iadd C dL_law_1104 (by omega) (fun z543 h544 => ?_)
  refine s_sld C X (by omega) (by omega) dL_law_1105 (fun m545 h546 => ?_)
  refine a_aload_n C dL_law_1106 (i := 0) rfl rfl ?_
  refine a_iload_n C dL_law_1107 (i := 3) rfl rfl ?_
  refine s_iconst C dL_law_1108 (2) (by decide) (fun z547 h548 => ?_)
  refine s_iadd C dL_law_1109 (by omega) (fun z549 h550 => ?_)
  refine s_sld C X (by omega) (by omega) dL_law_1110 (fun m551 h552 => ?_)
  obtain rfl : m545 = m533 := by omega
  obtain rfl : m551 = m539 := by omega
  refine a_callVi C (i := 236) kd_236 (hid 236 (by decide)) ⟨_, _, rfl⟩ (by decide) (Z_X12_then hid em) mi_X12_then ml_RL_157 rfl rfl (Nat.le_of_ble_eq_true rfl) (Nat.le_of_ble_eq_true rfl) (Nat.le_of_ble_eq_true rfl) dL_law_1111 (fun r2 σ2 q2 => ?_)
  obtain ⟨er2, es2⟩ := q2
  subst es2
  subst er2
  refine a_pop C dL_law_1114 rfl ?_
  exact a_goto C dL_law_1115 (tgt := 1338) rfl (K _ hN)
set_option maxHeartbeats 4000000 in
set_option maxRecDepth 100000 in
theorem la_34 {Γ : GT} {ids : List Nat} {ad : Nat → Nat} {ca : Nat → ClassId} {l0 : Launch} {D0 : va_G} {b L n : Nat} {i : Int32} {xs : Nat → Int32} {σ : HS} {K9 : (Nat → Nat) × (Nat → Nat)} (C : CT ids ad ca Γ code RL l0 D0 2048 84000 4) (X : SX Γ b L xs) (E9 : SG K9 Γ) (hid : ∀ i, i < 277 → i ∈ ids) (hi : i.toInt = 6 * (n : Int)) (hL : 6 * n + 6 ≤ L) (hLL : L ≤ 3072) (hI : REL n σ) (K : ∀ σ : HS, REL (n + 1) σ → AW ids ad ca Γ 1338 [some (.ref b), some (.ref (ad 0)), some (.ref (ad 236)), some (.int i)] [] σ) : AW ids ad ca Γ 1118 [some (.ref b), some (.ref (ad 0)), some (.ref (ad 236)), some (.int i)] [] σ := by
  refine a_aload_n C dL_law_1118 (i := 1) rfl rfl ?_
  refine a_aload_n C dL_law_1119 (i := 0) rfl rfl ?_
  refine a_iload_n C dL_law_1120 (i := 3) rfl rfl ?_
  refine s_iconst C dL_law_1121 (1) (by decide) (fun z553 h554 => ?_)
  refine s_iadd C dL_law_1122 (by omega) (fun z555 h556 => ?_)
  refine s_sld C X (by omega) (by omega) dL_law_1123 (fun m557 h558 => ?_)
  refine a_aload_n C dL_law_1124 (i := 0) rfl rfl ?_
  refine a_iload_n C dL_law_1125 (i := 3) rfl rfl ?_
  refine s_iconst C dL_law_1126 (2) (by decide) (fun z559 h560 => ?_)
  refine s_iadd C dL_law_1127 (by omega) (fun z561 h562 => ?_)
  refine s_sld C X (by omega) (by omega) dL_law_1128 (fun m563 h564 => ?_)
  have hS : SIM n (f_X11_year (xs m557) (xs m563)) (f_X12_year (xs m557) (xs m563)) := sim_year (by omega)
  obtain ⟨r9, s9, s8, ec, em, hN⟩ := hS σ hI
  refine a_callVi C (i := 0) kd_0 (hid 0 (by decide)) ⟨_, _, rfl⟩ (by decide) (Z_X11_year hid ec) mi_X11_year ml_RL_158 rfl rfl (Nat.le_of_ble_eq_true rfl) (Nat.le_of_ble_eq_true rfl) (Nat.le_of_ble_eq_true rfl) dL_law_1129 (fun r σ1 q1 => ?_)
  obtain ⟨er, es⟩ := q1
  subst es
  subst er
  refine a_pop C dL_law_1132 rfl ?_
  refine a_aload_n C dL_law_1133 (i := 2) rfl rfl ?_
  refine a_aload_n C dL_law_1134 (i := 0) rfl rfl ?_
  refine a_iload_n C dL_law_1135 (i := 3) rfl rfl ?_
  refine s_iconst C dL_law_1136 (1) (by decide) (fun z565 h566 => ?_)
  refine s_iadd C dL_law_1137 (by omega) (fun z567 h568 => ?_)
  refine s_sld C X (by omega) (by omega) dL_law_1138 (fun m569 h570 => ?_)
  refine a_aload_n C dL_law_1139 (i := 0) rfl rfl ?_
  refine a_iload_n C dL_law_1140 (i := 3) rfl rfl ?_
  refine s_iconst C dL_law_1141 (2) (by decide) (fun z571 h572 => ?_)
  refine s_iadd C dL_law_1142 (by omega) (fun z573 h574 => ?_)
  refine s_sld C X (by omega) (by omega) dL_law_1143 (fun m575 h576 => ?_)
  obtain rfl : m569 = m557 := by omega
  obtain rfl : m575 = m563 := by omega
  refine a_callVi C (i := 236) kd_236 (hid 236 (by decide)) ⟨_, _, rfl⟩ (by decide) (Z_X12_year hid em) mi_X12_year ml_RL_161 rfl rfl (Nat.le_of_ble_eq_true rfl) (Nat.le_of_ble_eq_true rfl) (Nat.le_of_ble_eq_true rfl) dL_law_1144 (fun r2 σ2 q2 => ?_)
  obtain ⟨er2, es2⟩ := q2
  subst es2
  subst er2
  refine a_pop C dL_law_1147 rfl ?_
  exact a_goto C dL_law_1148 (tgt := 1338) rfl (K _ hN)
set_option maxHeartbeats 4000000 in
set_option maxRecDepth 100000 in
theorem la_35 {Γ : GT} {ids : List Nat} {ad : Nat → Nat} {ca : Nat → ClassId} {l0 : Launch} {D0 : va_G} {b L n : Nat} {i : Int32} {xs : Nat → Int32} {σ : HS} {K9 : (Nat → Nat) × (Nat → Nat)} (C : CT ids ad ca Γ code RL l0 D0 2048 84000 4) (X : SX Γ b L xs) (E9 : SG K9 Γ) (hid : ∀ i, i < 277 → i ∈ ids) (hi : i.toInt = 6 * (n : Int)) (hL : 6 * n + 6 ≤ L) (hLL : L ≤ 3072) (hI : REL n σ) (K : ∀ σ : HS, REL (n + 1) σ → AW ids ad ca Γ 1338 [some (.ref b), some (.ref (ad 0)), some (.ref (ad 236)), some (.int i)] [] σ) : AW ids ad ca Γ 1151 [some (.ref b), some (.ref (ad 0)), some (.ref (ad 236)), some (.int i)] [] σ := by
  refine a_aload_n C dL_law_1151 (i := 1) rfl rfl ?_
  refine a_aload_n C dL_law_1152 (i := 0) rfl rfl ?_
  refine a_iload_n C dL_law_1153 (i := 3) rfl rfl ?_
  refine s_iconst C dL_law_1154 (1) (by decide) (fun z577 h578 => ?_)
  refine s_iadd C dL_law_1155 (by omega) (fun z579 h580 => ?_)
  refine s_sld C X (by omega) (by omega) dL_law_1156 (fun m581 h582 => ?_)
  refine a_aload_n C dL_law_1157 (i := 0) rfl rfl ?_
  refine a_iload_n C dL_law_1158 (i := 3) rfl rfl ?_
  refine s_iconst C dL_law_1159 (2) (by decide) (fun z583 h584 => ?_)
  refine s_iadd C dL_law_1160 (by omega) (fun z585 h586 => ?_)
  refine s_sld C X (by omega) (by omega) dL_law_1161 (fun m587 h588 => ?_)
  refine s_if_eq C dL_law_1162 (tgt := 1169) rfl (fun hz589 => ?_) (fun hz589 => ?_)
  ·
    refine s_iconst C dL_law_1169 (0) (by decide) (fun z590 h591 => ?_)
    have hy : z590 = 0 ∨ z590 = 1 := by first | exact Or.inl (Int32.toInt_inj.mp h591) | exact Or.inr (Int32.toInt_inj.mp h591)
    have hS : SIM n (f_X11_tell (xs m581) z590) (f_X12_tell (xs m581) z590) := sim_tell hy
    obtain ⟨r9, s9, s8, ec, em, hN⟩ := hS σ hI
    refine a_callVi C (i := 0) kd_0 (hid 0 (by decide)) ⟨_, _, rfl⟩ (by decide) (Z_X11_tell hid ec) mi_X11_tell ml_RL_162 rfl rfl (Nat.le_of_ble_eq_true rfl) (Nat.le_of_ble_eq_true rfl) (Nat.le_of_ble_eq_true rfl) dL_law_1170 (fun r σ1 q1 => ?_)
    obtain ⟨er, es⟩ := q1
    subst es
    subst er
    refine a_pop C dL_law_1173 rfl ?_
    refine a_aload_n C dL_law_1174 (i := 2) rfl rfl ?_
    refine a_aload_n C dL_law_1175 (i := 0) rfl rfl ?_
    refine a_iload_n C dL_law_1176 (i := 3) rfl rfl ?_
    refine s_iconst C dL_law_1177 (1) (by decide) (fun z592 h593 => ?_)
    refine s_iadd C dL_law_1178 (by omega) (fun z594 h595 => ?_)
    refine s_sld C X (by omega) (by omega) dL_law_1179 (fun m596 h597 => ?_)
    refine a_aload_n C dL_law_1180 (i := 0) rfl rfl ?_
    refine a_iload_n C dL_law_1181 (i := 3) rfl rfl ?_
    refine s_iconst C dL_law_1182 (2) (by decide) (fun z598 h599 => ?_)
    refine s_iadd C dL_law_1183 (by omega) (fun z600 h601 => ?_)
    refine s_sld C X (by omega) (by omega) dL_law_1184 (fun m602 h603 => ?_)
    refine s_if_eq C dL_law_1185 (tgt := 1192) rfl (fun hz604 => ?_) (fun hz604 => ?_)
    ·
      obtain rfl : m602 = m587 := by omega
      refine s_iconst C dL_law_1192 (0) (by decide) (fun z605 h606 => ?_)
      obtain rfl : m596 = m581 := by omega
      obtain rfl : z605 = z590 := Int32.toInt_inj.mp (by omega)
      refine a_callVi C (i := 236) kd_236 (hid 236 (by decide)) ⟨_, _, rfl⟩ (by decide) (Z_X12_tell hid em) mi_X12_tell ml_RL_166 rfl rfl (Nat.le_of_ble_eq_true rfl) (Nat.le_of_ble_eq_true rfl) (Nat.le_of_ble_eq_true rfl) dL_law_1193 (fun r2 σ2 q2 => ?_)
      obtain ⟨er2, es2⟩ := q2
      subst es2
      subst er2
      refine a_pop C dL_law_1196 rfl ?_
      exact a_goto C dL_law_1197 (tgt := 1338) rfl (K _ hN)
    ·
      obtain rfl : m602 = m587 := by omega
      exfalso
      omega
  ·
    refine s_iconst C dL_law_1165 (1) (by decide) (fun z607 h608 => ?_)
    refine a_goto C dL_law_1166 (tgt := 1170) rfl ?_
    have hy : z607 = 0 ∨ z607 = 1 := by first | exact Or.inl (Int32.toInt_inj.mp h608) | exact Or.inr (Int32.toInt_inj.mp h608)
    have hS : SIM n (f_X11_tell (xs m581) z607) (f_X12_tell (xs m581) z607) := sim_tell hy
    obtain ⟨r9, s9, s8, ec, em, hN⟩ := hS σ hI
    refine a_callVi C (i := 0) kd_0 (hid 0 (by decide)) ⟨_, _, rfl⟩ (by decide) (Z_X11_tell hid ec) mi_X11_tell ml_RL_162 rfl rfl (Nat.le_of_ble_eq_true rfl) (Nat.le_of_ble_eq_true rfl) (Nat.le_of_ble_eq_true rfl) dL_law_1170 (fun r σ1 q1 => ?_)
    obtain ⟨er, es⟩ := q1
    subst es
    subst er
    refine a_pop C dL_law_1173 rfl ?_
    refine a_aload_n C dL_law_1174 (i := 2) rfl rfl ?_
    refine a_aload_n C dL_law_1175 (i := 0) rfl rfl ?_
    refine a_iload_n C dL_law_1176 (i := 3) rfl rfl ?_
    refine s_iconst C dL_law_1177 (1) (by decide) (fun z609 h610 => ?_)
    refine s_iadd C dL_law_1178 (by omega) (fun z611 h612 => ?_)
    refine s_sld C X (by omega) (by omega) dL_law_1179 (fun m613 h614 => ?_)
    refine a_aload_n C dL_law_1180 (i := 0) rfl rfl ?_
    refine a_iload_n C dL_law_1181 (i := 3) rfl rfl ?_
    refine s_iconst C dL_law_1182 (2) (by decide) (fun z615 h616 => ?_)
    refine s_iadd C dL_law_1183 (by omega) (fun z617 h618 => ?_)
    refine s_sld C X (by omega) (by omega) dL_law_1184 (fun m619 h620 => ?_)
    refine s_if_eq C dL_law_1185 (tgt := 1192) rfl (fun hz621 => ?_) (fun hz621 => ?_)
    ·
      obtain rfl : m619 = m587 := by omega
      exfalso
      omega
    ·
      obtain rfl : m619 = m587 := by omega
      refine s_iconst C dL_law_1188 (1) (by decide) (fun z622 h623 => ?_)
      refine a_goto C dL_law_1189 (tgt := 1193) rfl ?_
      obtain rfl : m613 = m581 := by omega
      obtain rfl : z622 = z607 := Int32.toInt_inj.mp (by omega)
      refine a_callVi C (i := 236) kd_236 (hid 236 (by decide)) ⟨_, _, rfl⟩ (by decide) (Z_X12_tell hid em) mi_X12_tell ml_RL_166 rfl rfl (Nat.le_of_ble_eq_true rfl) (Nat.le_of_ble_eq_true rfl) (Nat.le_of_ble_eq_true rfl) dL_law_1193 (fun r2 σ2 q2 => ?_)
      obtain ⟨er2, es2⟩ := q2
      subst es2
      subst er2
      refine a_pop C dL_law_1196 rfl ?_
      exact a_goto C dL_law_1197 (tgt := 1338) rfl (K _ hN)
set_option maxHeartbeats 4000000 in
set_option maxRecDepth 100000 in
theorem la_36 {Γ : GT} {ids : List Nat} {ad : Nat → Nat} {ca : Nat → ClassId} {l0 : Launch} {D0 : va_G} {b L n : Nat} {i : Int32} {xs : Nat → Int32} {σ : HS} {K9 : (Nat → Nat) × (Nat → Nat)} (C : CT ids ad ca Γ code RL l0 D0 2048 84000 4) (X : SX Γ b L xs) (E9 : SG K9 Γ) (hid : ∀ i, i < 277 → i ∈ ids) (hi : i.toInt = 6 * (n : Int)) (hL : 6 * n + 6 ≤ L) (hLL : L ≤ 3072) (hI : REL n σ) (K : ∀ σ : HS, REL (n + 1) σ → AW ids ad ca Γ 1338 [some (.ref b), some (.ref (ad 0)), some (.ref (ad 236)), some (.int i)] [] σ) : AW ids ad ca Γ 1200 [some (.ref b), some (.ref (ad 0)), some (.ref (ad 236)), some (.int i)] [] σ := by
  refine a_aload_n C dL_law_1200 (i := 1) rfl rfl ?_
  have hS : SIM n (f_X11_forget) (f_X12_forget) := sim_forget
  obtain ⟨r9, s9, s8, ec, em, hN⟩ := hS σ hI
  refine a_callVi C (i := 0) kd_0 (hid 0 (by decide)) ⟨_, _, rfl⟩ (by decide) (Z_X11_forget hid ec) mi_X11_forget ml_RL_167 rfl rfl (Nat.le_of_ble_eq_true rfl) (Nat.le_of_ble_eq_true rfl) (Nat.le_of_ble_eq_true rfl) dL_law_1201 (fun r σ1 q1 => ?_)
  obtain ⟨er, es⟩ := q1
  subst es
  subst er
  refine a_pop C dL_law_1204 rfl ?_
  refine a_aload_n C dL_law_1205 (i := 2) rfl rfl ?_
  refine a_callVi C (i := 236) kd_236 (hid 236 (by decide)) ⟨_, _, rfl⟩ (by decide) (Z_X12_forget hid em) mi_X12_forget ml_RL_170 rfl rfl (Nat.le_of_ble_eq_true rfl) (Nat.le_of_ble_eq_true rfl) (Nat.le_of_ble_eq_true rfl) dL_law_1206 (fun r2 σ2 q2 => ?_)
  obtain ⟨er2, es2⟩ := q2
  subst es2
  subst er2
  refine a_pop C dL_law_1209 rfl ?_
  exact a_goto C dL_law_1210 (tgt := 1338) rfl (K _ hN)
set_option maxHeartbeats 4000000 in
set_option maxRecDepth 100000 in
theorem la_37 {Γ : GT} {ids : List Nat} {ad : Nat → Nat} {ca : Nat → ClassId} {l0 : Launch} {D0 : va_G} {b L n : Nat} {i : Int32} {xs : Nat → Int32} {σ : HS} {K9 : (Nat → Nat) × (Nat → Nat)} (C : CT ids ad ca Γ code RL l0 D0 2048 84000 4) (X : SX Γ b L xs) (E9 : SG K9 Γ) (hid : ∀ i, i < 277 → i ∈ ids) (hi : i.toInt = 6 * (n : Int)) (hL : 6 * n + 6 ≤ L) (hLL : L ≤ 3072) (hI : REL n σ) (K : ∀ σ : HS, REL (n + 1) σ → AW ids ad ca Γ 1338 [some (.ref b), some (.ref (ad 0)), some (.ref (ad 236)), some (.int i)] [] σ) : AW ids ad ca Γ 1213 [some (.ref b), some (.ref (ad 0)), some (.ref (ad 236)), some (.int i)] [] σ := by
  refine a_aload_n C dL_law_1213 (i := 1) rfl rfl ?_
  refine a_aload_n C dL_law_1214 (i := 0) rfl rfl ?_
  refine a_iload_n C dL_law_1215 (i := 3) rfl rfl ?_
  refine s_iconst C dL_law_1216 (1) (by decide) (fun z624 h625 => ?_)
  refine s_iadd C dL_law_1217 (by omega) (fun z626 h627 => ?_)
  refine s_sld C X (by omega) (by omega) dL_law_1218 (fun m628 h629 => ?_)
  refine a_aload_n C dL_law_1219 (i := 0) rfl rfl ?_
  refine a_iload_n C dL_law_1220 (i := 3) rfl rfl ?_
  refine s_iconst C dL_law_1221 (2) (by decide) (fun z630 h631 => ?_)
  refine s_iadd C dL_law_1222 (by omega) (fun z632 h633 => ?_)
  refine s_sld C X (by omega) (by omega) dL_law_1223 (fun m634 h635 => ?_)
  have hS : SIM n (f_X11_glitters (xs m628) (xs m634)) (f_X12_glitters (xs m628) (xs m634)) := sim_glitters (by omega)
  obtain ⟨r9, s9, s8, ec, em, hN⟩ := hS σ hI
  refine a_callVi C (i := 0) kd_0 (hid 0 (by decide)) ⟨_, _, rfl⟩ (by decide) (Z_X11_glitters hid ec) mi_X11_glitters ml_RL_171 rfl rfl (Nat.le_of_ble_eq_true rfl) (Nat.le_of_ble_eq_true rfl) (Nat.le_of_ble_eq_true rfl) dL_law_1224 (fun r σ1 q1 => ?_)
  obtain ⟨er, es⟩ := q1
  subst es
  subst er
  refine a_pop C dL_law_1227 rfl ?_
  refine a_aload_n C dL_law_1228 (i := 2) rfl rfl ?_
  refine a_aload_n C dL_law_1229 (i := 0) rfl rfl ?_
  refine a_iload_n C dL_law_1230 (i := 3) rfl rfl ?_
  refine s_iconst C dL_law_1231 (1) (by decide) (fun z636 h637 => ?_)
  refine s_iadd C dL_law_1232 (by omega) (fun z638 h639 => ?_)
  refine s_sld C X (by omega) (by omega) dL_law_1233 (fun m640 h641 => ?_)
  refine a_aload_n C dL_law_1234 (i := 0) rfl rfl ?_
  refine a_iload_n C dL_law_1235 (i := 3) rfl rfl ?_
  refine s_iconst C dL_law_1236 (2) (by decide) (fun z642 h643 => ?_)
  refine s_iadd C dL_law_1237 (by omega) (fun z644 h645 => ?_)
  refine s_sld C X (by omega) (by omega) dL_law_1238 (fun m646 h647 => ?_)
  obtain rfl : m640 = m628 := by omega
  obtain rfl : m646 = m634 := by omega
  refine a_callVi C (i := 236) kd_236 (hid 236 (by decide)) ⟨_, _, rfl⟩ (by decide) (Z_X12_glitters hid em) mi_X12_glitters ml_RL_174 rfl rfl (Nat.le_of_ble_eq_true rfl) (Nat.le_of_ble_eq_true rfl) (Nat.le_of_ble_eq_true rfl) dL_law_1239 (fun r2 σ2 q2 => ?_)
  obtain ⟨er2, es2⟩ := q2
  subst es2
  subst er2
  refine a_pop C dL_law_1242 rfl ?_
  exact a_goto C dL_law_1243 (tgt := 1338) rfl (K _ hN)
set_option maxHeartbeats 4000000 in
set_option maxRecDepth 100000 in
theorem la_38 {Γ : GT} {ids : List Nat} {ad : Nat → Nat} {ca : Nat → ClassId} {l0 : Launch} {D0 : va_G} {b L n : Nat} {i : Int32} {xs : Nat → Int32} {σ : HS} {K9 : (Nat → Nat) × (Nat → Nat)} (C : CT ids ad ca Γ code RL l0 D0 2048 84000 4) (X : SX Γ b L xs) (E9 : SG K9 Γ) (hid : ∀ i, i < 277 → i ∈ ids) (hi : i.toInt = 6 * (n : Int)) (hL : 6 * n + 6 ≤ L) (hLL : L ≤ 3072) (hI : REL n σ) (K : ∀ σ : HS, REL (n + 1) σ → AW ids ad ca Γ 1338 [some (.ref b), some (.ref (ad 0)), some (.ref (ad 236)), some (.int i)] [] σ) : AW ids ad ca Γ 1246 [some (.ref b), some (.ref (ad 0)), some (.ref (ad 236)), some (.int i)] [] σ := by
  refine a_aload_n C dL_law_1246 (i := 1) rfl rfl ?_
  refine a_aload_n C dL_law_1247 (i := 0) rfl rfl ?_
  refine a_iload_n C dL_law_1248 (i := 3) rfl rfl ?_
  refine s_iconst C dL_law_1249 (1) (by decide) (fun z648 h649 => ?_)
  refine s_iadd C dL_law_1250 (by omega) (fun z650 h651 => ?_)
  refine s_sld C X (by omega) (by omega) dL_law_1251 (fun m652 h653 => ?_)
  have hS : SIM n (f_X11_watch (xs m652)) (f_X12_watch (xs m652)) := sim_watch (by omega)
  obtain ⟨r9, s9, s8, ec, em, hN⟩ := hS σ hI
  refine a_callVi C (i := 0) kd_0 (hid 0 (by decide)) ⟨_, _, rfl⟩ (by decide) (Z_X11_watch hid ec) mi_X11_watch ml_RL_175 rfl rfl (Nat.le_of_ble_eq_true rfl) (Nat.le_of_ble_eq_true rfl) (Nat.le_of_ble_eq_true rfl) dL_law_1252 (fun r σ1 q1 => ?_)
  obtain ⟨er, es⟩ := q1
  subst es
  subst er
  refine a_pop C dL_law_1255 rfl ?_
  refine a_aload_n C dL_law_1256 (i := 2) rfl rfl ?_
  refine a_aload_n C dL_law_1257 (i := 0) rfl rfl ?_
  refine a_iload_n C dL_law_1258 (i := 3) rfl rfl ?_
  refine s_iconst C dL_law_1259 (1) (by decide) (fun z654 h655 => ?_)
  refine s_iadd C dL_law_1260 (by omega) (fun z656 h657 => ?_)
  refine s_sld C X (by omega) (by omega) dL_law_1261 (fun m658 h659 => ?_)
  obtain rfl : m658 = m652 := by omega
  refine a_callVi C (i := 236) kd_236 (hid 236 (by decide)) ⟨_, _, rfl⟩ (by decide) (Z_X12_watch hid em) mi_X12_watch ml_RL_178 rfl rfl (Nat.le_of_ble_eq_true rfl) (Nat.le_of_ble_eq_true rfl) (Nat.le_of_ble_eq_true rfl) dL_law_1262 (fun r2 σ2 q2 => ?_)
  obtain ⟨er2, es2⟩ := q2
  subst es2
  subst er2
  refine a_pop C dL_law_1265 rfl ?_
  exact a_goto C dL_law_1266 (tgt := 1338) rfl (K _ hN)
set_option maxHeartbeats 4000000 in
set_option maxRecDepth 100000 in
theorem la_39 {Γ : GT} {ids : List Nat} {ad : Nat → Nat} {ca : Nat → ClassId} {l0 : Launch} {D0 : va_G} {b L n : Nat} {i : Int32} {xs : Nat → Int32} {σ : HS} {K9 : (Nat → Nat) × (Nat → Nat)} (C : CT ids ad ca Γ code RL l0 D0 2048 84000 4) (X : SX Γ b L xs) (E9 : SG K9 Γ) (hid : ∀ i, i < 277 → i ∈ ids) (hi : i.toInt = 6 * (n : Int)) (hL : 6 * n + 6 ≤ L) (hLL : L ≤ 3072) (hI : REL n σ) (K : ∀ σ : HS, REL (n + 1) σ → AW ids ad ca Γ 1338 [some (.ref b), some (.ref (ad 0)), some (.ref (ad 236)), some (.int i)] [] σ) : AW ids ad ca Γ 1269 [some (.ref b), some (.ref (ad 0)), some (.ref (ad 236)), some (.int i)] [] σ := by
  refine a_aload_n C dL_law_1269 (i := 1) rfl rfl ?_
  refine a_aload_n C dL_law_1270 (i := 0) rfl rfl ?_
  refine a_iload_n C dL_law_1271 (i := 3) rfl rfl ?_
  refine s_iconst C dL_law_1272 (1) (by decide) (fun z660 h661 => ?_)
  refine s_iadd C dL_law_1273 (by omega) (fun z662 h663 => ?_)
  refine s_sld C X (by omega) (by omega) dL_law_1274 (fun m664 h665 => ?_)
  have hS : SIM n (f_X11_hold (xs m664)) (f_X12_hold (xs m664)) := sim_hold
  obtain ⟨r9, s9, s8, ec, em, hN⟩ := hS σ hI
  refine a_callVi C (i := 0) kd_0 (hid 0 (by decide)) ⟨_, _, rfl⟩ (by decide) (Z_X11_hold hid ec) mi_X11_hold ml_RL_179 rfl rfl (Nat.le_of_ble_eq_true rfl) (Nat.le_of_ble_eq_true rfl) (Nat.le_of_ble_eq_true rfl) dL_law_1275 (fun r σ1 q1 => ?_)
  obtain ⟨er, es⟩ := q1
  subst es
  subst er
  refine a_pop C dL_law_1278 rfl ?_
  refine a_aload_n C dL_law_1279 (i := 2) rfl rfl ?_
  refine a_aload_n C dL_law_1280 (i := 0) rfl rfl ?_
  refine a_iload_n C dL_law_1281 (i := 3) rfl rfl ?_
  refine s_iconst C dL_law_1282 (1) (by decide) (fun z666 h667 => ?_)
  refine s_iadd C dL_law_1283 (by omega) (fun z668 h669 => ?_)
  refine s_sld C X (by omega) (by omega) dL_law_1284 (fun m670 h671 => ?_)
  obtain rfl : m670 = m664 := by omega
  refine a_callVi C (i := 236) kd_236 (hid 236 (by decide)) ⟨_, _, rfl⟩ (by decide) (Z_X12_hold hid em) mi_X12_hold ml_RL_182 rfl rfl (Nat.le_of_ble_eq_true rfl) (Nat.le_of_ble_eq_true rfl) (Nat.le_of_ble_eq_true rfl) dL_law_1285 (fun r2 σ2 q2 => ?_)
  obtain ⟨er2, es2⟩ := q2
  subst es2
  subst er2
  refine a_pop C dL_law_1288 rfl ?_
  exact a_goto C dL_law_1289 (tgt := 1338) rfl (K _ hN)
set_option maxHeartbeats 4000000 in
set_option maxRecDepth 100000 in
theorem la_40 {Γ : GT} {ids : List Nat} {ad : Nat → Nat} {ca : Nat → ClassId} {l0 : Launch} {D0 : va_G} {b L n : Nat} {i : Int32} {xs : Nat → Int32} {σ : HS} {K9 : (Nat → Nat) × (Nat → Nat)} (C : CT ids ad ca Γ code RL l0 D0 2048 84000 4) (X : SX Γ b L xs) (E9 : SG K9 Γ) (hid : ∀ i, i < 277 → i ∈ ids) (hi : i.toInt = 6 * (n : Int)) (hL : 6 * n + 6 ≤ L) (hLL : L ≤ 3072) (hI : REL n σ) (K : ∀ σ : HS, REL (n + 1) σ → AW ids ad ca Γ 1338 [some (.ref b), some (.ref (ad 0)), some (.ref (ad 236)), some (.int i)] [] σ) : AW ids ad ca Γ 1292 [some (.ref b), some (.ref (ad 0)), some (.ref (ad 236)), some (.int i)] [] σ := by
  refine a_aload_n C dL_law_1292 (i := 1) rfl rfl ?_
  refine a_aload_n C dL_law_1293 (i := 0) rfl rfl ?_
  refine a_iload_n C dL_law_1294 (i := 3) rfl rfl ?_
  refine s_iconst C dL_law_1295 (1) (by decide) (fun z672 h673 => ?_)
  refine s_iadd C dL_law_1296 (by omega) (fun z674 h675 => ?_)
  refine s_sld C X (by omega) (by omega) dL_law_1297 (fun m676 h677 => ?_)
  have hS : SIM n (f_X11_restore (xs m676)) (f_X12_restore (xs m676)) := sim_restore
  obtain ⟨r9, s9, s8, ec, em, hN⟩ := hS σ hI
  refine a_callVi C (i := 0) kd_0 (hid 0 (by decide)) ⟨_, _, rfl⟩ (by decide) (Z_X11_restore hid ec) mi_X11_restore ml_RL_183 rfl rfl (Nat.le_of_ble_eq_true rfl) (Nat.le_of_ble_eq_true rfl) (Nat.le_of_ble_eq_true rfl) dL_law_1298 (fun r σ1 q1 => ?_)
  obtain ⟨er, es⟩ := q1
  subst es
  subst er
  refine a_pop C dL_law_1301 rfl ?_
  refine a_aload_n C dL_law_1302 (i := 2) rfl rfl ?_
  refine a_aload_n C dL_law_1303 (i := 0) rfl rfl ?_
  refine a_iload_n C dL_law_1304 (i := 3) rfl rfl ?_
  refine s_iconst C dL_law_1305 (1) (by decide) (fun z678 h679 => ?_)
  refine s_iadd C dL_law_1306 (by omega) (fun z680 h681 => ?_)
  refine s_sld C X (by omega) (by omega) dL_law_1307 (fun m682 h683 => ?_)
  obtain rfl : m682 = m676 := by omega
  refine a_callVi C (i := 236) kd_236 (hid 236 (by decide)) ⟨_, _, rfl⟩ (by decide) (Z_X12_restore hid em) mi_X12_restore ml_RL_186 rfl rfl (Nat.le_of_ble_eq_true rfl) (Nat.le_of_ble_eq_true rfl) (Nat.le_of_ble_eq_true rfl) dL_law_1308 (fun r2 σ2 q2 => ?_)
  obtain ⟨er2, es2⟩ := q2
  subst es2
  subst er2
  refine a_pop C dL_law_1311 rfl ?_
  exact a_goto C dL_law_1312 (tgt := 1338) rfl (K _ hN)
set_option maxHeartbeats 4000000 in
set_option maxRecDepth 100000 in
theorem la_41 {Γ : GT} {ids : List Nat} {ad : Nat → Nat} {ca : Nat → ClassId} {l0 : Launch} {D0 : va_G} {b L n : Nat} {i : Int32} {xs : Nat → Int32} {σ : HS} {K9 : (Nat → Nat) × (Nat → Nat)} (C : CT ids ad ca Γ code RL l0 D0 2048 84000 4) (X : SX Γ b L xs) (E9 : SG K9 Γ) (hid : ∀ i, i < 277 → i ∈ ids) (hi : i.toInt = 6 * (n : Int)) (hL : 6 * n + 6 ≤ L) (hLL : L ≤ 3072) (hI : REL n σ) (K : ∀ σ : HS, REL (n + 1) σ → AW ids ad ca Γ 1338 [some (.ref b), some (.ref (ad 0)), some (.ref (ad 236)), some (.int i)] [] σ) : AW ids ad ca Γ 1315 [some (.ref b), some (.ref (ad 0)), some (.ref (ad 236)), some (.int i)] [] σ := by
  refine a_aload_n C dL_law_1315 (i := 1) rfl rfl ?_
  refine a_aload_n C dL_law_1316 (i := 0) rfl rfl ?_
  refine a_iload_n C dL_law_1317 (i := 3) rfl rfl ?_
  refine s_iconst C dL_law_1318 (1) (by decide) (fun z684 h685 => ?_)
  refine s_iadd C dL_law_1319 (by omega) (fun z686 h687 => ?_)
  refine s_sld C X (by omega) (by omega) dL_law_1320 (fun m688 h689 => ?_)
  have hS : SIM n (f_X11_count (xs m688)) (f_X12_count (xs m688)) := sim_count (by omega)
  obtain ⟨r9, s9, s8, ec, em, hN⟩ := hS σ hI
  refine a_callVi C (i := 0) kd_0 (hid 0 (by decide)) ⟨_, _, rfl⟩ (by decide) (Z_X11_count hid ec) mi_X11_count ml_RL_187 rfl rfl (Nat.le_of_ble_eq_true rfl) (Nat.le_of_ble_eq_true rfl) (Nat.le_of_ble_eq_true rfl) dL_law_1321 (fun r σ1 q1 => ?_)
  obtain ⟨er, es⟩ := q1
  subst es
  subst er
  refine a_aload_n C dL_law_1324 (i := 2) rfl rfl ?_
  refine a_aload_n C dL_law_1325 (i := 0) rfl rfl ?_
  refine a_iload_n C dL_law_1326 (i := 3) rfl rfl ?_
  refine s_iconst C dL_law_1327 (1) (by decide) (fun z690 h691 => ?_)
  refine s_iadd C dL_law_1328 (by omega) (fun z692 h693 => ?_)
  refine s_sld C X (by omega) (by omega) dL_law_1329 (fun m694 h695 => ?_)
  obtain rfl : m694 = m688 := by omega
  refine a_callVi C (i := 236) kd_236 (hid 236 (by decide)) ⟨_, _, rfl⟩ (by decide) (Z_X12_count hid em) mi_X12_count ml_RL_190 rfl rfl (Nat.le_of_ble_eq_true rfl) (Nat.le_of_ble_eq_true rfl) (Nat.le_of_ble_eq_true rfl) dL_law_1330 (fun r2 σ2 q2 => ?_)
  obtain ⟨er2, es2⟩ := q2
  subst es2
  subst er2
  refine a_ic_eq C dL_law_1333 (tgt := 1338) rfl (fun _ => K _ hN) (fun h => absurd rfl h)
/-! the law from its loop's head on -/
set_option maxHeartbeats 4000000 in
set_option maxRecDepth 100000 in
theorem la_loop {Γ : GT} {ids : List Nat} {ad : Nat → Nat} {ca : Nat → ClassId} {l0 : Launch} {D0 : va_G} {b L : Nat} {xs : Nat → Int32} {K9 : (Nat → Nat) × (Nat → Nat)} (C : CT ids ad ca Γ code RL l0 D0 2048 84000 4) (X : SX Γ b L xs) (E9 : SG K9 Γ) (E : LE Γ) (hid : ∀ i, i < 277 → i ∈ ids) (hLL : L ≤ 3072) : ∀ (d n : Nat) (i : Int32) (σ : HS), L < 6 * n + d → i.toInt = 6 * (n : Int) → 6 * n ≤ L + 6 → REL n σ → AW ids ad ca Γ 18 [some (.ref b), some (.ref (ad 0)), some (.ref (ad 236)), some (.int i)] [] σ := by
  intro d
  induction d with
  | zero =>
    intro n i σ hd hi hn hI
    refine a_iload_n C dL_law_18 (i := 3) rfl rfl ?_
    refine a_aload_n C dL_law_19 (i := 0) rfl rfl ?_
    refine s_slen C X hLL dL_law_20 (fun z1 h1 => ?_)
    refine s_bipush C dL_law_21 (6) (by decide) (fun z2 h2 => ?_)
    refine s_isub C dL_law_23 (by omega) (fun z3 h3 => ?_)
    refine s_ic_gt C dL_law_24 (tgt := 1344) rfl (fun _ => ?_) (fun h => absurd h (by omega))
    refine a_iconst C dL_law_1344 (v := 1) rfl ?_
    exact a_lend E dL_law_1345
  | succ d ih =>
    intro n i σ hd hi hn hI
    refine a_iload_n C dL_law_18 (i := 3) rfl rfl ?_
    refine a_aload_n C dL_law_19 (i := 0) rfl rfl ?_
    refine s_slen C X hLL dL_law_20 (fun z1 h1 => ?_)
    refine s_bipush C dL_law_21 (6) (by decide) (fun z2 h2 => ?_)
    refine s_isub C dL_law_23 (by omega) (fun z3 h3 => ?_)
    refine s_ic_gt C dL_law_24 (tgt := 1344) rfl (fun _ => ?_) (fun h => ?_)
    · refine a_iconst C dL_law_1344 (v := 1) rfl ?_
      exact a_lend E dL_law_1345
    have hL : 6 * n + 6 ≤ L := by omega
    have K : ∀ σ : HS, REL (n + 1) σ → AW ids ad ca Γ 1338 [some (.ref b), some (.ref (ad 0)), some (.ref (ad 236)), some (.int i)] [] σ := fun σ9 h9 => by
      refine s_iinc C dL_law_1338 rfl (6) (by decide) (by omega) (by decide) rfl (fun z9 h8 => ?_)
      show AW ids ad ca Γ 1341 [some (.ref b), some (.ref (ad 0)), some (.ref (ad 236)), some (.int z9)] _ _
      refine a_goto C dL_law_1341 (tgt := 18) rfl ?_
      exact ih (n + 1) z9 σ9 (by omega) (by omega) (by omega) h9
    refine a_aload_n C dL_law_27 (i := 0) rfl rfl ?_
    refine a_iload_n C dL_law_28 (i := 3) rfl rfl ?_
    refine s_sld C X (by omega) (by omega) dL_law_29 (fun v _ => ?_)
    refine s_bipush C dL_law_30 (63) (by decide) (fun z4 h4 => ?_)
    refine s_iand C dL_law_32 (by omega) (fun j hj => ?_)
    by_cases h42 : 41 < j.toInt
    · exact a_tableOut C dL_law_33 (Or.inr h42) (tgt := 1338) rfl (K _ hI.next)
    rcases (show j.toInt = 0 ∨ j.toInt = 1 ∨ j.toInt = 2 ∨ j.toInt = 3 ∨ j.toInt = 4 ∨ j.toInt = 5 ∨ j.toInt = 6 ∨ j.toInt = 7 ∨ j.toInt = 8 ∨ j.toInt = 9 ∨ j.toInt = 10 ∨ j.toInt = 11 ∨ j.toInt = 12 ∨ j.toInt = 13 ∨ j.toInt = 14 ∨ j.toInt = 15 ∨ j.toInt = 16 ∨ j.toInt = 17 ∨ j.toInt = 18 ∨ j.toInt = 19 ∨ j.toInt = 20 ∨ j.toInt = 21 ∨ j.toInt = 22 ∨ j.toInt = 23 ∨ j.toInt = 24 ∨ j.toInt = 25 ∨ j.toInt = 26 ∨ j.toInt = 27 ∨ j.toInt = 28 ∨ j.toInt = 29 ∨ j.toInt = 30 ∨ j.toInt = 31 ∨ j.toInt = 32 ∨ j.toInt = 33 ∨ j.toInt = 34 ∨ j.toInt = 35 ∨ j.toInt = 36 ∨ j.toInt = 37 ∨ j.toInt = 38 ∨ j.toInt = 39 ∨ j.toInt = 40 ∨ j.toInt = 41 by omega) with ej | ej | ej | ej | ej | ej | ej | ej | ej | ej | ej | ej | ej | ej | ej | ej | ej | ej | ej | ej | ej | ej | ej | ej | ej | ej | ej | ej | ej | ej | ej | ej | ej | ej | ej | ej | ej | ej | ej | ej | ej | ej
    · exact a_tableIn C dL_law_33 (by omega) (by omega) (by rw [ej]; rfl) (tgt := 216) rfl (la_0 C X E9 hid hi hL hLL hI K)
    · exact a_tableIn C dL_law_33 (by omega) (by omega) (by rw [ej]; rfl) (tgt := 279) rfl (la_1 C X E9 hid hi hL hLL hI K)
    · exact a_tableIn C dL_law_33 (by omega) (by omega) (by rw [ej]; rfl) (tgt := 302) rfl (la_2 C X E9 hid hi hL hLL hI K)
    · exact a_tableIn C dL_law_33 (by omega) (by omega) (by rw [ej]; rfl) (tgt := 315) rfl (la_3 C X E9 hid hi hL hLL hI K)
    · exact a_tableIn C dL_law_33 (by omega) (by omega) (by rw [ej]; rfl) (tgt := 328) rfl (la_4 C X E9 hid hi hL hLL hI K)
    · exact a_tableIn C dL_law_33 (by omega) (by omega) (by rw [ej]; rfl) (tgt := 361) rfl (la_5 C X E9 hid hi hL hLL hI K)
    · exact a_tableIn C dL_law_33 (by omega) (by omega) (by rw [ej]; rfl) (tgt := 394) rfl (la_6 C X E9 hid hi hL hLL hI K)
    · exact a_tableIn C dL_law_33 (by omega) (by omega) (by rw [ej]; rfl) (tgt := 437) rfl (la_7 C X E9 hid hi hL hLL hI K)
    · exact a_tableIn C dL_law_33 (by omega) (by omega) (by rw [ej]; rfl) (tgt := 470) rfl (la_8 C X E9 hid hi hL hLL hI K)
    · exact a_tableIn C dL_law_33 (by omega) (by omega) (by rw [ej]; rfl) (tgt := 493) rfl (la_9 C X E9 hid hi hL hLL hI K)
    · exact a_tableIn C dL_law_33 (by omega) (by omega) (by rw [ej]; rfl) (tgt := 516) rfl (la_10 C X E9 hid hi hL hLL hI K)
    · exact a_tableIn C dL_law_33 (by omega) (by omega) (by rw [ej]; rfl) (tgt := 539) rfl (la_11 C X E9 hid hi hL hLL hI K)
    · exact a_tableIn C dL_law_33 (by omega) (by omega) (by rw [ej]; rfl) (tgt := 552) rfl (la_12 C X E9 hid hi hL hLL hI K)
    · exact a_tableIn C dL_law_33 (by omega) (by omega) (by rw [ej]; rfl) (tgt := 585) rfl (la_13 C X E9 hid hi hL hLL hI K)
    · exact a_tableIn C dL_law_33 (by omega) (by omega) (by rw [ej]; rfl) (tgt := 598) rfl (la_14 C X E9 hid hi hL hLL hI K)
    · exact a_tableIn C dL_law_33 (by omega) (by omega) (by rw [ej]; rfl) (tgt := 621) rfl (la_15 C X E9 hid hi hL hLL hI K)
    · exact a_tableIn C dL_law_33 (by omega) (by omega) (by rw [ej]; rfl) (tgt := 634) rfl (la_16 C X E9 hid hi hL hLL hI K)
    · exact a_tableIn C dL_law_33 (by omega) (by omega) (by rw [ej]; rfl) (tgt := 667) rfl (la_17 C X E9 hid hi hL hLL hI K)
    · exact a_tableIn C dL_law_33 (by omega) (by omega) (by rw [ej]; rfl) (tgt := 710) rfl (la_18 C X E9 hid hi hL hLL hI K)
    · exact a_tableIn C dL_law_33 (by omega) (by omega) (by rw [ej]; rfl) (tgt := 743) rfl (la_19 C X E9 hid hi hL hLL hI K)
    · exact a_tableIn C dL_law_33 (by omega) (by omega) (by rw [ej]; rfl) (tgt := 766) rfl (la_20 C X E9 hid hi hL hLL hI K)
    · exact a_tableIn C dL_law_33 (by omega) (by omega) (by rw [ej]; rfl) (tgt := 789) rfl (la_21 C X E9 hid hi hL hLL hI K)
    · exact a_tableIn C dL_law_33 (by omega) (by omega) (by rw [ej]; rfl) (tgt := 812) rfl (la_22 C X E9 hid hi hL hLL hI K)
    · exact a_tableIn C dL_law_33 (by omega) (by omega) (by rw [ej]; rfl) (tgt := 835) rfl (la_23 C X E9 hid hi hL hLL hI K)
    · exact a_tableIn C dL_law_33 (by omega) (by omega) (by rw [ej]; rfl) (tgt := 848) rfl (la_24 C X E9 hid hi hL hLL hI K)
    · exact a_tableIn C dL_law_33 (by omega) (by omega) (by rw [ej]; rfl) (tgt := 871) rfl (la_25 C X E9 hid hi hL hLL hI K)
    · exact a_tableIn C dL_law_33 (by omega) (by omega) (by rw [ej]; rfl) (tgt := 904) rfl (la_26 C X E9 hid hi hL hLL hI K)
    · exact a_tableIn C dL_law_33 (by omega) (by omega) (by rw [ej]; rfl) (tgt := 927) rfl (la_27 C X E9 hid hi hL hLL hI K)
    · exact a_tableIn C dL_law_33 (by omega) (by omega) (by rw [ej]; rfl) (tgt := 940) rfl (la_28 C X E9 hid hi hL hLL hI K)
    · exact a_tableIn C dL_law_33 (by omega) (by omega) (by rw [ej]; rfl) (tgt := 963) rfl (la_29 C X E9 hid hi hL hLL hI K)
    · exact a_tableIn C dL_law_33 (by omega) (by omega) (by rw [ej]; rfl) (tgt := 1016) rfl (la_30 C X E9 hid hi hL hLL hI K)
    · exact a_tableIn C dL_law_33 (by omega) (by omega) (by rw [ej]; rfl) (tgt := 1049) rfl (la_31 C X E9 hid hi hL hLL hI K)
    · exact a_tableIn C dL_law_33 (by omega) (by omega) (by rw [ej]; rfl) (tgt := 1072) rfl (la_32 C X E9 hid hi hL hLL hI K)
    · exact a_tableIn C dL_law_33 (by omega) (by omega) (by rw [ej]; rfl) (tgt := 1085) rfl (la_33 C X E9 hid hi hL hLL hI K)
    · exact a_tableIn C dL_law_33 (by omega) (by omega) (by rw [ej]; rfl) (tgt := 1118) rfl (la_34 C X E9 hid hi hL hLL hI K)
    · exact a_tableIn C dL_law_33 (by omega) (by omega) (by rw [ej]; rfl) (tgt := 1151) rfl (la_35 C X E9 hid hi hL hLL hI K)
    · exact a_tableIn C dL_law_33 (by omega) (by omega) (by rw [ej]; rfl) (tgt := 1200) rfl (la_36 C X E9 hid hi hL hLL hI K)
    · exact a_tableIn C dL_law_33 (by omega) (by omega) (by rw [ej]; rfl) (tgt := 1213) rfl (la_37 C X E9 hid hi hL hLL hI K)
    · exact a_tableIn C dL_law_33 (by omega) (by omega) (by rw [ej]; rfl) (tgt := 1246) rfl (la_38 C X E9 hid hi hL hLL hI K)
    · exact a_tableIn C dL_law_33 (by omega) (by omega) (by rw [ej]; rfl) (tgt := 1269) rfl (la_39 C X E9 hid hi hL hLL hI K)
    · exact a_tableIn C dL_law_33 (by omega) (by omega) (by rw [ej]; rfl) (tgt := 1292) rfl (la_40 C X E9 hid hi hL hLL hI K)
    · exact a_tableIn C dL_law_33 (by omega) (by omega) (by rw [ej]; rfl) (tgt := 1315) rfl (la_41 C X E9 hid hi hL hLL hI K)
