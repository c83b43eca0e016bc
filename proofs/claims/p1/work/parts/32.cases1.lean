set_option maxRecDepth 100000 in
theorem la_0 {Γ : GT} {ids : List Nat} {ad : Nat → Nat} {ca : Nat → ClassId} {l0 : Launch} {D0 : va_G} {b : Nat} {xs : Nat → Int32} (C : CT ids ad ca Γ code RL l0 D0 2048 84000 4) (X : SX Γ b 6 xs) (hid : ∀ i, i < 277 → i ∈ ids) (K : ∀ σ : HS, AW ids ad ca Γ 1338 [some (.ref b), some (.ref (ad 0)), some (.ref (ad 236)), some (.int 0)] [] σ) : AW ids ad ca Γ 216 [some (.ref b), some (.ref (ad 0)), some (.ref (ad 236)), some (.int 0)] [] s0 := by
  refine a_aload_n C dL_law_216 (i := 1) rfl rfl ?_
  refine a_aload_n C dL_law_217 (i := 0) rfl rfl ?_
  refine a_iload_n C dL_law_218 (i := 3) rfl rfl ?_
  refine a_iconst C dL_law_219 (v := 1) rfl ?_
  refine a_iadd C dL_law_220 ?_
  refine a_sld C X 1 rfl (by decide) (by decide) dL_law_221 ?_
  refine a_aload_n C dL_law_222 (i := 0) rfl rfl ?_
  refine a_iload_n C dL_law_223 (i := 3) rfl rfl ?_
  refine a_iconst C dL_law_224 (v := 2) rfl ?_
  refine a_iadd C dL_law_225 ?_
  refine a_sld C X 2 rfl (by decide) (by decide) dL_law_226 ?_
  refine a_aload_n C dL_law_227 (i := 0) rfl rfl ?_
  refine a_iload_n C dL_law_228 (i := 3) rfl rfl ?_
  refine a_iconst C dL_law_229 (v := 3) rfl ?_
  refine a_iadd C dL_law_230 ?_
  refine a_sld C X 3 rfl (by decide) (by decide) dL_law_231 ?_
  refine a_aload_n C dL_law_232 (i := 0) rfl rfl ?_
  refine a_iload_n C dL_law_233 (i := 3) rfl rfl ?_
  refine a_iconst C dL_law_234 (v := 4) rfl ?_
  refine a_iadd C dL_law_235 ?_
  refine a_sld C X 4 rfl (by decide) (by decide) dL_law_236 ?_
  refine a_aload_n C dL_law_237 (i := 0) rfl rfl ?_
  refine a_iload_n C dL_law_238 (i := 3) rfl rfl ?_
  refine a_iconst C dL_law_239 (v := 5) rfl ?_
  refine a_iadd C dL_law_240 ?_
  refine a_sld C X 5 rfl (by decide) (by decide) dL_law_241 ?_
  obtain ⟨v, ⟨fr, lo, hf, hl, hM⟩, hR⟩ := b_feed (l := l0) (D := D0) (ad := ad) (ca := ca) (p0 := (xs 1)) (p1 := (xs 2)) (p2 := (xs 3)) (p3 := (xs 4)) (p4 := (xs 5)) hid
  refine a_callVi C (i := 0) kd_0 (hid 0 (by decide)) ⟨_, _, rfl⟩ (by decide) hM mi_X11_feed ml_RL_13 rfl rfl (by omega) (by omega) (Nat.le_of_ble_eq_true rfl) dL_law_242 (fun r σ1 q1 => ?_)
  obtain ⟨rfl, hk⟩ := q1
  obtain ⟨fr2, lo2, hf2, hl2, hM2⟩ := hR σ1 hk
  refine a_aload_n C dL_law_245 (i := 2) rfl rfl ?_
  refine a_aload_n C dL_law_246 (i := 0) rfl rfl ?_
  refine a_iload_n C dL_law_247 (i := 3) rfl rfl ?_
  refine a_iconst C dL_law_248 (v := 1) rfl ?_
  refine a_iadd C dL_law_249 ?_
  refine a_sld C X 1 rfl (by decide) (by decide) dL_law_250 ?_
  refine a_aload_n C dL_law_251 (i := 0) rfl rfl ?_
  refine a_iload_n C dL_law_252 (i := 3) rfl rfl ?_
  refine a_iconst C dL_law_253 (v := 2) rfl ?_
  refine a_iadd C dL_law_254 ?_
  refine a_sld C X 2 rfl (by decide) (by decide) dL_law_255 ?_
  refine a_aload_n C dL_law_256 (i := 0) rfl rfl ?_
  refine a_iload_n C dL_law_257 (i := 3) rfl rfl ?_
  refine a_iconst C dL_law_258 (v := 3) rfl ?_
  refine a_iadd C dL_law_259 ?_
  refine a_sld C X 3 rfl (by decide) (by decide) dL_law_260 ?_
  refine a_aload_n C dL_law_261 (i := 0) rfl rfl ?_
  refine a_iload_n C dL_law_262 (i := 3) rfl rfl ?_
  refine a_iconst C dL_law_263 (v := 4) rfl ?_
  refine a_iadd C dL_law_264 ?_
  refine a_sld C X 4 rfl (by decide) (by decide) dL_law_265 ?_
  refine a_aload_n C dL_law_266 (i := 0) rfl rfl ?_
  refine a_iload_n C dL_law_267 (i := 3) rfl rfl ?_
  refine a_iconst C dL_law_268 (v := 5) rfl ?_
  refine a_iadd C dL_law_269 ?_
  refine a_sld C X 5 rfl (by decide) (by decide) dL_law_270 ?_
  refine a_callVi C (i := 236) kd_236 (hid 236 (by decide)) ⟨_, _, rfl⟩ (by decide) hM2 mi_X12_feed ml_RL_17 rfl rfl (by omega) (by omega) (Nat.le_of_ble_eq_true rfl) dL_law_271 (fun r2 σ2 q2 => ?_)
  refine a_ic_eq C dL_law_274 (tgt := 1338) rfl (fun _ => K σ2) (fun h => absurd q2.symm h)
set_option maxRecDepth 100000 in
theorem la_1 {Γ : GT} {ids : List Nat} {ad : Nat → Nat} {ca : Nat → ClassId} {l0 : Launch} {D0 : va_G} {b : Nat} {xs : Nat → Int32} (C : CT ids ad ca Γ code RL l0 D0 2048 84000 4) (X : SX Γ b 6 xs) (hid : ∀ i, i < 277 → i ∈ ids) (K : ∀ σ : HS, AW ids ad ca Γ 1338 [some (.ref b), some (.ref (ad 0)), some (.ref (ad 236)), some (.int 0)] [] σ) : AW ids ad ca Γ 279 [some (.ref b), some (.ref (ad 0)), some (.ref (ad 236)), some (.int 0)] [] s0 := by
  refine a_aload_n C dL_law_279 (i := 1) rfl rfl ?_
  refine a_aload_n C dL_law_280 (i := 0) rfl rfl ?_
  refine a_iload_n C dL_law_281 (i := 3) rfl rfl ?_
  refine a_iconst C dL_law_282 (v := 1) rfl ?_
  refine a_iadd C dL_law_283 ?_
  refine a_sld C X 1 rfl (by decide) (by decide) dL_law_284 ?_
  obtain ⟨v, ⟨fr, lo, hf, hl, hM⟩, hR⟩ := b_back (l := l0) (D := D0) (ad := ad) (ca := ca) (p0 := (xs 1)) hid
  refine a_callVi C (i := 0) kd_0 (hid 0 (by decide)) ⟨_, _, rfl⟩ (by decide) hM mi_X11_back ml_RL_18 rfl rfl (by omega) (by omega) (Nat.le_of_ble_eq_true rfl) dL_law_285 (fun r σ1 q1 => ?_)
  obtain ⟨rfl, hk⟩ := q1
  obtain ⟨fr2, lo2, hf2, hl2, hM2⟩ := hR σ1 hk
  refine a_aload_n C dL_law_288 (i := 2) rfl rfl ?_
  refine a_aload_n C dL_law_289 (i := 0) rfl rfl ?_
  refine a_iload_n C dL_law_290 (i := 3) rfl rfl ?_
  refine a_iconst C dL_law_291 (v := 1) rfl ?_
  refine a_iadd C dL_law_292 ?_
  refine a_sld C X 1 rfl (by decide) (by decide) dL_law_293 ?_
  refine a_callVi C (i := 236) kd_236 (hid 236 (by decide)) ⟨_, _, rfl⟩ (by decide) hM2 mi_X12_back ml_RL_22 rfl rfl (by omega) (by omega) (Nat.le_of_ble_eq_true rfl) dL_law_294 (fun r2 σ2 q2 => ?_)
  refine a_ic_eq C dL_law_297 (tgt := 1338) rfl (fun _ => K σ2) (fun h => absurd q2.symm h)
set_option maxRecDepth 100000 in
theorem la_2 {Γ : GT} {ids : List Nat} {ad : Nat → Nat} {ca : Nat → ClassId} {l0 : Launch} {D0 : va_G} {b : Nat} {xs : Nat → Int32} (C : CT ids ad ca Γ code RL l0 D0 2048 84000 4) (X : SX Γ b 6 xs) (hid : ∀ i, i < 277 → i ∈ ids) (K : ∀ σ : HS, AW ids ad ca Γ 1338 [some (.ref b), some (.ref (ad 0)), some (.ref (ad 236)), some (.int 0)] [] σ) : AW ids ad ca Γ 302 [some (.ref b), some (.ref (ad 0)), some (.ref (ad 236)), some (.int 0)] [] s0 := by
  refine a_aload_n C dL_law_302 (i := 1) rfl rfl ?_
  obtain ⟨v, ⟨fr, lo, hf, hl, hM⟩, hR⟩ := b_read (l := l0) (D := D0) (ad := ad) (ca := ca) hid
  refine a_callVi C (i := 0) kd_0 (hid 0 (by decide)) ⟨_, _, rfl⟩ (by decide) hM mi_X11_read ml_RL_23 rfl rfl (by omega) (by omega) (Nat.le_of_ble_eq_true rfl) dL_law_303 (fun r σ1 q1 => ?_)
  obtain ⟨rfl, hk⟩ := q1
  obtain ⟨fr2, lo2, hf2, hl2, hM2⟩ := hR σ1 hk
  refine a_aload_n C dL_law_306 (i := 2) rfl rfl ?_
  refine a_callVi C (i := 236) kd_236 (hid 236 (by decide)) ⟨_, _, rfl⟩ (by decide) hM2 mi_X12_read ml_RL_27 rfl rfl (by omega) (by omega) (Nat.le_of_ble_eq_true rfl) dL_law_307 (fun r2 σ2 q2 => ?_)
  refine a_ic_eq C dL_law_310 (tgt := 1338) rfl (fun _ => K σ2) (fun h => absurd q2.symm h)
set_option maxRecDepth 100000 in
theorem la_3 {Γ : GT} {ids : List Nat} {ad : Nat → Nat} {ca : Nat → ClassId} {l0 : Launch} {D0 : va_G} {b : Nat} {xs : Nat → Int32} (C : CT ids ad ca Γ code RL l0 D0 2048 84000 4) (X : SX Γ b 6 xs) (hid : ∀ i, i < 277 → i ∈ ids) (K : ∀ σ : HS, AW ids ad ca Γ 1338 [some (.ref b), some (.ref (ad 0)), some (.ref (ad 236)), some (.int 0)] [] σ) : AW ids ad ca Γ 315 [some (.ref b), some (.ref (ad 0)), some (.ref (ad 236)), some (.int 0)] [] s0 := by
  refine a_aload_n C dL_law_315 (i := 1) rfl rfl ?_
  obtain ⟨v, ⟨fr, lo, hf, hl, hM⟩, hR⟩ := b_place (l := l0) (D := D0) (ad := ad) (ca := ca) hid
  refine a_callVi C (i := 0) kd_0 (hid 0 (by decide)) ⟨_, _, rfl⟩ (by decide) hM mi_X11_place ml_RL_28 rfl rfl (by omega) (by omega) (Nat.le_of_ble_eq_true rfl) dL_law_316 (fun r σ1 q1 => ?_)
  obtain ⟨rfl, hk⟩ := q1
  obtain ⟨fr2, lo2, hf2, hl2, hM2⟩ := hR σ1 hk
  refine a_aload_n C dL_law_319 (i := 2) rfl rfl ?_
  refine a_callVi C (i := 236) kd_236 (hid 236 (by decide)) ⟨_, _, rfl⟩ (by decide) hM2 mi_X12_place ml_RL_31 rfl rfl (by omega) (by omega) (Nat.le_of_ble_eq_true rfl) dL_law_320 (fun r2 σ2 q2 => ?_)
  refine a_ic_eq C dL_law_323 (tgt := 1338) rfl (fun _ => K σ2) (fun h => absurd q2.symm h)
set_option maxRecDepth 100000 in
theorem la_4 {Γ : GT} {ids : List Nat} {ad : Nat → Nat} {ca : Nat → ClassId} {l0 : Launch} {D0 : va_G} {b : Nat} {xs : Nat → Int32} (C : CT ids ad ca Γ code RL l0 D0 2048 84000 4) (X : SX Γ b 6 xs) (hid : ∀ i, i < 277 → i ∈ ids) (K : ∀ σ : HS, AW ids ad ca Γ 1338 [some (.ref b), some (.ref (ad 0)), some (.ref (ad 236)), some (.int 0)] [] σ) : AW ids ad ca Γ 328 [some (.ref b), some (.ref (ad 0)), some (.ref (ad 236)), some (.int 0)] [] s0 := by
  refine a_aload_n C dL_law_328 (i := 1) rfl rfl ?_
  refine a_aload_n C dL_law_329 (i := 0) rfl rfl ?_
  refine a_iload_n C dL_law_330 (i := 3) rfl rfl ?_
  refine a_iconst C dL_law_331 (v := 1) rfl ?_
  refine a_iadd C dL_law_332 ?_
  refine a_sld C X 1 rfl (by decide) (by decide) dL_law_333 ?_
  refine a_aload_n C dL_law_334 (i := 0) rfl rfl ?_
  refine a_iload_n C dL_law_335 (i := 3) rfl rfl ?_
  refine a_iconst C dL_law_336 (v := 2) rfl ?_
  refine a_iadd C dL_law_337 ?_
  refine a_sld C X 2 rfl (by decide) (by decide) dL_law_338 ?_
  obtain ⟨v, ⟨fr, lo, hf, hl, hM⟩, hR⟩ := b_thing (l := l0) (D := D0) (ad := ad) (ca := ca) (p0 := (xs 1)) (p1 := (xs 2)) hid
  refine a_callVi C (i := 0) kd_0 (hid 0 (by decide)) ⟨_, _, rfl⟩ (by decide) hM mi_X11_thing ml_RL_32 rfl rfl (by omega) (by omega) (Nat.le_of_ble_eq_true rfl) dL_law_339 (fun r σ1 q1 => ?_)
  obtain ⟨rfl, hk⟩ := q1
  obtain ⟨fr2, lo2, hf2, hl2, hM2⟩ := hR σ1 hk
  refine a_aload_n C dL_law_342 (i := 2) rfl rfl ?_
  refine a_aload_n C dL_law_343 (i := 0) rfl rfl ?_
  refine a_iload_n C dL_law_344 (i := 3) rfl rfl ?_
  refine a_iconst C dL_law_345 (v := 1) rfl ?_
  refine a_iadd C dL_law_346 ?_
  refine a_sld C X 1 rfl (by decide) (by decide) dL_law_347 ?_
  refine a_aload_n C dL_law_348 (i := 0) rfl rfl ?_
  refine a_iload_n C dL_law_349 (i := 3) rfl rfl ?_
  refine a_iconst C dL_law_350 (v := 2) rfl ?_
  refine a_iadd C dL_law_351 ?_
  refine a_sld C X 2 rfl (by decide) (by decide) dL_law_352 ?_
  refine a_callVi C (i := 236) kd_236 (hid 236 (by decide)) ⟨_, _, rfl⟩ (by decide) hM2 mi_X12_thing ml_RL_36 rfl rfl (by omega) (by omega) (Nat.le_of_ble_eq_true rfl) dL_law_353 (fun r2 σ2 q2 => ?_)
  refine a_ic_eq C dL_law_356 (tgt := 1338) rfl (fun _ => K σ2) (fun h => absurd q2.symm h)
set_option maxRecDepth 100000 in
theorem la_5 {Γ : GT} {ids : List Nat} {ad : Nat → Nat} {ca : Nat → ClassId} {l0 : Launch} {D0 : va_G} {b : Nat} {xs : Nat → Int32} (C : CT ids ad ca Γ code RL l0 D0 2048 84000 4) (X : SX Γ b 6 xs) (hid : ∀ i, i < 277 → i ∈ ids) (K : ∀ σ : HS, AW ids ad ca Γ 1338 [some (.ref b), some (.ref (ad 0)), some (.ref (ad 236)), some (.int 0)] [] σ) : AW ids ad ca Γ 361 [some (.ref b), some (.ref (ad 0)), some (.ref (ad 236)), some (.int 0)] [] s0 := by
  refine a_aload_n C dL_law_361 (i := 1) rfl rfl ?_
  refine a_aload_n C dL_law_362 (i := 0) rfl rfl ?_
  refine a_iload_n C dL_law_363 (i := 3) rfl rfl ?_
  refine a_iconst C dL_law_364 (v := 1) rfl ?_
  refine a_iadd C dL_law_365 ?_
  refine a_sld C X 1 rfl (by decide) (by decide) dL_law_366 ?_
  refine a_aload_n C dL_law_367 (i := 0) rfl rfl ?_
  refine a_iload_n C dL_law_368 (i := 3) rfl rfl ?_
  refine a_iconst C dL_law_369 (v := 2) rfl ?_
  refine a_iadd C dL_law_370 ?_
  refine a_sld C X 2 rfl (by decide) (by decide) dL_law_371 ?_
  obtain ⟨v, ⟨fr, lo, hf, hl, hM⟩, hR⟩ := b_pattern (l := l0) (D := D0) (ad := ad) (ca := ca) (p0 := (xs 1)) (p1 := (xs 2)) hid
  refine a_callVi C (i := 0) kd_0 (hid 0 (by decide)) ⟨_, _, rfl⟩ (by decide) hM mi_X11_pattern ml_RL_37 rfl rfl (by omega) (by omega) (Nat.le_of_ble_eq_true rfl) dL_law_372 (fun r σ1 q1 => ?_)
  obtain ⟨rfl, hk⟩ := q1
  obtain ⟨fr2, lo2, hf2, hl2, hM2⟩ := hR σ1 hk
  refine a_aload_n C dL_law_375 (i := 2) rfl rfl ?_
  refine a_aload_n C dL_law_376 (i := 0) rfl rfl ?_
  refine a_iload_n C dL_law_377 (i := 3) rfl rfl ?_
  refine a_iconst C dL_law_378 (v := 1) rfl ?_
  refine a_iadd C dL_law_379 ?_
  refine a_sld C X 1 rfl (by decide) (by decide) dL_law_380 ?_
  refine a_aload_n C dL_law_381 (i := 0) rfl rfl ?_
  refine a_iload_n C dL_law_382 (i := 3) rfl rfl ?_
  refine a_iconst C dL_law_383 (v := 2) rfl ?_
  refine a_iadd C dL_law_384 ?_
  refine a_sld C X 2 rfl (by decide) (by decide) dL_law_385 ?_
  refine a_callVi C (i := 236) kd_236 (hid 236 (by decide)) ⟨_, _, rfl⟩ (by decide) hM2 mi_X12_pattern ml_RL_40 rfl rfl (by omega) (by omega) (Nat.le_of_ble_eq_true rfl) dL_law_386 (fun r2 σ2 q2 => ?_)
  refine a_ic_eq C dL_law_389 (tgt := 1338) rfl (fun _ => K σ2) (fun h => absurd q2.symm h)
set_option maxRecDepth 100000 in
theorem la_6 {Γ : GT} {ids : List Nat} {ad : Nat → Nat} {ca : Nat → ClassId} {l0 : Launch} {D0 : va_G} {b : Nat} {xs : Nat → Int32} (C : CT ids ad ca Γ code RL l0 D0 2048 84000 4) (X : SX Γ b 6 xs) (hid : ∀ i, i < 277 → i ∈ ids) (K : ∀ σ : HS, AW ids ad ca Γ 1338 [some (.ref b), some (.ref (ad 0)), some (.ref (ad 236)), some (.int 0)] [] σ) : AW ids ad ca Γ 394 [some (.ref b), some (.ref (ad 0)), some (.ref (ad 236)), some (.int 0)] [] s0 := by
  refine a_aload_n C dL_law_394 (i := 1) rfl rfl ?_
  refine a_aload_n C dL_law_395 (i := 0) rfl rfl ?_
  refine a_iload_n C dL_law_396 (i := 3) rfl rfl ?_
  refine a_iconst C dL_law_397 (v := 1) rfl ?_
  refine a_iadd C dL_law_398 ?_
  refine a_sld C X 1 rfl (by decide) (by decide) dL_law_399 ?_
  refine a_aload_n C dL_law_400 (i := 0) rfl rfl ?_
  refine a_iload_n C dL_law_401 (i := 3) rfl rfl ?_
  refine a_iconst C dL_law_402 (v := 2) rfl ?_
  refine a_iadd C dL_law_403 ?_
  refine a_sld C X 2 rfl (by decide) (by decide) dL_law_404 ?_
  refine a_aload_n C dL_law_405 (i := 0) rfl rfl ?_
  refine a_iload_n C dL_law_406 (i := 3) rfl rfl ?_
  refine a_iconst C dL_law_407 (v := 3) rfl ?_
  refine a_iadd C dL_law_408 ?_
  refine a_sld C X 3 rfl (by decide) (by decide) dL_law_409 ?_
  obtain ⟨v, ⟨fr, lo, hf, hl, hM⟩, hR⟩ := b_tells (l := l0) (D := D0) (ad := ad) (ca := ca) (p0 := (xs 1)) (p1 := (xs 2)) (p2 := (xs 3)) hid
  refine a_callVi C (i := 0) kd_0 (hid 0 (by decide)) ⟨_, _, rfl⟩ (by decide) hM mi_X11_tells ml_RL_41 rfl rfl (by omega) (by omega) (Nat.le_of_ble_eq_true rfl) dL_law_410 (fun r σ1 q1 => ?_)
  obtain ⟨rfl, hk⟩ := q1
  obtain ⟨fr2, lo2, hf2, hl2, hM2⟩ := hR σ1 hk
  refine a_aload_n C dL_law_413 (i := 2) rfl rfl ?_
  refine a_aload_n C dL_law_414 (i := 0) rfl rfl ?_
  refine a_iload_n C dL_law_415 (i := 3) rfl rfl ?_
  refine a_iconst C dL_law_416 (v := 1) rfl ?_
  refine a_iadd C dL_law_417 ?_
  refine a_sld C X 1 rfl (by decide) (by decide) dL_law_418 ?_
  refine a_aload_n C dL_law_419 (i := 0) rfl rfl ?_
  refine a_iload_n C dL_law_420 (i := 3) rfl rfl ?_
  refine a_iconst C dL_law_421 (v := 2) rfl ?_
  refine a_iadd C dL_law_422 ?_
  refine a_sld C X 2 rfl (by decide) (by decide) dL_law_423 ?_
  refine a_aload_n C dL_law_424 (i := 0) rfl rfl ?_
  refine a_iload_n C dL_law_425 (i := 3) rfl rfl ?_
  refine a_iconst C dL_law_426 (v := 3) rfl ?_
  refine a_iadd C dL_law_427 ?_
  refine a_sld C X 3 rfl (by decide) (by decide) dL_law_428 ?_
  refine a_callVi C (i := 236) kd_236 (hid 236 (by decide)) ⟨_, _, rfl⟩ (by decide) hM2 mi_X12_tells ml_RL_45 rfl rfl (by omega) (by omega) (Nat.le_of_ble_eq_true rfl) dL_law_429 (fun r2 σ2 q2 => ?_)
  refine a_ic_eq C dL_law_432 (tgt := 1338) rfl (fun _ => K σ2) (fun h => absurd q2.symm h)
set_option maxRecDepth 100000 in
theorem la_7 {Γ : GT} {ids : List Nat} {ad : Nat → Nat} {ca : Nat → ClassId} {l0 : Launch} {D0 : va_G} {b : Nat} {xs : Nat → Int32} (C : CT ids ad ca Γ code RL l0 D0 2048 84000 4) (X : SX Γ b 6 xs) (hid : ∀ i, i < 277 → i ∈ ids) (K : ∀ σ : HS, AW ids ad ca Γ 1338 [some (.ref b), some (.ref (ad 0)), some (.ref (ad 236)), some (.int 0)] [] σ) : AW ids ad ca Γ 437 [some (.ref b), some (.ref (ad 0)), some (.ref (ad 236)), some (.int 0)] [] s0 := by
  refine a_aload_n C dL_law_437 (i := 1) rfl rfl ?_
  refine a_aload_n C dL_law_438 (i := 0) rfl rfl ?_
  refine a_iload_n C dL_law_439 (i := 3) rfl rfl ?_
  refine a_iconst C dL_law_440 (v := 1) rfl ?_
  refine a_iadd C dL_law_441 ?_
  refine a_sld C X 1 rfl (by decide) (by decide) dL_law_442 ?_
  refine a_aload_n C dL_law_443 (i := 0) rfl rfl ?_
  refine a_iload_n C dL_law_444 (i := 3) rfl rfl ?_
  refine a_iconst C dL_law_445 (v := 2) rfl ?_
  refine a_iadd C dL_law_446 ?_
  refine a_sld C X 2 rfl (by decide) (by decide) dL_law_447 ?_
  obtain ⟨v, ⟨fr, lo, hf, hl, hM⟩, hR⟩ := b_throwIn (l := l0) (D := D0) (ad := ad) (ca := ca) (p0 := (xs 1)) (p1 := (xs 2)) hid
  refine a_callVi C (i := 0) kd_0 (hid 0 (by decide)) ⟨_, _, rfl⟩ (by decide) hM mi_X11_throwIn ml_RL_46 rfl rfl (by omega) (by omega) (Nat.le_of_ble_eq_true rfl) dL_law_448 (fun r σ1 q1 => ?_)
  obtain ⟨rfl, hk⟩ := q1
  obtain ⟨fr2, lo2, hf2, hl2, hM2⟩ := hR σ1 hk
  refine a_aload_n C dL_law_451 (i := 2) rfl rfl ?_
  refine a_aload_n C dL_law_452 (i := 0) rfl rfl ?_
  refine a_iload_n C dL_law_453 (i := 3) rfl rfl ?_
  refine a_iconst C dL_law_454 (v := 1) rfl ?_
  refine a_iadd C dL_law_455 ?_
  refine a_sld C X 1 rfl (by decide) (by decide) dL_law_456 ?_
  refine a_aload_n C dL_law_457 (i := 0) rfl rfl ?_
  refine a_iload_n C dL_law_458 (i := 3) rfl rfl ?_
  refine a_iconst C dL_law_459 (v := 2) rfl ?_
  refine a_iadd C dL_law_460 ?_
  refine a_sld C X 2 rfl (by decide) (by decide) dL_law_461 ?_
  refine a_callVi C (i := 236) kd_236 (hid 236 (by decide)) ⟨_, _, rfl⟩ (by decide) hM2 mi_X12_throwIn ml_RL_50 rfl rfl (by omega) (by omega) (Nat.le_of_ble_eq_true rfl) dL_law_462 (fun r2 σ2 q2 => ?_)
  refine a_ic_eq C dL_law_465 (tgt := 1338) rfl (fun _ => K σ2) (fun h => absurd q2.symm h)
set_option maxRecDepth 100000 in
theorem la_8 {Γ : GT} {ids : List Nat} {ad : Nat → Nat} {ca : Nat → ClassId} {l0 : Launch} {D0 : va_G} {b : Nat} {xs : Nat → Int32} (C : CT ids ad ca Γ code RL l0 D0 2048 84000 4) (X : SX Γ b 6 xs) (hid : ∀ i, i < 277 → i ∈ ids) (K : ∀ σ : HS, AW ids ad ca Γ 1338 [some (.ref b), some (.ref (ad 0)), some (.ref (ad 236)), some (.int 0)] [] σ) : AW ids ad ca Γ 470 [some (.ref b), some (.ref (ad 0)), some (.ref (ad 236)), some (.int 0)] [] s0 := by
  refine a_aload_n C dL_law_470 (i := 1) rfl rfl ?_
  refine a_aload_n C dL_law_471 (i := 0) rfl rfl ?_
  refine a_iload_n C dL_law_472 (i := 3) rfl rfl ?_
  refine a_iconst C dL_law_473 (v := 1) rfl ?_
  refine a_iadd C dL_law_474 ?_
  refine a_sld C X 1 rfl (by decide) (by decide) dL_law_475 ?_
  obtain ⟨v, ⟨fr, lo, hf, hl, hM⟩, hR⟩ := b_use (l := l0) (D := D0) (ad := ad) (ca := ca) (p0 := (xs 1)) hid
  refine a_callVi C (i := 0) kd_0 (hid 0 (by decide)) ⟨_, _, rfl⟩ (by decide) hM mi_X11_use ml_RL_51 rfl rfl (by omega) (by omega) (Nat.le_of_ble_eq_true rfl) dL_law_476 (fun r σ1 q1 => ?_)
  obtain ⟨rfl, hk⟩ := q1
  obtain ⟨fr2, lo2, hf2, hl2, hM2⟩ := hR σ1 hk
  refine a_aload_n C dL_law_479 (i := 2) rfl rfl ?_
  refine a_aload_n C dL_law_480 (i := 0) rfl rfl ?_
  refine a_iload_n C dL_law_481 (i := 3) rfl rfl ?_
  refine a_iconst C dL_law_482 (v := 1) rfl ?_
  refine a_iadd C dL_law_483 ?_
  refine a_sld C X 1 rfl (by decide) (by decide) dL_law_484 ?_
  refine a_callVi C (i := 236) kd_236 (hid 236 (by decide)) ⟨_, _, rfl⟩ (by decide) hM2 mi_X12_use ml_RL_55 rfl rfl (by omega) (by omega) (Nat.le_of_ble_eq_true rfl) dL_law_485 (fun r2 σ2 q2 => ?_)
  refine a_ic_eq C dL_law_488 (tgt := 1338) rfl (fun _ => K σ2) (fun h => absurd q2.symm h)
set_option maxRecDepth 100000 in
theorem la_9 {Γ : GT} {ids : List Nat} {ad : Nat → Nat} {ca : Nat → ClassId} {l0 : Launch} {D0 : va_G} {b : Nat} {xs : Nat → Int32} (C : CT ids ad ca Γ code RL l0 D0 2048 84000 4) (X : SX Γ b 6 xs) (hid : ∀ i, i < 277 → i ∈ ids) (K : ∀ σ : HS, AW ids ad ca Γ 1338 [some (.ref b), some (.ref (ad 0)), some (.ref (ad 236)), some (.int 0)] [] σ) : AW ids ad ca Γ 493 [some (.ref b), some (.ref (ad 0)), some (.ref (ad 236)), some (.int 0)] [] s0 := by
  refine a_aload_n C dL_law_493 (i := 1) rfl rfl ?_
  refine a_aload_n C dL_law_494 (i := 0) rfl rfl ?_
  refine a_iload_n C dL_law_495 (i := 3) rfl rfl ?_
  refine a_iconst C dL_law_496 (v := 1) rfl ?_
  refine a_iadd C dL_law_497 ?_
  refine a_sld C X 1 rfl (by decide) (by decide) dL_law_498 ?_
  obtain ⟨v, ⟨fr, lo, hf, hl, hM⟩, hR⟩ := b_set (l := l0) (D := D0) (ad := ad) (ca := ca) (p0 := (xs 1)) hid
  refine a_callVi C (i := 0) kd_0 (hid 0 (by decide)) ⟨_, _, rfl⟩ (by decide) hM mi_X11_set ml_RL_56 rfl rfl (by omega) (by omega) (Nat.le_of_ble_eq_true rfl) dL_law_499 (fun r σ1 q1 => ?_)
  obtain ⟨rfl, hk⟩ := q1
  obtain ⟨fr2, lo2, hf2, hl2, hM2⟩ := hR σ1 hk
  refine a_aload_n C dL_law_502 (i := 2) rfl rfl ?_
  refine a_aload_n C dL_law_503 (i := 0) rfl rfl ?_
  refine a_iload_n C dL_law_504 (i := 3) rfl rfl ?_
  refine a_iconst C dL_law_505 (v := 1) rfl ?_
  refine a_iadd C dL_law_506 ?_
  refine a_sld C X 1 rfl (by decide) (by decide) dL_law_507 ?_
  refine a_callVi C (i := 236) kd_236 (hid 236 (by decide)) ⟨_, _, rfl⟩ (by decide) hM2 mi_X12_set ml_RL_59 rfl rfl (by omega) (by omega) (Nat.le_of_ble_eq_true rfl) dL_law_508 (fun r2 σ2 q2 => ?_)
  refine a_ic_eq C dL_law_511 (tgt := 1338) rfl (fun _ => K σ2) (fun h => absurd q2.symm h)
set_option maxRecDepth 100000 in
theorem la_10 {Γ : GT} {ids : List Nat} {ad : Nat → Nat} {ca : Nat → ClassId} {l0 : Launch} {D0 : va_G} {b : Nat} {xs : Nat → Int32} (C : CT ids ad ca Γ code RL l0 D0 2048 84000 4) (X : SX Γ b 6 xs) (hid : ∀ i, i < 277 → i ∈ ids) (K : ∀ σ : HS, AW ids ad ca Γ 1338 [some (.ref b), some (.ref (ad 0)), some (.ref (ad 236)), some (.int 0)] [] σ) : AW ids ad ca Γ 516 [some (.ref b), some (.ref (ad 0)), some (.ref (ad 236)), some (.int 0)] [] s0 := by
  refine a_aload_n C dL_law_516 (i := 1) rfl rfl ?_
  refine a_aload_n C dL_law_517 (i := 0) rfl rfl ?_
  refine a_iload_n C dL_law_518 (i := 3) rfl rfl ?_
  refine a_iconst C dL_law_519 (v := 1) rfl ?_
  refine a_iadd C dL_law_520 ?_
  refine a_sld C X 1 rfl (by decide) (by decide) dL_law_521 ?_
  obtain ⟨v, ⟨fr, lo, hf, hl, hM⟩, hR⟩ := b_beats (l := l0) (D := D0) (ad := ad) (ca := ca) (p0 := (xs 1)) hid
  refine a_callVi C (i := 0) kd_0 (hid 0 (by decide)) ⟨_, _, rfl⟩ (by decide) hM mi_X11_beats ml_RL_60 rfl rfl (by omega) (by omega) (Nat.le_of_ble_eq_true rfl) dL_law_522 (fun r σ1 q1 => ?_)
  obtain ⟨rfl, hk⟩ := q1
  obtain ⟨fr2, lo2, hf2, hl2, hM2⟩ := hR σ1 hk
  refine a_aload_n C dL_law_525 (i := 2) rfl rfl ?_
  refine a_aload_n C dL_law_526 (i := 0) rfl rfl ?_
  refine a_iload_n C dL_law_527 (i := 3) rfl rfl ?_
  refine a_iconst C dL_law_528 (v := 1) rfl ?_
  refine a_iadd C dL_law_529 ?_
  refine a_sld C X 1 rfl (by decide) (by decide) dL_law_530 ?_
  refine a_callVi C (i := 236) kd_236 (hid 236 (by decide)) ⟨_, _, rfl⟩ (by decide) hM2 mi_X12_beats ml_RL_63 rfl rfl (by omega) (by omega) (Nat.le_of_ble_eq_true rfl) dL_law_531 (fun r2 σ2 q2 => ?_)
  refine a_ic_eq C dL_law_534 (tgt := 1338) rfl (fun _ => K σ2) (fun h => absurd q2.symm h)
set_option maxRecDepth 100000 in
theorem la_11 {Γ : GT} {ids : List Nat} {ad : Nat → Nat} {ca : Nat → ClassId} {l0 : Launch} {D0 : va_G} {b : Nat} {xs : Nat → Int32} (C : CT ids ad ca Γ code RL l0 D0 2048 84000 4) (X : SX Γ b 6 xs) (hid : ∀ i, i < 277 → i ∈ ids) (K : ∀ σ : HS, AW ids ad ca Γ 1338 [some (.ref b), some (.ref (ad 0)), some (.ref (ad 236)), some (.int 0)] [] σ) : AW ids ad ca Γ 539 [some (.ref b), some (.ref (ad 0)), some (.ref (ad 236)), some (.int 0)] [] s0 := by
  refine a_aload_n C dL_law_539 (i := 1) rfl rfl ?_
  obtain ⟨v, ⟨fr, lo, hf, hl, hM⟩, hR⟩ := b_undo (l := l0) (D := D0) (ad := ad) (ca := ca) hid
  refine a_callVi C (i := 0) kd_0 (hid 0 (by decide)) ⟨_, _, rfl⟩ (by decide) hM mi_X11_undo ml_RL_64 rfl rfl (by omega) (by omega) (Nat.le_of_ble_eq_true rfl) dL_law_540 (fun r σ1 q1 => ?_)
  obtain ⟨rfl, hk⟩ := q1
  obtain ⟨fr2, lo2, hf2, hl2, hM2⟩ := hR σ1 hk
  refine a_aload_n C dL_law_543 (i := 2) rfl rfl ?_
  refine a_callVi C (i := 236) kd_236 (hid 236 (by decide)) ⟨_, _, rfl⟩ (by decide) hM2 mi_X12_undo ml_RL_68 rfl rfl (by omega) (by omega) (Nat.le_of_ble_eq_true rfl) dL_law_544 (fun r2 σ2 q2 => ?_)
  refine a_ic_eq C dL_law_547 (tgt := 1338) rfl (fun _ => K σ2) (fun h => absurd q2.symm h)
set_option maxRecDepth 100000 in
theorem la_12 {Γ : GT} {ids : List Nat} {ad : Nat → Nat} {ca : Nat → ClassId} {l0 : Launch} {D0 : va_G} {b : Nat} {xs : Nat → Int32} (C : CT ids ad ca Γ code RL l0 D0 2048 84000 4) (X : SX Γ b 6 xs) (hid : ∀ i, i < 277 → i ∈ ids) (K : ∀ σ : HS, AW ids ad ca Γ 1338 [some (.ref b), some (.ref (ad 0)), some (.ref (ad 236)), some (.int 0)] [] σ) : AW ids ad ca Γ 552 [some (.ref b), some (.ref (ad 0)), some (.ref (ad 236)), some (.int 0)] [] s0 := by
  refine a_aload_n C dL_law_552 (i := 1) rfl rfl ?_
  refine a_aload_n C dL_law_553 (i := 0) rfl rfl ?_
  refine a_iload_n C dL_law_554 (i := 3) rfl rfl ?_
  refine a_iconst C dL_law_555 (v := 1) rfl ?_
  refine a_iadd C dL_law_556 ?_
  refine a_sld C X 1 rfl (by decide) (by decide) dL_law_557 ?_
  refine a_aload_n C dL_law_558 (i := 0) rfl rfl ?_
  refine a_iload_n C dL_law_559 (i := 3) rfl rfl ?_
  refine a_iconst C dL_law_560 (v := 2) rfl ?_
  refine a_iadd C dL_law_561 ?_
  refine a_sld C X 2 rfl (by decide) (by decide) dL_law_562 ?_
  obtain ⟨v, ⟨fr, lo, hf, hl, hM⟩, hR⟩ := b_closes (l := l0) (D := D0) (ad := ad) (ca := ca) (p0 := (xs 1)) (p1 := (xs 2)) hid
  refine a_callVi C (i := 0) kd_0 (hid 0 (by decide)) ⟨_, _, rfl⟩ (by decide) hM mi_X11_closes ml_RL_69 rfl rfl (by omega) (by omega) (Nat.le_of_ble_eq_true rfl) dL_law_563 (fun r σ1 q1 => ?_)
  obtain ⟨rfl, hk⟩ := q1
  obtain ⟨fr2, lo2, hf2, hl2, hM2⟩ := hR σ1 hk
  refine a_aload_n C dL_law_566 (i := 2) rfl rfl ?_
  refine a_aload_n C dL_law_567 (i := 0) rfl rfl ?_
  refine a_iload_n C dL_law_568 (i := 3) rfl rfl ?_
  refine a_iconst C dL_law_569 (v := 1) rfl ?_
  refine a_iadd C dL_law_570 ?_
  refine a_sld C X 1 rfl (by decide) (by decide) dL_law_571 ?_
  refine a_aload_n C dL_law_572 (i := 0) rfl rfl ?_
  refine a_iload_n C dL_law_573 (i := 3) rfl rfl ?_
  refine a_iconst C dL_law_574 (v := 2) rfl ?_
  refine a_iadd C dL_law_575 ?_
  refine a_sld C X 2 rfl (by decide) (by decide) dL_law_576 ?_
  refine a_callVi C (i := 236) kd_236 (hid 236 (by decide)) ⟨_, _, rfl⟩ (by decide) hM2 mi_X12_closes ml_RL_72 rfl rfl (by omega) (by omega) (Nat.le_of_ble_eq_true rfl) dL_law_577 (fun r2 σ2 q2 => ?_)
  refine a_ic_eq C dL_law_580 (tgt := 1338) rfl (fun _ => K σ2) (fun h => absurd q2.symm h)
set_option maxRecDepth 100000 in
theorem la_13 {Γ : GT} {ids : List Nat} {ad : Nat → Nat} {ca : Nat → ClassId} {l0 : Launch} {D0 : va_G} {b : Nat} {xs : Nat → Int32} (C : CT ids ad ca Γ code RL l0 D0 2048 84000 4) (X : SX Γ b 6 xs) (hid : ∀ i, i < 277 → i ∈ ids) (K : ∀ σ : HS, AW ids ad ca Γ 1338 [some (.ref b), some (.ref (ad 0)), some (.ref (ad 236)), some (.int 0)] [] σ) : AW ids ad ca Γ 585 [some (.ref b), some (.ref (ad 0)), some (.ref (ad 236)), some (.int 0)] [] s0 := by
  refine a_aload_n C dL_law_585 (i := 1) rfl rfl ?_
  obtain ⟨v, ⟨fr, lo, hf, hl, hM⟩, hR⟩ := b_lands (l := l0) (D := D0) (ad := ad) (ca := ca) hid
  refine a_callVi C (i := 0) kd_0 (hid 0 (by decide)) ⟨_, _, rfl⟩ (by decide) hM mi_X11_lands ml_RL_73 rfl rfl (by omega) (by omega) (Nat.le_of_ble_eq_true rfl) dL_law_586 (fun r σ1 q1 => ?_)
  obtain ⟨rfl, hk⟩ := q1
  obtain ⟨fr2, lo2, hf2, hl2, hM2⟩ := hR σ1 hk
  refine a_aload_n C dL_law_589 (i := 2) rfl rfl ?_
  refine a_callVi C (i := 236) kd_236 (hid 236 (by decide)) ⟨_, _, rfl⟩ (by decide) hM2 mi_X12_lands ml_RL_76 rfl rfl (by omega) (by omega) (Nat.le_of_ble_eq_true rfl) dL_law_590 (fun r2 σ2 q2 => ?_)
  refine a_ic_eq C dL_law_593 (tgt := 1338) rfl (fun _ => K σ2) (fun h => absurd q2.symm h)
