set_option maxHeartbeats 4000000 in
set_option maxRecDepth 100000 in
theorem la_0 {Γ : GT} {ids : List Nat} {ad : Nat → Nat} {ca : Nat → ClassId} {l0 : Launch} {D0 : va_G} {b L n : Nat} {i : Int32} {xs : Nat → Int32} {σ : HS} {K9 : (Nat → Nat) × (Nat → Nat)} (C : CT ids ad ca Γ code RL l0 D0 2048 84000 4) (X : SX Γ b L xs) (E9 : SG K9 Γ) (hid : ∀ i, i < 277 → i ∈ ids) (hi : i.toInt = 6 * (n : Int)) (hL : 6 * n + 6 ≤ L) (hLL : L ≤ 3072) (hI : REL n σ) (K : ∀ σ : HS, REL (n + 1) σ → AW ids ad ca Γ 1338 [some (.ref b), some (.ref (ad 0)), some (.ref (ad 236)), some (.int i)] [] σ) : AW ids ad ca Γ 216 [some (.ref b), some (.ref (ad 0)), some (.ref (ad 236)), some (.int i)] [] σ := by
  refine a_aload_n C dL_law_216 (i := 1) rfl rfl ?_
  refine a_aload_n C dL_law_217 (i := 0) rfl rfl ?_
  refine a_iload_n C dL_law_218 (i := 3) rfl rfl ?_
  refine s_iconst C dL_law_219 (1) (by decide) (fun z1 h2 => ?_)
  refine s_iadd C dL_law_220 (by omega) (fun z3 h4 => ?_)
  refine s_sld C X (by omega) (by omega) dL_law_221 (fun m5 h6 => ?_)
  refine a_aload_n C dL_law_222 (i := 0) rfl rfl ?_
  refine a_iload_n C dL_law_223 (i := 3) rfl rfl ?_
  refine s_iconst C dL_law_224 (2) (by decide) (fun z7 h8 => ?_)
  refine s_iadd C dL_law_225 (by omega) (fun z9 h10 => ?_)
  refine s_sld C X (by omega) (by omega) dL_law_226 (fun m11 h12 => ?_)
  refine a_aload_n C dL_law_227 (i := 0) rfl rfl ?_
  refine a_iload_n C dL_law_228 (i := 3) rfl rfl ?_
  refine s_iconst C dL_law_229 (3) (by decide) (fun z13 h14 => ?_)
  refine s_iadd C dL_law_230 (by omega) (fun z15 h16 => ?_)
  refine s_sld C X (by omega) (by omega) dL_law_231 (fun m17 h18 => ?_)
  refine a_aload_n C dL_law_232 (i := 0) rfl rfl ?_
  refine a_iload_n C dL_law_233 (i := 3) rfl rfl ?_
  refine s_iconst C dL_law_234 (4) (by decide) (fun z19 h20 => ?_)
  refine s_iadd C dL_law_235 (by omega) (fun z21 h22 => ?_)
  refine s_sld C X (by omega) (by omega) dL_law_236 (fun m23 h24 => ?_)
  refine a_aload_n C dL_law_237 (i := 0) rfl rfl ?_
  refine a_iload_n C dL_law_238 (i := 3) rfl rfl ?_
  refine s_iconst C dL_law_239 (5) (by decide) (fun z25 h26 => ?_)
  refine s_iadd C dL_law_240 (by omega) (fun z27 h28 => ?_)
  refine s_sld C X (by omega) (by omega) dL_law_241 (fun m29 h30 => ?_)
  have hS : SIM n (f_X11_feed (xs m5) (xs m11) (xs m17) (xs m23) (xs m29)) (f_X12_feed (xs m5) (xs m11) (xs m17) (xs m23) (xs m29)) := sim_feed
  obtain ⟨r9, s9, s8, ec, em, hN⟩ := hS σ hI
  refine a_callVi C (i := 0) kd_0 (hid 0 (by decide)) ⟨_, _, rfl⟩ (by decide) (Z_X11_feed hid ec) mi_X11_feed ml_RL_13 rfl rfl (Nat.le_of_ble_eq_true rfl) (Nat.le_of_ble_eq_true rfl) (Nat.le_of_ble_eq_true rfl) dL_law_242 (fun r σ1 q1 => ?_)
  obtain ⟨er, es⟩ := q1
  subst es
  subst er
  refine a_pop C dL_law_245 rfl ?_
  refine a_aload_n C dL_law_246 (i := 2) rfl rfl ?_
  refine a_aload_n C dL_law_247 (i := 0) rfl rfl ?_
  refine a_iload_n C dL_law_248 (i := 3) rfl rfl ?_
  refine s_iconst C dL_law_249 (1) (by decide) (fun z31 h32 => ?_)
  refine s_iadd C dL_law_250 (by omega) (fun z33 h34 => ?_)
  refine s_sld C X (by omega) (by omega) dL_law_251 (fun m35 h36 => ?_)
  refine a_aload_n C dL_law_252 (i := 0) rfl rfl ?_
  refine a_iload_n C dL_law_253 (i := 3) rfl rfl ?_
  refine s_iconst C dL_law_254 (2) (by decide) (fun z37 h38 => ?_)
  refine s_iadd C dL_law_255 (by omega) (fun z39 h40 => ?_)
  refine s_sld C X (by omega) (by omega) dL_law_256 (fun m41 h42 => ?_)
  refine a_aload_n C dL_law_257 (i := 0) rfl rfl ?_
  refine a_iload_n C dL_law_258 (i := 3) rfl rfl ?_
  refine s_iconst C dL_law_259 (3) (by decide) (fun z43 h44 => ?_)
  refine s_iadd C dL_law_260 (by omega) (fun z45 h46 => ?_)
  refine s_sld C X (by omega) (by omega) dL_law_261 (fun m47 h48 => ?_)
  refine a_aload_n C dL_law_262 (i := 0) rfl rfl ?_
  refine a_iload_n C dL_law_263 (i := 3) rfl rfl ?_
  refine s_iconst C dL_law_264 (4) (by decide) (fun z49 h50 => ?_)
  refine s_iadd C dL_law_265 (by omega) (fun z51 h52 => ?_)
  refine s_sld C X (by omega) (by omega) dL_law_266 (fun m53 h54 => ?_)
  refine a_aload_n C dL_law_267 (i := 0) rfl rfl ?_
  refine a_iload_n C dL_law_268 (i := 3) rfl rfl ?_
  refine s_iconst C dL_law_269 (5) (by decide) (fun z55 h56 => ?_)
  refine s_iadd C dL_law_270 (by omega) (fun z57 h58 => ?_)
  refine s_sld C X (by omega) (by omega) dL_law_271 (fun m59 h60 => ?_)
  obtain rfl : m35 = m5 := by omega
  obtain rfl : m41 = m11 := by omega
  obtain rfl : m47 = m17 := by omega
  obtain rfl : m53 = m23 := by omega
  obtain rfl : m59 = m29 := by omega
  refine a_callVi C (i := 236) kd_236 (hid 236 (by decide)) ⟨_, _, rfl⟩ (by decide) (Z_X12_feed hid em) mi_X12_feed ml_RL_17 rfl rfl (Nat.le_of_ble_eq_true rfl) (Nat.le_of_ble_eq_true rfl) (Nat.le_of_ble_eq_true rfl) dL_law_272 (fun r2 σ2 q2 => ?_)
  obtain ⟨er2, es2⟩ := q2
  subst es2
  subst er2
  refine a_pop C dL_law_275 rfl ?_
  exact a_goto C dL_law_276 (tgt := 1338) rfl (K _ hN)
set_option maxHeartbeats 4000000 in
set_option maxRecDepth 100000 in
theorem la_1 {Γ : GT} {ids : List Nat} {ad : Nat → Nat} {ca : Nat → ClassId} {l0 : Launch} {D0 : va_G} {b L n : Nat} {i : Int32} {xs : Nat → Int32} {σ : HS} {K9 : (Nat → Nat) × (Nat → Nat)} (C : CT ids ad ca Γ code RL l0 D0 2048 84000 4) (X : SX Γ b L xs) (E9 : SG K9 Γ) (hid : ∀ i, i < 277 → i ∈ ids) (hi : i.toInt = 6 * (n : Int)) (hL : 6 * n + 6 ≤ L) (hLL : L ≤ 3072) (hI : REL n σ) (K : ∀ σ : HS, REL (n + 1) σ → AW ids ad ca Γ 1338 [some (.ref b), some (.ref (ad 0)), some (.ref (ad 236)), some (.int i)] [] σ) : AW ids ad ca Γ 279 [some (.ref b), some (.ref (ad 0)), some (.ref (ad 236)), some (.int i)] [] σ := by
  refine a_aload_n C dL_law_279 (i := 1) rfl rfl ?_
  refine a_aload_n C dL_law_280 (i := 0) rfl rfl ?_
  refine a_iload_n C dL_law_281 (i := 3) rfl rfl ?_
  refine s_iconst C dL_law_282 (1) (by decide) (fun z61 h62 => ?_)
  refine s_iadd C dL_law_283 (by omega) (fun z63 h64 => ?_)
  refine s_sld C X (by omega) (by omega) dL_law_284 (fun m65 h66 => ?_)
  have hS : SIM n (f_X11_back (xs m65)) (f_X12_back (xs m65)) := sim_back
  obtain ⟨r9, s9, s8, ec, em, hN⟩ := hS σ hI
  refine a_callVi C (i := 0) kd_0 (hid 0 (by decide)) ⟨_, _, rfl⟩ (by decide) (Z_X11_back hid ec) mi_X11_back ml_RL_18 rfl rfl (Nat.le_of_ble_eq_true rfl) (Nat.le_of_ble_eq_true rfl) (Nat.le_of_ble_eq_true rfl) dL_law_285 (fun r σ1 q1 => ?_)
  obtain ⟨er, es⟩ := q1
  subst es
  subst er
  refine a_pop C dL_law_288 rfl ?_
  refine a_aload_n C dL_law_289 (i := 2) rfl rfl ?_
  refine a_aload_n C dL_law_290 (i := 0) rfl rfl ?_
  refine a_iload_n C dL_law_291 (i := 3) rfl rfl ?_
  refine s_iconst C dL_law_292 (1) (by decide) (fun z67 h68 => ?_)
  refine s_iadd C dL_law_293 (by omega) (fun z69 h70 => ?_)
  refine s_sld C X (by omega) (by omega) dL_law_294 (fun m71 h72 => ?_)
  obtain rfl : m71 = m65 := by omega
  refine a_callVi C (i := 236) kd_236 (hid 236 (by decide)) ⟨_, _, rfl⟩ (by decide) (Z_X12_back hid em) mi_X12_back ml_RL_22 rfl rfl (Nat.le_of_ble_eq_true rfl) (Nat.le_of_ble_eq_true rfl) (Nat.le_of_ble_eq_true rfl) dL_law_295 (fun r2 σ2 q2 => ?_)
  obtain ⟨er2, es2⟩ := q2
  subst es2
  subst er2
  refine a_pop C dL_law_298 rfl ?_
  exact a_goto C dL_law_299 (tgt := 1338) rfl (K _ hN)
set_option maxHeartbeats 4000000 in
set_option maxRecDepth 100000 in
theorem la_2 {Γ : GT} {ids : List Nat} {ad : Nat → Nat} {ca : Nat → ClassId} {l0 : Launch} {D0 : va_G} {b L n : Nat} {i : Int32} {xs : Nat → Int32} {σ : HS} {K9 : (Nat → Nat) × (Nat → Nat)} (C : CT ids ad ca Γ code RL l0 D0 2048 84000 4) (X : SX Γ b L xs) (E9 : SG K9 Γ) (hid : ∀ i, i < 277 → i ∈ ids) (hi : i.toInt = 6 * (n : Int)) (hL : 6 * n + 6 ≤ L) (hLL : L ≤ 3072) (hI : REL n σ) (K : ∀ σ : HS, REL (n + 1) σ → AW ids ad ca Γ 1338 [some (.ref b), some (.ref (ad 0)), some (.ref (ad 236)), some (.int i)] [] σ) : AW ids ad ca Γ 302 [some (.ref b), some (.ref (ad 0)), some (.ref (ad 236)), some (.int i)] [] σ := by
  refine a_aload_n C dL_law_302 (i := 1) rfl rfl ?_
  have hS : SIM n (f_X11_read) (f_X12_read) := sim_read
  obtain ⟨r9, s9, s8, ec, em, hN⟩ := hS σ hI
  refine a_cViS C E9 (i := 0) kd_0 (hid 0 (by decide)) ⟨_, _, rfl⟩ (by decide) (Z_X11_read hid ec) mi_X11_read ml_RL_23 rfl rfl (Nat.le_of_ble_eq_true rfl) (Nat.le_of_ble_eq_true rfl) (Nat.le_of_ble_eq_true rfl) dL_law_303 (fun r σ1 q1 => ?_)
  obtain ⟨er, es⟩ := q1
  subst es
  subst er
  refine a_aload_n C dL_law_306 (i := 2) rfl rfl ?_
  refine a_callVi C (i := 236) kd_236 (hid 236 (by decide)) ⟨_, _, rfl⟩ (by decide) (Z_X12_read hid em) mi_X12_read ml_RL_27 rfl rfl (Nat.le_of_ble_eq_true rfl) (Nat.le_of_ble_eq_true rfl) (Nat.le_of_ble_eq_true rfl) dL_law_307 (fun r2 σ2 q2 => ?_)
  obtain ⟨er2, es2⟩ := q2
  subst es2
  subst er2
  refine a_ic_eq C dL_law_310 (tgt := 1338) rfl (fun _ => K _ hN) (fun h => absurd rfl h)
set_option maxHeartbeats 4000000 in
set_option maxRecDepth 100000 in
theorem la_3 {Γ : GT} {ids : List Nat} {ad : Nat → Nat} {ca : Nat → ClassId} {l0 : Launch} {D0 : va_G} {b L n : Nat} {i : Int32} {xs : Nat → Int32} {σ : HS} {K9 : (Nat → Nat) × (Nat → Nat)} (C : CT ids ad ca Γ code RL l0 D0 2048 84000 4) (X : SX Γ b L xs) (E9 : SG K9 Γ) (hid : ∀ i, i < 277 → i ∈ ids) (hi : i.toInt = 6 * (n : Int)) (hL : 6 * n + 6 ≤ L) (hLL : L ≤ 3072) (hI : REL n σ) (K : ∀ σ : HS, REL (n + 1) σ → AW ids ad ca Γ 1338 [some (.ref b), some (.ref (ad 0)), some (.ref (ad 236)), some (.int i)] [] σ) : AW ids ad ca Γ 315 [some (.ref b), some (.ref (ad 0)), some (.ref (ad 236)), some (.int i)] [] σ := by
  refine a_aload_n C dL_law_315 (i := 1) rfl rfl ?_
  have hS : SIM n (f_X11_place) (f_X12_place) := sim_place
  obtain ⟨r9, s9, s8, ec, em, hN⟩ := hS σ hI
  refine a_callVi C (i := 0) kd_0 (hid 0 (by decide)) ⟨_, _, rfl⟩ (by decide) (Z_X11_place hid ec) mi_X11_place ml_RL_28 rfl rfl (Nat.le_of_ble_eq_true rfl) (Nat.le_of_ble_eq_true rfl) (Nat.le_of_ble_eq_true rfl) dL_law_316 (fun r σ1 q1 => ?_)
  obtain ⟨er, es⟩ := q1
  subst es
  subst er
  refine a_pop C dL_law_319 rfl ?_
  refine a_aload_n C dL_law_320 (i := 2) rfl rfl ?_
  refine a_callVi C (i := 236) kd_236 (hid 236 (by decide)) ⟨_, _, rfl⟩ (by decide) (Z_X12_place hid em) mi_X12_place ml_RL_31 rfl rfl (Nat.le_of_ble_eq_true rfl) (Nat.le_of_ble_eq_true rfl) (Nat.le_of_ble_eq_true rfl) dL_law_321 (fun r2 σ2 q2 => ?_)
  obtain ⟨er2, es2⟩ := q2
  subst es2
  subst er2
  refine a_pop C dL_law_324 rfl ?_
  exact a_goto C dL_law_325 (tgt := 1338) rfl (K _ hN)
set_option maxHeartbeats 4000000 in
set_option maxRecDepth 100000 in
theorem la_4 {Γ : GT} {ids : List Nat} {ad : Nat → Nat} {ca : Nat → ClassId} {l0 : Launch} {D0 : va_G} {b L n : Nat} {i : Int32} {xs : Nat → Int32} {σ : HS} {K9 : (Nat → Nat) × (Nat → Nat)} (C : CT ids ad ca Γ code RL l0 D0 2048 84000 4) (X : SX Γ b L xs) (E9 : SG K9 Γ) (hid : ∀ i, i < 277 → i ∈ ids) (hi : i.toInt = 6 * (n : Int)) (hL : 6 * n + 6 ≤ L) (hLL : L ≤ 3072) (hI : REL n σ) (K : ∀ σ : HS, REL (n + 1) σ → AW ids ad ca Γ 1338 [some (.ref b), some (.ref (ad 0)), some (.ref (ad 236)), some (.int i)] [] σ) : AW ids ad ca Γ 328 [some (.ref b), some (.ref (ad 0)), some (.ref (ad 236)), some (.int i)] [] σ := by
  refine a_aload_n C dL_law_328 (i := 1) rfl rfl ?_
  refine a_aload_n C dL_law_329 (i := 0) rfl rfl ?_
  refine a_iload_n C dL_law_330 (i := 3) rfl rfl ?_
  refine s_iconst C dL_law_331 (1) (by decide) (fun z73 h74 => ?_)
  refine s_iadd C dL_law_332 (by omega) (fun z75 h76 => ?_)
  refine s_sld C X (by omega) (by omega) dL_law_333 (fun m77 h78 => ?_)
  refine a_aload_n C dL_law_334 (i := 0) rfl rfl ?_
  refine a_iload_n C dL_law_335 (i := 3) rfl rfl ?_
  refine s_iconst C dL_law_336 (2) (by decide) (fun z79 h80 => ?_)
  refine s_iadd C dL_law_337 (by omega) (fun z81 h82 => ?_)
  refine s_sld C X (by omega) (by omega) dL_law_338 (fun m83 h84 => ?_)
  have hS : SIM n (f_X11_thing (xs m77) (xs m83)) (f_X12_thing (xs m77) (xs m83)) := sim_thing
  obtain ⟨r9, s9, s8, ec, em, hN⟩ := hS σ hI
  refine a_callVi C (i := 0) kd_0 (hid 0 (by decide)) ⟨_, _, rfl⟩ (by decide) (Z_X11_thing hid ec) mi_X11_thing ml_RL_32 rfl rfl (Nat.le_of_ble_eq_true rfl) (Nat.le_of_ble_eq_true rfl) (Nat.le_of_ble_eq_true rfl) dL_law_339 (fun r σ1 q1 => ?_)
  obtain ⟨er, es⟩ := q1
  subst es
  subst er
  refine a_pop C dL_law_342 rfl ?_
  refine a_aload_n C dL_law_343 (i := 2) rfl rfl ?_
  refine a_aload_n C dL_law_344 (i := 0) rfl rfl ?_
  refine a_iload_n C dL_law_345 (i := 3) rfl rfl ?_
  refine s_iconst C dL_law_346 (1) (by decide) (fun z85 h86 => ?_)
  refine s_iadd C dL_law_347 (by omega) (fun z87 h88 => ?_)
  refine s_sld C X (by omega) (by omega) dL_law_348 (fun m89 h90 => ?_)
  refine a_aload_n C dL_law_349 (i := 0) rfl rfl ?_
  refine a_iload_n C dL_law_350 (i := 3) rfl rfl ?_
  refine s_iconst C dL_law_351 (2) (by decide) (fun z91 h92 => ?_)
  refine s_iadd C dL_law_352 (by omega) (fun z93 h94 => ?_)
  refine s_sld C X (by omega) (by omega) dL_law_353 (fun m95 h96 => ?_)
  obtain rfl : m89 = m77 := by omega
  obtain rfl : m95 = m83 := by omega
  refine a_callVi C (i := 236) kd_236 (hid 236 (by decide)) ⟨_, _, rfl⟩ (by decide) (Z_X12_thing hid em) mi_X12_thing ml_RL_36 rfl rfl (Nat.le_of_ble_eq_true rfl) (Nat.le_of_ble_eq_true rfl) (Nat.le_of_ble_eq_true rfl) dL_law_354 (fun r2 σ2 q2 => ?_)
  obtain ⟨er2, es2⟩ := q2
  subst es2
  subst er2
  refine a_pop C dL_law_357 rfl ?_
  exact a_goto C dL_law_358 (tgt := 1338) rfl (K _ hN)
set_option maxHeartbeats 4000000 in
set_option maxRecDepth 100000 in
theorem la_5 {Γ : GT} {ids : List Nat} {ad : Nat → Nat} {ca : Nat → ClassId} {l0 : Launch} {D0 : va_G} {b L n : Nat} {i : Int32} {xs : Nat → Int32} {σ : HS} {K9 : (Nat → Nat) × (Nat → Nat)} (C : CT ids ad ca Γ code RL l0 D0 2048 84000 4) (X : SX Γ b L xs) (E9 : SG K9 Γ) (hid : ∀ i, i < 277 → i ∈ ids) (hi : i.toInt = 6 * (n : Int)) (hL : 6 * n + 6 ≤ L) (hLL : L ≤ 3072) (hI : REL n σ) (K : ∀ σ : HS, REL (n + 1) σ → AW ids ad ca Γ 1338 [some (.ref b), some (.ref (ad 0)), some (.ref (ad 236)), some (.int i)] [] σ) : AW ids ad ca Γ 361 [some (.ref b), some (.ref (ad 0)), some (.ref (ad 236)), some (.int i)] [] σ := by
  refine a_aload_n C dL_law_361 (i := 1) rfl rfl ?_
  refine a_aload_n C dL_law_362 (i := 0) rfl rfl ?_
  refine a_iload_n C dL_law_363 (i := 3) rfl rfl ?_
  refine s_iconst C dL_law_364 (1) (by decide) (fun z97 h98 => ?_)
  refine s_iadd C dL_law_365 (by omega) (fun z99 h100 => ?_)
  refine s_sld C X (by omega) (by omega) dL_law_366 (fun m101 h102 => ?_)
  refine a_aload_n C dL_law_367 (i := 0) rfl rfl ?_
  refine a_iload_n C dL_law_368 (i := 3) rfl rfl ?_
  refine s_iconst C dL_law_369 (2) (by decide) (fun z103 h104 => ?_)
  refine s_iadd C dL_law_370 (by omega) (fun z105 h106 => ?_)
  refine s_sld C X (by omega) (by omega) dL_law_371 (fun m107 h108 => ?_)
  have hS : SIM n (f_X11_pattern (xs m101) (xs m107)) (f_X12_pattern (xs m101) (xs m107)) := sim_pattern
  obtain ⟨r9, s9, s8, ec, em, hN⟩ := hS σ hI
  refine a_callVi C (i := 0) kd_0 (hid 0 (by decide)) ⟨_, _, rfl⟩ (by decide) (Z_X11_pattern hid ec) mi_X11_pattern ml_RL_37 rfl rfl (Nat.le_of_ble_eq_true rfl) (Nat.le_of_ble_eq_true rfl) (Nat.le_of_ble_eq_true rfl) dL_law_372 (fun r σ1 q1 => ?_)
  obtain ⟨er, es⟩ := q1
  subst es
  subst er
  refine a_pop C dL_law_375 rfl ?_
  refine a_aload_n C dL_law_376 (i := 2) rfl rfl ?_
  refine a_aload_n C dL_law_377 (i := 0) rfl rfl ?_
  refine a_iload_n C dL_law_378 (i := 3) rfl rfl ?_
  refine s_iconst C dL_law_379 (1) (by decide) (fun z109 h110 => ?_)
  refine s_iadd C dL_law_380 (by omega) (fun z111 h112 => ?_)
  refine s_sld C X (by omega) (by omega) dL_law_381 (fun m113 h114 => ?_)
  refine a_aload_n C dL_law_382 (i := 0) rfl rfl ?_
  refine a_iload_n C dL_law_383 (i := 3) rfl rfl ?_
  refine s_iconst C dL_law_384 (2) (by decide) (fun z115 h116 => ?_)
  refine s_iadd C dL_law_385 (by omega) (fun z117 h118 => ?_)
  refine s_sld C X (by omega) (by omega) dL_law_386 (fun m119 h120 => ?_)
  obtain rfl : m113 = m101 := by omega
  obtain rfl : m119 = m107 := by omega
  refine a_callVi C (i := 236) kd_236 (hid 236 (by decide)) ⟨_, _, rfl⟩ (by decide) (Z_X12_pattern hid em) mi_X12_pattern ml_RL_40 rfl rfl (Nat.le_of_ble_eq_true rfl) (Nat.le_of_ble_eq_true rfl) (Nat.le_of_ble_eq_true rfl) dL_law_387 (fun r2 σ2 q2 => ?_)
  obtain ⟨er2, es2⟩ := q2
  subst es2
  subst er2
  refine a_pop C dL_law_390 rfl ?_
  exact a_goto C dL_law_391 (tgt := 1338) rfl (K _ hN)
set_option maxHeartbeats 4000000 in
set_option maxRecDepth 100000 in
theorem la_6 {Γ : GT} {ids : List Nat} {ad : Nat → Nat} {ca : Nat → ClassId} {l0 : Launch} {D0 : va_G} {b L n : Nat} {i : Int32} {xs : Nat → Int32} {σ : HS} {K9 : (Nat → Nat) × (Nat → Nat)} (C : CT ids ad ca Γ code RL l0 D0 2048 84000 4) (X : SX Γ b L xs) (E9 : SG K9 Γ) (hid : ∀ i, i < 277 → i ∈ ids) (hi : i.toInt = 6 * (n : Int)) (hL : 6 * n + 6 ≤ L) (hLL : L ≤ 3072) (hI : REL n σ) (K : ∀ σ : HS, REL (n + 1) σ → AW ids ad ca Γ 1338 [some (.ref b), some (.ref (ad 0)), some (.ref (ad 236)), some (.int i)] [] σ) : AW ids ad ca Γ 394 [some (.ref b), some (.ref (ad 0)), some (.ref (ad 236)), some (.int i)] [] σ := by
  refine a_aload_n C dL_law_394 (i := 1) rfl rfl ?_
  refine a_aload_n C dL_law_395 (i := 0) rfl rfl ?_
  refine a_iload_n C dL_law_396 (i := 3) rfl rfl ?_
  refine s_iconst C dL_law_397 (1) (by decide) (fun z121 h122 => ?_)
  refine s_iadd C dL_law_398 (by omega) (fun z123 h124 => ?_)
  refine s_sld C X (by omega) (by omega) dL_law_399 (fun m125 h126 => ?_)
  refine a_aload_n C dL_law_400 (i := 0) rfl rfl ?_
  refine a_iload_n C dL_law_401 (i := 3) rfl rfl ?_
  refine s_iconst C dL_law_402 (2) (by decide) (fun z127 h128 => ?_)
  refine s_iadd C dL_law_403 (by omega) (fun z129 h130 => ?_)
  refine s_sld C X (by omega) (by omega) dL_law_404 (fun m131 h132 => ?_)
  refine a_aload_n C dL_law_405 (i := 0) rfl rfl ?_
  refine a_iload_n C dL_law_406 (i := 3) rfl rfl ?_
  refine s_iconst C dL_law_407 (3) (by decide) (fun z133 h134 => ?_)
  refine s_iadd C dL_law_408 (by omega) (fun z135 h136 => ?_)
  refine s_sld C X (by omega) (by omega) dL_law_409 (fun m137 h138 => ?_)
  have hS : SIM n (f_X11_tells (xs m125) (xs m131) (xs m137)) (f_X12_tells (xs m125) (xs m131) (xs m137)) := sim_tells
  obtain ⟨r9, s9, s8, ec, em, hN⟩ := hS σ hI
  refine a_callVi C (i := 0) kd_0 (hid 0 (by decide)) ⟨_, _, rfl⟩ (by decide) (Z_X11_tells hid ec) mi_X11_tells ml_RL_41 rfl rfl (Nat.le_of_ble_eq_true rfl) (Nat.le_of_ble_eq_true rfl) (Nat.le_of_ble_eq_true rfl) dL_law_410 (fun r σ1 q1 => ?_)
  obtain ⟨er, es⟩ := q1
  subst es
  subst er
  refine a_pop C dL_law_413 rfl ?_
  refine a_aload_n C dL_law_414 (i := 2) rfl rfl ?_
  refine a_aload_n C dL_law_415 (i := 0) rfl rfl ?_
  refine a_iload_n C dL_law_416 (i := 3) rfl rfl ?_
  refine s_iconst C dL_law_417 (1) (by decide) (fun z139 h140 => ?_)
  refine s_iadd C dL_law_418 (by omega) (fun z141 h142 => ?_)
  refine s_sld C X (by omega) (by omega) dL_law_419 (fun m143 h144 => ?_)
  refine a_aload_n C dL_law_420 (i := 0) rfl rfl ?_
  refine a_iload_n C dL_law_421 (i := 3) rfl rfl ?_
  refine s_iconst C dL_law_422 (2) (by decide) (fun z145 h146 => ?_)
  refine s_iadd C dL_law_423 (by omega) (fun z147 h148 => ?_)
  refine s_sld C X (by omega) (by omega) dL_law_424 (fun m149 h150 => ?_)
  refine a_aload_n C dL_law_425 (i := 0) rfl rfl ?_
  refine a_iload_n C dL_law_426 (i := 3) rfl rfl ?_
  refine s_iconst C dL_law_427 (3) (by decide) (fun z151 h152 => ?_)
  refine s_iadd C dL_law_428 (by omega) (fun z153 h154 => ?_)
  refine s_sld C X (by omega) (by omega) dL_law_429 (fun m155 h156 => ?_)
  obtain rfl : m143 = m125 := by omega
  obtain rfl : m149 = m131 := by omega
  obtain rfl : m155 = m137 := by omega
  refine a_callVi C (i := 236) kd_236 (hid 236 (by decide)) ⟨_, _, rfl⟩ (by decide) (Z_X12_tells hid em) mi_X12_tells ml_RL_45 rfl rfl (Nat.le_of_ble_eq_true rfl) (Nat.le_of_ble_eq_true rfl) (Nat.le_of_ble_eq_true rfl) dL_law_430 (fun r2 σ2 q2 => ?_)
  obtain ⟨er2, es2⟩ := q2
  subst es2
  subst er2
  refine a_pop C dL_law_433 rfl ?_
  exact a_goto C dL_law_434 (tgt := 1338) rfl (K _ hN)
set_option maxHeartbeats 4000000 in
set_option maxRecDepth 100000 in
theorem la_7 {Γ : GT} {ids : List Nat} {ad : Nat → Nat} {ca : Nat → ClassId} {l0 : Launch} {D0 : va_G} {b L n : Nat} {i : Int32} {xs : Nat → Int32} {σ : HS} {K9 : (Nat → Nat) × (Nat → Nat)} (C : CT ids ad ca Γ code RL l0 D0 2048 84000 4) (X : SX Γ b L xs) (E9 : SG K9 Γ) (hid : ∀ i, i < 277 → i ∈ ids) (hi : i.toInt = 6 * (n : Int)) (hL : 6 * n + 6 ≤ L) (hLL : L ≤ 3072) (hI : REL n σ) (K : ∀ σ : HS, REL (n + 1) σ → AW ids ad ca Γ 1338 [some (.ref b), some (.ref (ad 0)), some (.ref (ad 236)), some (.int i)] [] σ) : AW ids ad ca Γ 437 [some (.ref b), some (.ref (ad 0)), some (.ref (ad 236)), some (.int i)] [] σ := by
  refine a_aload_n C dL_law_437 (i := 1) rfl rfl ?_
  refine a_aload_n C dL_law_438 (i := 0) rfl rfl ?_
  refine a_iload_n C dL_law_439 (i := 3) rfl rfl ?_
  refine s_iconst C dL_law_440 (1) (by decide) (fun z157 h158 => ?_)
  refine s_iadd C dL_law_441 (by omega) (fun z159 h160 => ?_)
  refine s_sld C X (by omega) (by omega) dL_law_442 (fun m161 h162 => ?_)
  refine a_aload_n C dL_law_443 (i := 0) rfl rfl ?_
  refine a_iload_n C dL_law_444 (i := 3) rfl rfl ?_
  refine s_iconst C dL_law_445 (2) (by decide) (fun z163 h164 => ?_)
  refine s_iadd C dL_law_446 (by omega) (fun z165 h166 => ?_)
  refine s_sld C X (by omega) (by omega) dL_law_447 (fun m167 h168 => ?_)
  have hS : SIM n (f_X11_throwIn (xs m161) (xs m167)) (f_X12_throwIn (xs m161) (xs m167)) := sim_throwIn
  obtain ⟨r9, s9, s8, ec, em, hN⟩ := hS σ hI
  refine a_callVi C (i := 0) kd_0 (hid 0 (by decide)) ⟨_, _, rfl⟩ (by decide) (Z_X11_throwIn hid ec) mi_X11_throwIn ml_RL_46 rfl rfl (Nat.le_of_ble_eq_true rfl) (Nat.le_of_ble_eq_true rfl) (Nat.le_of_ble_eq_true rfl) dL_law_448 (fun r σ1 q1 => ?_)
  obtain ⟨er, es⟩ := q1
  subst es
  subst er
  refine a_pop C dL_law_451 rfl ?_
  refine a_aload_n C dL_law_452 (i := 2) rfl rfl ?_
  refine a_aload_n C dL_law_453 (i := 0) rfl rfl ?_
  refine a_iload_n C dL_law_454 (i := 3) rfl rfl ?_
  refine s_iconst C dL_law_455 (1) (by decide) (fun z169 h170 => ?_)
  refine s_iadd C dL_law_456 (by omega) (fun z171 h172 => ?_)
  refine s_sld C X (by omega) (by omega) dL_law_457 (fun m173 h174 => ?_)
  refine a_aload_n C dL_law_458 (i := 0) rfl rfl ?_
  refine a_iload_n C dL_law_459 (i := 3) rfl rfl ?_
  refine s_iconst C dL_law_460 (2) (by decide) (fun z175 h176 => ?_)
  refine s_iadd C dL_law_461 (by omega) (fun z177 h178 => ?_)
  refine s_sld C X (by omega) (by omega) dL_law_462 (fun m179 h180 => ?_)
  obtain rfl : m173 = m161 := by omega
  obtain rfl : m179 = m167 := by omega
  refine a_callVi C (i := 236) kd_236 (hid 236 (by decide)) ⟨_, _, rfl⟩ (by decide) (Z_X12_throwIn hid em) mi_X12_throwIn ml_RL_50 rfl rfl (Nat.le_of_ble_eq_true rfl) (Nat.le_of_ble_eq_true rfl) (Nat.le_of_ble_eq_true rfl) dL_law_463 (fun r2 σ2 q2 => ?_)
  obtain ⟨er2, es2⟩ := q2
  subst es2
  subst er2
  refine a_pop C dL_law_466 rfl ?_
  exact a_goto C dL_law_467 (tgt := 1338) rfl (K _ hN)
set_option maxHeartbeats 4000000 in
set_option maxRecDepth 100000 in
theorem la_8 {Γ : GT} {ids : List Nat} {ad : Nat → Nat} {ca : Nat → ClassId} {l0 : Launch} {D0 : va_G} {b L n : Nat} {i : Int32} {xs : Nat → Int32} {σ : HS} {K9 : (Nat → Nat) × (Nat → Nat)} (C : CT ids ad ca Γ code RL l0 D0 2048 84000 4) (X : SX Γ b L xs) (E9 : SG K9 Γ) (hid : ∀ i, i < 277 → i ∈ ids) (hi : i.toInt = 6 * (n : Int)) (hL : 6 * n + 6 ≤ L) (hLL : L ≤ 3072) (hI : REL n σ) (K : ∀ σ : HS, REL (n + 1) σ → AW ids ad ca Γ 1338 [some (.ref b), some (.ref (ad 0)), some (.ref (ad 236)), some (.int i)] [] σ) : AW ids ad ca Γ 470 [some (.ref b), some (.ref (ad 0)), some (.ref (ad 236)), some (.int i)] [] σ := by
  refine a_aload_n C dL_law_470 (i := 1) rfl rfl ?_
  refine a_aload_n C dL_law_471 (i := 0) rfl rfl ?_
  refine a_iload_n C dL_law_472 (i := 3) rfl rfl ?_
  refine s_iconst C dL_law_473 (1) (by decide) (fun z181 h182 => ?_)
  refine s_iadd C dL_law_474 (by omega) (fun z183 h184 => ?_)
  refine s_sld C X (by omega) (by omega) dL_law_475 (fun m185 h186 => ?_)
  have hS : SIM n (f_X11_use (xs m185)) (f_X12_use (xs m185)) := sim_use
  obtain ⟨r9, s9, s8, ec, em, hN⟩ := hS σ hI
  refine a_callVi C (i := 0) kd_0 (hid 0 (by decide)) ⟨_, _, rfl⟩ (by decide) (Z_X11_use hid ec) mi_X11_use ml_RL_51 rfl rfl (Nat.le_of_ble_eq_true rfl) (Nat.le_of_ble_eq_true rfl) (Nat.le_of_ble_eq_true rfl) dL_law_476 (fun r σ1 q1 => ?_)
  obtain ⟨er, es⟩ := q1
  subst es
  subst er
  refine a_pop C dL_law_479 rfl ?_
  refine a_aload_n C dL_law_480 (i := 2) rfl rfl ?_
  refine a_aload_n C dL_law_481 (i := 0) rfl rfl ?_
  refine a_iload_n C dL_law_482 (i := 3) rfl rfl ?_
  refine s_iconst C dL_law_483 (1) (by decide) (fun z187 h188 => ?_)
  refine s_iadd C dL_law_484 (by omega) (fun z189 h190 => ?_)
  refine s_sld C X (by omega) (by omega) dL_law_485 (fun m191 h192 => ?_)
  obtain rfl : m191 = m185 := by omega
  refine a_callVi C (i := 236) kd_236 (hid 236 (by decide)) ⟨_, _, rfl⟩ (by decide) (Z_X12_use hid em) mi_X12_use ml_RL_55 rfl rfl (Nat.le_of_ble_eq_true rfl) (Nat.le_of_ble_eq_true rfl) (Nat.le_of_ble_eq_true rfl) dL_law_486 (fun r2 σ2 q2 => ?_)
  obtain ⟨er2, es2⟩ := q2
  subst es2
  subst er2
  refine a_pop C dL_law_489 rfl ?_
  exact a_goto C dL_law_490 (tgt := 1338) rfl (K _ hN)
set_option maxHeartbeats 4000000 in
set_option maxRecDepth 100000 in
theorem la_9 {Γ : GT} {ids : List Nat} {ad : Nat → Nat} {ca : Nat → ClassId} {l0 : Launch} {D0 : va_G} {b L n : Nat} {i : Int32} {xs : Nat → Int32} {σ : HS} {K9 : (Nat → Nat) × (Nat → Nat)} (C : CT ids ad ca Γ code RL l0 D0 2048 84000 4) (X : SX Γ b L xs) (E9 : SG K9 Γ) (hid : ∀ i, i < 277 → i ∈ ids) (hi : i.toInt = 6 * (n : Int)) (hL : 6 * n + 6 ≤ L) (hLL : L ≤ 3072) (hI : REL n σ) (K : ∀ σ : HS, REL (n + 1) σ → AW ids ad ca Γ 1338 [some (.ref b), some (.ref (ad 0)), some (.ref (ad 236)), some (.int i)] [] σ) : AW ids ad ca Γ 493 [some (.ref b), some (.ref (ad 0)), some (.ref (ad 236)), some (.int i)] [] σ := by
  refine a_aload_n C dL_law_493 (i := 1) rfl rfl ?_
  refine a_aload_n C dL_law_494 (i := 0) rfl rfl ?_
  refine a_iload_n C dL_law_495 (i := 3) rfl rfl ?_
  refine s_iconst C dL_law_496 (1) (by decide) (fun z193 h194 => ?_)
  refine s_iadd C dL_law_497 (by omega) (fun z195 h196 => ?_)
  refine s_sld C X (by omega) (by omega) dL_law_498 (fun m197 h198 => ?_)
  have hS : SIM n (f_X11_set (xs m197)) (f_X12_set (xs m197)) := sim_set
  obtain ⟨r9, s9, s8, ec, em, hN⟩ := hS σ hI
  refine a_callVi C (i := 0) kd_0 (hid 0 (by decide)) ⟨_, _, rfl⟩ (by decide) (Z_X11_set hid ec) mi_X11_set ml_RL_56 rfl rfl (Nat.le_of_ble_eq_true rfl) (Nat.le_of_ble_eq_true rfl) (Nat.le_of_ble_eq_true rfl) dL_law_499 (fun r σ1 q1 => ?_)
  obtain ⟨er, es⟩ := q1
  subst es
  subst er
  refine a_pop C dL_law_502 rfl ?_
  refine a_aload_n C dL_law_503 (i := 2) rfl rfl ?_
  refine a_aload_n C dL_law_504 (i := 0) rfl rfl ?_
  refine a_iload_n C dL_law_505 (i := 3) rfl rfl ?_
  refine s_iconst C dL_law_506 (1) (by decide) (fun z199 h200 => ?_)
  refine s_iadd C dL_law_507 (by omega) (fun z201 h202 => ?_)
  refine s_sld C X (by omega) (by omega) dL_law_508 (fun m203 h204 => ?_)
  obtain rfl : m203 = m197 := by omega
  refine a_callVi C (i := 236) kd_236 (hid 236 (by decide)) ⟨_, _, rfl⟩ (by decide) (Z_X12_set hid em) mi_X12_set ml_RL_59 rfl rfl (Nat.le_of_ble_eq_true rfl) (Nat.le_of_ble_eq_true rfl) (Nat.le_of_ble_eq_true rfl) dL_law_509 (fun r2 σ2 q2 => ?_)
  obtain ⟨er2, es2⟩ := q2
  subst es2
  subst er2
  refine a_pop C dL_law_512 rfl ?_
  exact a_goto C dL_law_513 (tgt := 1338) rfl (K _ hN)
set_option maxHeartbeats 4000000 in
set_option maxRecDepth 100000 in
theorem la_10 {Γ : GT} {ids : List Nat} {ad : Nat → Nat} {ca : Nat → ClassId} {l0 : Launch} {D0 : va_G} {b L n : Nat} {i : Int32} {xs : Nat → Int32} {σ : HS} {K9 : (Nat → Nat) × (Nat → Nat)} (C : CT ids ad ca Γ code RL l0 D0 2048 84000 4) (X : SX Γ b L xs) (E9 : SG K9 Γ) (hid : ∀ i, i < 277 → i ∈ ids) (hi : i.toInt = 6 * (n : Int)) (hL : 6 * n + 6 ≤ L) (hLL : L ≤ 3072) (hI : REL n σ) (K : ∀ σ : HS, REL (n + 1) σ → AW ids ad ca Γ 1338 [some (.ref b), some (.ref (ad 0)), some (.ref (ad 236)), some (.int i)] [] σ) : AW ids ad ca Γ 516 [some (.ref b), some (.ref (ad 0)), some (.ref (ad 236)), some (.int i)] [] σ := by
  refine a_aload_n C dL_law_516 (i := 1) rfl rfl ?_
  refine a_aload_n C dL_law_517 (i := 0) rfl rfl ?_
  refine a_iload_n C dL_law_518 (i := 3) rfl rfl ?_
  refine s_iconst C dL_law_519 (1) (by decide) (fun z205 h206 => ?_)
  refine s_iadd C dL_law_520 (by omega) (fun z207 h208 => ?_)
  refine s_sld C X (by omega) (by omega) dL_law_521 (fun m209 h210 => ?_)
  have hS : SIM n (f_X11_beats (xs m209)) (f_X12_beats (xs m209)) := sim_beats (by omega)
  obtain ⟨r9, s9, s8, ec, em, hN⟩ := hS σ hI
  refine a_callVi C (i := 0) kd_0 (hid 0 (by decide)) ⟨_, _, rfl⟩ (by decide) (Z_X11_beats hid ec) mi_X11_beats ml_RL_60 rfl rfl (Nat.le_of_ble_eq_true rfl) (Nat.le_of_ble_eq_true rfl) (Nat.le_of_ble_eq_true rfl) dL_law_522 (fun r σ1 q1 => ?_)
  obtain ⟨er, es⟩ := q1
  subst es
  subst er
  refine a_pop C dL_law_525 rfl ?_
  refine a_aload_n C dL_law_526 (i := 2) rfl rfl ?_
  refine a_aload_n C dL_law_527 (i := 0) rfl rfl ?_
  refine a_iload_n C dL_law_528 (i := 3) rfl rfl ?_
  refine s_iconst C dL_law_529 (1) (by decide) (fun z211 h212 => ?_)
  refine s_iadd C dL_law_530 (by omega) (fun z213 h214 => ?_)
  refine s_sld C X (by omega) (by omega) dL_law_531 (fun m215 h216 => ?_)
  obtain rfl : m215 = m209 := by omega
  refine a_callVi C (i := 236) kd_236 (hid 236 (by decide)) ⟨_, _, rfl⟩ (by decide) (Z_X12_beats hid em) mi_X12_beats ml_RL_63 rfl rfl (Nat.le_of_ble_eq_true rfl) (Nat.le_of_ble_eq_true rfl) (Nat.le_of_ble_eq_true rfl) dL_law_532 (fun r2 σ2 q2 => ?_)
  obtain ⟨er2, es2⟩ := q2
  subst es2
  subst er2
  refine a_pop C dL_law_535 rfl ?_
  exact a_goto C dL_law_536 (tgt := 1338) rfl (K _ hN)
set_option maxHeartbeats 4000000 in
set_option maxRecDepth 100000 in
theorem la_11 {Γ : GT} {ids : List Nat} {ad : Nat → Nat} {ca : Nat → ClassId} {l0 : Launch} {D0 : va_G} {b L n : Nat} {i : Int32} {xs : Nat → Int32} {σ : HS} {K9 : (Nat → Nat) × (Nat → Nat)} (C : CT ids ad ca Γ code RL l0 D0 2048 84000 4) (X : SX Γ b L xs) (E9 : SG K9 Γ) (hid : ∀ i, i < 277 → i ∈ ids) (hi : i.toInt = 6 * (n : Int)) (hL : 6 * n + 6 ≤ L) (hLL : L ≤ 3072) (hI : REL n σ) (K : ∀ σ : HS, REL (n + 1) σ → AW ids ad ca Γ 1338 [some (.ref b), some (.ref (ad 0)), some (.ref (ad 236)), some (.int i)] [] σ) : AW ids ad ca Γ 539 [some (.ref b), some (.ref (ad 0)), some (.ref (ad 236)), some (.int i)] [] σ := by
  refine a_aload_n C dL_law_539 (i := 1) rfl rfl ?_
  have hS : SIM n (f_X11_undo) (f_X12_undo) := sim_undo
  obtain ⟨r9, s9, s8, ec, em, hN⟩ := hS σ hI
  refine a_callVi C (i := 0) kd_0 (hid 0 (by decide)) ⟨_, _, rfl⟩ (by decide) (Z_X11_undo hid ec) mi_X11_undo ml_RL_64 rfl rfl (Nat.le_of_ble_eq_true rfl) (Nat.le_of_ble_eq_true rfl) (Nat.le_of_ble_eq_true rfl) dL_law_540 (fun r σ1 q1 => ?_)
  obtain ⟨er, es⟩ := q1
  subst es
  subst er
  refine a_pop C dL_law_543 rfl ?_
  refine a_aload_n C dL_law_544 (i := 2) rfl rfl ?_
  refine a_callVi C (i := 236) kd_236 (hid 236 (by decide)) ⟨_, _, rfl⟩ (by decide) (Z_X12_undo hid em) mi_X12_undo ml_RL_68 rfl rfl (Nat.le_of_ble_eq_true rfl) (Nat.le_of_ble_eq_true rfl) (Nat.le_of_ble_eq_true rfl) dL_law_545 (fun r2 σ2 q2 => ?_)
  obtain ⟨er2, es2⟩ := q2
  subst es2
  subst er2
  refine a_pop C dL_law_548 rfl ?_
  exact a_goto C dL_law_549 (tgt := 1338) rfl (K _ hN)
set_option maxHeartbeats 4000000 in
set_option maxRecDepth 100000 in
theorem la_12 {Γ : GT} {ids : List Nat} {ad : Nat → Nat} {ca : Nat → ClassId} {l0 : Launch} {D0 : va_G} {b L n : Nat} {i : Int32} {xs : Nat → Int32} {σ : HS} {K9 : (Nat → Nat) × (Nat → Nat)} (C : CT ids ad ca Γ code RL l0 D0 2048 84000 4) (X : SX Γ b L xs) (E9 : SG K9 Γ) (hid : ∀ i, i < 277 → i ∈ ids) (hi : i.toInt = 6 * (n : Int)) (hL : 6 * n + 6 ≤ L) (hLL : L ≤ 3072) (hI : REL n σ) (K : ∀ σ : HS, REL (n + 1) σ → AW ids ad ca Γ 1338 [some (.ref b), some (.ref (ad 0)), some (.ref (ad 236)), some (.int i)] [] σ) : AW ids ad ca Γ 552 [some (.ref b), some (.ref (ad 0)), some (.ref (ad 236)), some (.int i)] [] σ := by
  refine a_aload_n C dL_law_552 (i := 1) rfl rfl ?_
  refine a_aload_n C dL_law_553 (i := 0) rfl rfl ?_
  refine a_iload_n C dL_law_554 (i := 3) rfl rfl ?_
  refine s_iconst C dL_law_555 (1) (by decide) (fun z217 h218 => ?_)
  refine s_iadd C dL_law_556 (by omega) (fun z219 h220 => ?_)
  refine s_sld C X (by omega) (by omega) dL_law_557 (fun m221 h222 => ?_)
  refine a_aload_n C dL_law_558 (i := 0) rfl rfl ?_
  refine a_iload_n C dL_law_559 (i := 3) rfl rfl ?_
  refine s_iconst C dL_law_560 (2) (by decide) (fun z223 h224 => ?_)
  refine s_iadd C dL_law_561 (by omega) (fun z225 h226 => ?_)
  refine s_sld C X (by omega) (by omega) dL_law_562 (fun m227 h228 => ?_)
  have hS : SIM n (f_X11_closes (xs m221) (xs m227)) (f_X12_closes (xs m221) (xs m227)) := sim_closes
  obtain ⟨r9, s9, s8, ec, em, hN⟩ := hS σ hI
  refine a_callVi C (i := 0) kd_0 (hid 0 (by decide)) ⟨_, _, rfl⟩ (by decide) (Z_X11_closes hid ec) mi_X11_closes ml_RL_69 rfl rfl (Nat.le_of_ble_eq_true rfl) (Nat.le_of_ble_eq_true rfl) (Nat.le_of_ble_eq_true rfl) dL_law_563 (fun r σ1 q1 => ?_)
  obtain ⟨er, es⟩ := q1
  subst es
  subst er
  refine a_pop C dL_law_566 rfl ?_
  refine a_aload_n C dL_law_567 (i := 2) rfl rfl ?_
  refine a_aload_n C dL_law_568 (i := 0) rfl rfl ?_
  refine a_iload_n C dL_law_569 (i := 3) rfl rfl ?_
  refine s_iconst C dL_law_570 (1) (by decide) (fun z229 h230 => ?_)
  refine s_iadd C dL_law_571 (by omega) (fun z231 h232 => ?_)
  refine s_sld C X (by omega) (by omega) dL_law_572 (fun m233 h234 => ?_)
  refine a_aload_n C dL_law_573 (i := 0) rfl rfl ?_
  refine a_iload_n C dL_law_574 (i := 3) rfl rfl ?_
  refine s_iconst C dL_law_575 (2) (by decide) (fun z235 h236 => ?_)
  refine s_iadd C dL_law_576 (by omega) (fun z237 h238 => ?_)
  refine s_sld C X (by omega) (by omega) dL_law_577 (fun m239 h240 => ?_)
  obtain rfl : m233 = m221 := by omega
  obtain rfl : m239 = m227 := by omega
  refine a_callVi C (i := 236) kd_236 (hid 236 (by decide)) ⟨_, _, rfl⟩ (by decide) (Z_X12_closes hid em) mi_X12_closes ml_RL_72 rfl rfl (Nat.le_of_ble_eq_true rfl) (Nat.le_of_ble_eq_true rfl) (Nat.le_of_ble_eq_true rfl) dL_law_578 (fun r2 σ2 q2 => ?_)
  obtain ⟨er2, es2⟩ := q2
  subst es2
  subst er2
  refine a_pop C dL_law_581 rfl ?_
  exact a_goto C dL_law_582 (tgt := 1338) rfl (K _ hN)
set_option maxHeartbeats 4000000 in
set_option maxRecDepth 100000 in
theorem la_13 {Γ : GT} {ids : List Nat} {ad : Nat → Nat} {ca : Nat → ClassId} {l0 : Launch} {D0 : va_G} {b L n : Nat} {i : Int32} {xs : Nat → Int32} {σ : HS} {K9 : (Nat → Nat) × (Nat → Nat)} (C : CT ids ad ca Γ code RL l0 D0 2048 84000 4) (X : SX Γ b L xs) (E9 : SG K9 Γ) (hid : ∀ i, i < 277 → i ∈ ids) (hi : i.toInt = 6 * (n : Int)) (hL : 6 * n + 6 ≤ L) (hLL : L ≤ 3072) (hI : REL n σ) (K : ∀ σ : HS, REL (n + 1) σ → AW ids ad ca Γ 1338 [some (.ref b), some (.ref (ad 0)), some (.ref (ad 236)), some (.int i)] [] σ) : AW ids ad ca Γ 585 [some (.ref b), some (.ref (ad 0)), some (.ref (ad 236)), some (.int i)] [] σ := by
  refine a_aload_n C dL_law_585 (i := 1) rfl rfl ?_
  have hS : SIM n (f_X11_lands) (f_X12_lands) := sim_lands
  obtain ⟨r9, s9, s8, ec, em, hN⟩ := hS σ hI
  refine a_callVi C (i := 0) kd_0 (hid 0 (by decide)) ⟨_, _, rfl⟩ (by decide) (Z_X11_lands hid ec) mi_X11_lands ml_RL_73 rfl rfl (Nat.le_of_ble_eq_true rfl) (Nat.le_of_ble_eq_true rfl) (Nat.le_of_ble_eq_true rfl) dL_law_586 (fun r σ1 q1 => ?_)
  obtain ⟨er, es⟩ := q1
  subst es
  subst er
  refine a_pop C dL_law_589 rfl ?_
  refine a_aload_n C dL_law_590 (i := 2) rfl rfl ?_
  refine a_callVi C (i := 236) kd_236 (hid 236 (by decide)) ⟨_, _, rfl⟩ (by decide) (Z_X12_lands hid em) mi_X12_lands ml_RL_76 rfl rfl (Nat.le_of_ble_eq_true rfl) (Nat.le_of_ble_eq_true rfl) (Nat.le_of_ble_eq_true rfl) dL_law_591 (fun r2 σ2 q2 => ?_)
  obtain ⟨er2, es2⟩ := q2
  subst es2
  subst er2
  refine a_pop C dL_law_594 rfl ?_
  exact a_goto C dL_law_595 (tgt := 1338) rfl (K _ hN)
