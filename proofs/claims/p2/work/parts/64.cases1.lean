set_option maxHeartbeats 4000000 in
set_option maxRecDepth 100000 in
theorem la_0 {Γ : GT} {ids : List Nat} {ad : Nat → Nat} {ca : Nat → ClassId} {l0 : Launch} {D0 : va_G} {b L n : Nat} {i : Int32} {xs : Nat → Int32} {σ : HS} {K9 : (Nat → Nat) × (Nat → Nat)} (C : CT ids ad ca Γ code RL l0 D0 2048 84000 4) (X : SX Γ b L xs) (E9 : SG K9 Γ) (hid : ∀ i, i < 277 → i ∈ ids) (hi : i.toInt = 6 * (n : Int)) (hL : 6 * n + 6 ≤ L) (hLL : L ≤ 3072) (hI : LI n σ) (K : ∀ σ : HS, LI (n + 1) σ → AW ids ad ca Γ 1338 [some (.ref b), some (.ref (ad 0)), some (.ref (ad 236)), some (.int i)] [] σ) : AW ids ad ca Γ 216 [some (.ref b), some (.ref (ad 0)), some (.ref (ad 236)), some (.int i)] [] σ := by
  refine a_aload_n C dL_law_216 (i := 1) rfl rfl ?_
  refine a_aload_n C dL_law_217 (i := 0) rfl rfl ?_
  refine a_iload_n C dL_law_218 (i := 3) rfl rfl ?_
  refine s_iconst C dL_law_219 (1) (by decide) (fun z1 h2 => ?_)
  refine s_iadd C dL_law_220 (by omega) (fun z3 h4 => ?_)
  refine s_sld C X (by omega) (by omega) dL_law_221 (fun v5 => ?_)
  refine a_aload_n C dL_law_222 (i := 0) rfl rfl ?_
  refine a_iload_n C dL_law_223 (i := 3) rfl rfl ?_
  refine s_iconst C dL_law_224 (2) (by decide) (fun z6 h7 => ?_)
  refine s_iadd C dL_law_225 (by omega) (fun z8 h9 => ?_)
  refine s_sld C X (by omega) (by omega) dL_law_226 (fun v10 => ?_)
  refine a_aload_n C dL_law_227 (i := 0) rfl rfl ?_
  refine a_iload_n C dL_law_228 (i := 3) rfl rfl ?_
  refine s_iconst C dL_law_229 (3) (by decide) (fun z11 h12 => ?_)
  refine s_iadd C dL_law_230 (by omega) (fun z13 h14 => ?_)
  refine s_sld C X (by omega) (by omega) dL_law_231 (fun v15 => ?_)
  refine a_aload_n C dL_law_232 (i := 0) rfl rfl ?_
  refine a_iload_n C dL_law_233 (i := 3) rfl rfl ?_
  refine s_iconst C dL_law_234 (4) (by decide) (fun z16 h17 => ?_)
  refine s_iadd C dL_law_235 (by omega) (fun z18 h19 => ?_)
  refine s_sld C X (by omega) (by omega) dL_law_236 (fun v20 => ?_)
  refine a_aload_n C dL_law_237 (i := 0) rfl rfl ?_
  refine a_iload_n C dL_law_238 (i := 3) rfl rfl ?_
  refine s_iconst C dL_law_239 (5) (by decide) (fun z21 h22 => ?_)
  refine s_iadd C dL_law_240 (by omega) (fun z23 h24 => ?_)
  refine s_sld C X (by omega) (by omega) dL_law_241 (fun v25 => ?_)
  refine a_callVi C (i := 0) kd_0 (hid 0 (by decide)) ⟨_, _, rfl⟩ (by decide) (E_X11_feed (x1 := v5) (x2 := v10) (x3 := v15) (x4 := v20) (x5 := v25) hid hI.1) mi_X11_feed ml_RL_13 rfl rfl (Nat.le_of_ble_eq_true rfl) (Nat.le_of_ble_eq_true rfl) (Nat.le_of_ble_eq_true rfl) dL_law_242 (fun r σ1 q1 => ?_)
  obtain ⟨hG1, ho1, hF1⟩ := q1
  refine a_aload_n C dL_law_245 (i := 2) rfl rfl ?_
  refine a_aload_n C dL_law_246 (i := 0) rfl rfl ?_
  refine a_iload_n C dL_law_247 (i := 3) rfl rfl ?_
  refine s_iconst C dL_law_248 (1) (by decide) (fun z26 h27 => ?_)
  refine s_iadd C dL_law_249 (by omega) (fun z28 h29 => ?_)
  refine s_sld C X (by omega) (by omega) dL_law_250 (fun v30 => ?_)
  refine a_aload_n C dL_law_251 (i := 0) rfl rfl ?_
  refine a_iload_n C dL_law_252 (i := 3) rfl rfl ?_
  refine s_iconst C dL_law_253 (2) (by decide) (fun z31 h32 => ?_)
  refine s_iadd C dL_law_254 (by omega) (fun z33 h34 => ?_)
  refine s_sld C X (by omega) (by omega) dL_law_255 (fun v35 => ?_)
  refine a_aload_n C dL_law_256 (i := 0) rfl rfl ?_
  refine a_iload_n C dL_law_257 (i := 3) rfl rfl ?_
  refine s_iconst C dL_law_258 (3) (by decide) (fun z36 h37 => ?_)
  refine s_iadd C dL_law_259 (by omega) (fun z38 h39 => ?_)
  refine s_sld C X (by omega) (by omega) dL_law_260 (fun v40 => ?_)
  refine a_aload_n C dL_law_261 (i := 0) rfl rfl ?_
  refine a_iload_n C dL_law_262 (i := 3) rfl rfl ?_
  refine s_iconst C dL_law_263 (4) (by decide) (fun z41 h42 => ?_)
  refine s_iadd C dL_law_264 (by omega) (fun z43 h44 => ?_)
  refine s_sld C X (by omega) (by omega) dL_law_265 (fun v45 => ?_)
  refine a_aload_n C dL_law_266 (i := 0) rfl rfl ?_
  refine a_iload_n C dL_law_267 (i := 3) rfl rfl ?_
  refine s_iconst C dL_law_268 (5) (by decide) (fun z46 h47 => ?_)
  refine s_iadd C dL_law_269 (by omega) (fun z48 h49 => ?_)
  refine s_sld C X (by omega) (by omega) dL_law_270 (fun v50 => ?_)
  have hb1 := (hI.2.2.1.1 (236, 2, 0, 2000) (by decide))
  have e6 : σ1.1 236 2 = σ.1 236 2 := congrFun (ho1.1 236 (by decide)).1 2
  have hb2 : 0 ≤ (σ1.1 236 2).toInt ∧ (σ1.1 236 2).toInt ≤ 2000 := by rw [e6]; exact hb1
  refine a_callVi C (i := 236) kd_236 (hid 236 (by decide)) ⟨_, _, rfl⟩ (by decide) (E_X12_feed (x1 := v30) (x2 := v35) (x3 := v40) (x4 := v45) (x5 := v50) hid hb2) mi_X12_feed ml_RL_17 rfl rfl (Nat.le_of_ble_eq_true rfl) (Nat.le_of_ble_eq_true rfl) (Nat.le_of_ble_eq_true rfl) dL_law_271 (fun r2 σ2 q2 => ?_)
  obtain ⟨hM2, hF2⟩ := q2
  have ea : σ1.1 236 2 = σ.1 2 1 := by rw [e6]; exact (Int32.toInt_inj.mp hI.2.2.2.2).symm
  have hF3 := hF2
  rw [ea] at hF3
  have hs := hF1.same hF3
  have hN : LI (n + 1) σ2 := hI.tape (by omega) hG1 ho1 hM2 (hF2.rg hb2) hs.1
  refine a_ic_eq C dL_law_274 (tgt := 1338) rfl (fun _ => K σ2 hN) (fun h => absurd hs.2 h)
set_option maxHeartbeats 4000000 in
set_option maxRecDepth 100000 in
theorem la_1 {Γ : GT} {ids : List Nat} {ad : Nat → Nat} {ca : Nat → ClassId} {l0 : Launch} {D0 : va_G} {b L n : Nat} {i : Int32} {xs : Nat → Int32} {σ : HS} {K9 : (Nat → Nat) × (Nat → Nat)} (C : CT ids ad ca Γ code RL l0 D0 2048 84000 4) (X : SX Γ b L xs) (E9 : SG K9 Γ) (hid : ∀ i, i < 277 → i ∈ ids) (hi : i.toInt = 6 * (n : Int)) (hL : 6 * n + 6 ≤ L) (hLL : L ≤ 3072) (hI : LI n σ) (K : ∀ σ : HS, LI (n + 1) σ → AW ids ad ca Γ 1338 [some (.ref b), some (.ref (ad 0)), some (.ref (ad 236)), some (.int i)] [] σ) : AW ids ad ca Γ 279 [some (.ref b), some (.ref (ad 0)), some (.ref (ad 236)), some (.int i)] [] σ := by
  refine a_aload_n C dL_law_279 (i := 1) rfl rfl ?_
  refine a_aload_n C dL_law_280 (i := 0) rfl rfl ?_
  refine a_iload_n C dL_law_281 (i := 3) rfl rfl ?_
  refine s_iconst C dL_law_282 (1) (by decide) (fun z51 h52 => ?_)
  refine s_iadd C dL_law_283 (by omega) (fun z53 h54 => ?_)
  refine s_sld C X (by omega) (by omega) dL_law_284 (fun v55 => ?_)
  refine a_callVi C (i := 0) kd_0 (hid 0 (by decide)) ⟨_, _, rfl⟩ (by decide) (E_X11_back (x1 := v55) hid hI.1) mi_X11_back ml_RL_18 rfl rfl (Nat.le_of_ble_eq_true rfl) (Nat.le_of_ble_eq_true rfl) (Nat.le_of_ble_eq_true rfl) dL_law_285 (fun r σ1 q1 => ?_)
  obtain ⟨hG1, ho1, hF1⟩ := q1
  refine a_pop C dL_law_288 rfl ?_
  refine a_aload_n C dL_law_289 (i := 2) rfl rfl ?_
  refine a_aload_n C dL_law_290 (i := 0) rfl rfl ?_
  refine a_iload_n C dL_law_291 (i := 3) rfl rfl ?_
  refine s_iconst C dL_law_292 (1) (by decide) (fun z56 h57 => ?_)
  refine s_iadd C dL_law_293 (by omega) (fun z58 h59 => ?_)
  refine s_sld C X (by omega) (by omega) dL_law_294 (fun v60 => ?_)
  have hb1 := (hI.2.2.1.1 (236, 2, 0, 2000) (by decide))
  have e6 : σ1.1 236 2 = σ.1 236 2 := congrFun (ho1.1 236 (by decide)).1 2
  have hb2 : 0 ≤ (σ1.1 236 2).toInt ∧ (σ1.1 236 2).toInt ≤ 2000 := by rw [e6]; exact hb1
  refine a_callVi C (i := 236) kd_236 (hid 236 (by decide)) ⟨_, _, rfl⟩ (by decide) (E_X12_back (x1 := v60) hid hb2) mi_X12_back ml_RL_22 rfl rfl (Nat.le_of_ble_eq_true rfl) (Nat.le_of_ble_eq_true rfl) (Nat.le_of_ble_eq_true rfl) dL_law_295 (fun r2 σ2 q2 => ?_)
  obtain ⟨hM2, hF2⟩ := q2
  have ea : σ1.1 236 2 = σ.1 2 1 := by rw [e6]; exact (Int32.toInt_inj.mp hI.2.2.2.2).symm
  have hF3 := hF2
  rw [ea] at hF3
  have hs := hF1.same hF3
  have hN : LI (n + 1) σ2 := hI.tape (by omega) hG1 ho1 hM2 (hF2.rg hb2) hs.1
  refine a_pop C dL_law_298 rfl ?_
  exact a_goto C dL_law_299 (tgt := 1338) rfl (K _ hN)
set_option maxHeartbeats 4000000 in
set_option maxRecDepth 100000 in
theorem la_2 {Γ : GT} {ids : List Nat} {ad : Nat → Nat} {ca : Nat → ClassId} {l0 : Launch} {D0 : va_G} {b L n : Nat} {i : Int32} {xs : Nat → Int32} {σ : HS} {K9 : (Nat → Nat) × (Nat → Nat)} (C : CT ids ad ca Γ code RL l0 D0 2048 84000 4) (X : SX Γ b L xs) (E9 : SG K9 Γ) (hid : ∀ i, i < 277 → i ∈ ids) (hi : i.toInt = 6 * (n : Int)) (hL : 6 * n + 6 ≤ L) (hLL : L ≤ 3072) (hI : LI n σ) (K : ∀ σ : HS, LI (n + 1) σ → AW ids ad ca Γ 1338 [some (.ref b), some (.ref (ad 0)), some (.ref (ad 236)), some (.int i)] [] σ) : AW ids ad ca Γ 302 [some (.ref b), some (.ref (ad 0)), some (.ref (ad 236)), some (.int i)] [] σ := by
  refine a_aload_n C dL_law_302 (i := 1) rfl rfl ?_
  refine a_cViS C E9 (i := 0) kd_0 (hid 0 (by decide)) ⟨_, _, rfl⟩ (by decide) (c_read hid hI.1 hI.2.1) mi_X11_read ml_RL_23 rfl rfl (Nat.le_of_ble_eq_true rfl) (Nat.le_of_ble_eq_true rfl) (Nat.le_of_ble_eq_true rfl) dL_law_303 (fun r σ1 q1 => ?_)
  obtain ⟨hG1, hk1, hT1, h01⟩ := q1
  refine a_pop C dL_law_306 rfl ?_
  refine a_aload_n C dL_law_307 (i := 2) rfl rfl ?_
  have hM1 := hI.2.2.1.keepM hk1
  have hR1 := hI.2.2.2.1.keepM hk1
  refine a_callVi C (i := 236) kd_236 (hid 236 (by decide)) ⟨_, _, rfl⟩ (by decide) (S_X12_read_236 (s := σ1) hid hM1 AGm.rf hR1 hM1) mi_X12_read ml_RL_27 rfl rfl (Nat.le_of_ble_eq_true rfl) (Nat.le_of_ble_eq_true rfl) (Nat.le_of_ble_eq_true rfl) dL_law_308 (fun r2 σ2 q2 => ?_)
  obtain ⟨hM2, ho2, hR2, h02⟩ := q2
  have kC := ho2.keepC (by decide)
  have hN : LI (n + 1) σ2 := ⟨hG1.keepC kC, hT1.keepC kC, hM2, hR2.mono (by omega) (by omega), by rw [(kC.1 2 (by decide)).1]; omega⟩
  refine a_pop C dL_law_311 rfl ?_
  exact a_goto C dL_law_312 (tgt := 1338) rfl (K _ hN)
set_option maxHeartbeats 4000000 in
set_option maxRecDepth 100000 in
theorem la_3 {Γ : GT} {ids : List Nat} {ad : Nat → Nat} {ca : Nat → ClassId} {l0 : Launch} {D0 : va_G} {b L n : Nat} {i : Int32} {xs : Nat → Int32} {σ : HS} {K9 : (Nat → Nat) × (Nat → Nat)} (C : CT ids ad ca Γ code RL l0 D0 2048 84000 4) (X : SX Γ b L xs) (E9 : SG K9 Γ) (hid : ∀ i, i < 277 → i ∈ ids) (hi : i.toInt = 6 * (n : Int)) (hL : 6 * n + 6 ≤ L) (hLL : L ≤ 3072) (hI : LI n σ) (K : ∀ σ : HS, LI (n + 1) σ → AW ids ad ca Γ 1338 [some (.ref b), some (.ref (ad 0)), some (.ref (ad 236)), some (.int i)] [] σ) : AW ids ad ca Γ 315 [some (.ref b), some (.ref (ad 0)), some (.ref (ad 236)), some (.int i)] [] σ := by
  refine a_aload_n C dL_law_315 (i := 1) rfl rfl ?_
  refine a_callVi C (i := 0) kd_0 (hid 0 (by decide)) ⟨_, _, rfl⟩ (by decide) (c_place hid hI.1 hI.2.1) mi_X11_place ml_RL_28 rfl rfl (Nat.le_of_ble_eq_true rfl) (Nat.le_of_ble_eq_true rfl) (Nat.le_of_ble_eq_true rfl) dL_law_316 (fun r σ1 q1 => ?_)
  obtain rfl : σ1 = σ := q1
  have hJ := hI
  refine a_pop C dL_law_319 rfl ?_
  refine a_aload_n C dL_law_320 (i := 2) rfl rfl ?_
  refine a_callVi C (i := 236) kd_236 (hid 236 (by decide)) ⟨_, _, rfl⟩ (by decide) (S_X12_place_236 hid hJ.2.2.1) mi_X12_place ml_RL_31 rfl rfl (Nat.le_of_ble_eq_true rfl) (Nat.le_of_ble_eq_true rfl) (Nat.le_of_ble_eq_true rfl) dL_law_321 (fun r2 σ2 q2 => ?_)
  obtain rfl : σ2 = σ1 := q2
  have hN := hJ.next (by omega)
  refine a_pop C dL_law_324 rfl ?_
  exact a_goto C dL_law_325 (tgt := 1338) rfl (K _ hN)
set_option maxHeartbeats 4000000 in
set_option maxRecDepth 100000 in
theorem la_4 {Γ : GT} {ids : List Nat} {ad : Nat → Nat} {ca : Nat → ClassId} {l0 : Launch} {D0 : va_G} {b L n : Nat} {i : Int32} {xs : Nat → Int32} {σ : HS} {K9 : (Nat → Nat) × (Nat → Nat)} (C : CT ids ad ca Γ code RL l0 D0 2048 84000 4) (X : SX Γ b L xs) (E9 : SG K9 Γ) (hid : ∀ i, i < 277 → i ∈ ids) (hi : i.toInt = 6 * (n : Int)) (hL : 6 * n + 6 ≤ L) (hLL : L ≤ 3072) (hI : LI n σ) (K : ∀ σ : HS, LI (n + 1) σ → AW ids ad ca Γ 1338 [some (.ref b), some (.ref (ad 0)), some (.ref (ad 236)), some (.int i)] [] σ) : AW ids ad ca Γ 328 [some (.ref b), some (.ref (ad 0)), some (.ref (ad 236)), some (.int i)] [] σ := by
  refine a_aload_n C dL_law_328 (i := 1) rfl rfl ?_
  refine a_aload_n C dL_law_329 (i := 0) rfl rfl ?_
  refine a_iload_n C dL_law_330 (i := 3) rfl rfl ?_
  refine s_iconst C dL_law_331 (1) (by decide) (fun z61 h62 => ?_)
  refine s_iadd C dL_law_332 (by omega) (fun z63 h64 => ?_)
  refine s_sld C X (by omega) (by omega) dL_law_333 (fun v65 => ?_)
  refine a_aload_n C dL_law_334 (i := 0) rfl rfl ?_
  refine a_iload_n C dL_law_335 (i := 3) rfl rfl ?_
  refine s_iconst C dL_law_336 (2) (by decide) (fun z66 h67 => ?_)
  refine s_iadd C dL_law_337 (by omega) (fun z68 h69 => ?_)
  refine s_sld C X (by omega) (by omega) dL_law_338 (fun v70 => ?_)
  refine a_callVi C (i := 0) kd_0 (hid 0 (by decide)) ⟨_, _, rfl⟩ (by decide) (c_thing (x1 := v65) (x2 := v70) hid hI.1 hI.2.1) mi_X11_thing ml_RL_32 rfl rfl (Nat.le_of_ble_eq_true rfl) (Nat.le_of_ble_eq_true rfl) (Nat.le_of_ble_eq_true rfl) dL_law_339 (fun r σ1 q1 => ?_)
  obtain rfl : σ1 = σ := q1
  have hJ := hI
  refine a_pop C dL_law_342 rfl ?_
  refine a_aload_n C dL_law_343 (i := 2) rfl rfl ?_
  refine a_aload_n C dL_law_344 (i := 0) rfl rfl ?_
  refine a_iload_n C dL_law_345 (i := 3) rfl rfl ?_
  refine s_iconst C dL_law_346 (1) (by decide) (fun z71 h72 => ?_)
  refine s_iadd C dL_law_347 (by omega) (fun z73 h74 => ?_)
  refine s_sld C X (by omega) (by omega) dL_law_348 (fun v75 => ?_)
  refine a_aload_n C dL_law_349 (i := 0) rfl rfl ?_
  refine a_iload_n C dL_law_350 (i := 3) rfl rfl ?_
  refine s_iconst C dL_law_351 (2) (by decide) (fun z76 h77 => ?_)
  refine s_iadd C dL_law_352 (by omega) (fun z78 h79 => ?_)
  refine s_sld C X (by omega) (by omega) dL_law_353 (fun v80 => ?_)
  refine a_callVi C (i := 236) kd_236 (hid 236 (by decide)) ⟨_, _, rfl⟩ (by decide) (S_X12_thing_236 (x1 := v75) (x2 := v80) hid hJ.2.2.1) mi_X12_thing ml_RL_36 rfl rfl (Nat.le_of_ble_eq_true rfl) (Nat.le_of_ble_eq_true rfl) (Nat.le_of_ble_eq_true rfl) dL_law_354 (fun r2 σ2 q2 => ?_)
  obtain rfl : σ2 = σ1 := q2
  have hN := hJ.next (by omega)
  refine a_pop C dL_law_357 rfl ?_
  exact a_goto C dL_law_358 (tgt := 1338) rfl (K _ hN)
set_option maxHeartbeats 4000000 in
set_option maxRecDepth 100000 in
theorem la_5 {Γ : GT} {ids : List Nat} {ad : Nat → Nat} {ca : Nat → ClassId} {l0 : Launch} {D0 : va_G} {b L n : Nat} {i : Int32} {xs : Nat → Int32} {σ : HS} {K9 : (Nat → Nat) × (Nat → Nat)} (C : CT ids ad ca Γ code RL l0 D0 2048 84000 4) (X : SX Γ b L xs) (E9 : SG K9 Γ) (hid : ∀ i, i < 277 → i ∈ ids) (hi : i.toInt = 6 * (n : Int)) (hL : 6 * n + 6 ≤ L) (hLL : L ≤ 3072) (hI : LI n σ) (K : ∀ σ : HS, LI (n + 1) σ → AW ids ad ca Γ 1338 [some (.ref b), some (.ref (ad 0)), some (.ref (ad 236)), some (.int i)] [] σ) : AW ids ad ca Γ 361 [some (.ref b), some (.ref (ad 0)), some (.ref (ad 236)), some (.int i)] [] σ := by
  refine a_aload_n C dL_law_361 (i := 1) rfl rfl ?_
  refine a_aload_n C dL_law_362 (i := 0) rfl rfl ?_
  refine a_iload_n C dL_law_363 (i := 3) rfl rfl ?_
  refine s_iconst C dL_law_364 (1) (by decide) (fun z81 h82 => ?_)
  refine s_iadd C dL_law_365 (by omega) (fun z83 h84 => ?_)
  refine s_sld C X (by omega) (by omega) dL_law_366 (fun v85 => ?_)
  refine a_aload_n C dL_law_367 (i := 0) rfl rfl ?_
  refine a_iload_n C dL_law_368 (i := 3) rfl rfl ?_
  refine s_iconst C dL_law_369 (2) (by decide) (fun z86 h87 => ?_)
  refine s_iadd C dL_law_370 (by omega) (fun z88 h89 => ?_)
  refine s_sld C X (by omega) (by omega) dL_law_371 (fun v90 => ?_)
  refine a_callVi C (i := 0) kd_0 (hid 0 (by decide)) ⟨_, _, rfl⟩ (by decide) (c_pattern (x1 := v85) (x2 := v90) hid hI.1 hI.2.1) mi_X11_pattern ml_RL_37 rfl rfl (Nat.le_of_ble_eq_true rfl) (Nat.le_of_ble_eq_true rfl) (Nat.le_of_ble_eq_true rfl) dL_law_372 (fun r σ1 q1 => ?_)
  obtain rfl : σ1 = σ := q1
  have hJ := hI
  refine a_pop C dL_law_375 rfl ?_
  refine a_aload_n C dL_law_376 (i := 2) rfl rfl ?_
  refine a_aload_n C dL_law_377 (i := 0) rfl rfl ?_
  refine a_iload_n C dL_law_378 (i := 3) rfl rfl ?_
  refine s_iconst C dL_law_379 (1) (by decide) (fun z91 h92 => ?_)
  refine s_iadd C dL_law_380 (by omega) (fun z93 h94 => ?_)
  refine s_sld C X (by omega) (by omega) dL_law_381 (fun v95 => ?_)
  refine a_aload_n C dL_law_382 (i := 0) rfl rfl ?_
  refine a_iload_n C dL_law_383 (i := 3) rfl rfl ?_
  refine s_iconst C dL_law_384 (2) (by decide) (fun z96 h97 => ?_)
  refine s_iadd C dL_law_385 (by omega) (fun z98 h99 => ?_)
  refine s_sld C X (by omega) (by omega) dL_law_386 (fun v100 => ?_)
  refine a_callVi C (i := 236) kd_236 (hid 236 (by decide)) ⟨_, _, rfl⟩ (by decide) (S_X12_pattern_236 (x1 := v95) (x2 := v100) hid hJ.2.2.1 hJ.2.2.2.1) mi_X12_pattern ml_RL_40 rfl rfl (Nat.le_of_ble_eq_true rfl) (Nat.le_of_ble_eq_true rfl) (Nat.le_of_ble_eq_true rfl) dL_law_387 (fun r2 σ2 q2 => ?_)
  obtain rfl : σ2 = σ1 := q2
  have hN := hJ.next (by omega)
  refine a_pop C dL_law_390 rfl ?_
  exact a_goto C dL_law_391 (tgt := 1338) rfl (K _ hN)
set_option maxHeartbeats 4000000 in
set_option maxRecDepth 100000 in
theorem la_6 {Γ : GT} {ids : List Nat} {ad : Nat → Nat} {ca : Nat → ClassId} {l0 : Launch} {D0 : va_G} {b L n : Nat} {i : Int32} {xs : Nat → Int32} {σ : HS} {K9 : (Nat → Nat) × (Nat → Nat)} (C : CT ids ad ca Γ code RL l0 D0 2048 84000 4) (X : SX Γ b L xs) (E9 : SG K9 Γ) (hid : ∀ i, i < 277 → i ∈ ids) (hi : i.toInt = 6 * (n : Int)) (hL : 6 * n + 6 ≤ L) (hLL : L ≤ 3072) (hI : LI n σ) (K : ∀ σ : HS, LI (n + 1) σ → AW ids ad ca Γ 1338 [some (.ref b), some (.ref (ad 0)), some (.ref (ad 236)), some (.int i)] [] σ) : AW ids ad ca Γ 394 [some (.ref b), some (.ref (ad 0)), some (.ref (ad 236)), some (.int i)] [] σ := by
  refine a_aload_n C dL_law_394 (i := 1) rfl rfl ?_
  refine a_aload_n C dL_law_395 (i := 0) rfl rfl ?_
  refine a_iload_n C dL_law_396 (i := 3) rfl rfl ?_
  refine s_iconst C dL_law_397 (1) (by decide) (fun z101 h102 => ?_)
  refine s_iadd C dL_law_398 (by omega) (fun z103 h104 => ?_)
  refine s_sld C X (by omega) (by omega) dL_law_399 (fun v105 => ?_)
  refine a_aload_n C dL_law_400 (i := 0) rfl rfl ?_
  refine a_iload_n C dL_law_401 (i := 3) rfl rfl ?_
  refine s_iconst C dL_law_402 (2) (by decide) (fun z106 h107 => ?_)
  refine s_iadd C dL_law_403 (by omega) (fun z108 h109 => ?_)
  refine s_sld C X (by omega) (by omega) dL_law_404 (fun v110 => ?_)
  refine a_aload_n C dL_law_405 (i := 0) rfl rfl ?_
  refine a_iload_n C dL_law_406 (i := 3) rfl rfl ?_
  refine s_iconst C dL_law_407 (3) (by decide) (fun z111 h112 => ?_)
  refine s_iadd C dL_law_408 (by omega) (fun z113 h114 => ?_)
  refine s_sld C X (by omega) (by omega) dL_law_409 (fun v115 => ?_)
  refine a_callVi C (i := 0) kd_0 (hid 0 (by decide)) ⟨_, _, rfl⟩ (by decide) (c_tells (x1 := v105) (x2 := v110) (x3 := v115) hid hI.1 hI.2.1) mi_X11_tells ml_RL_41 rfl rfl (Nat.le_of_ble_eq_true rfl) (Nat.le_of_ble_eq_true rfl) (Nat.le_of_ble_eq_true rfl) dL_law_410 (fun r σ1 q1 => ?_)
  have hJ := hI.cls q1.1 q1.2 (by decide +kernel) (by decide +kernel)
  refine a_pop C dL_law_413 rfl ?_
  refine a_aload_n C dL_law_414 (i := 2) rfl rfl ?_
  refine a_aload_n C dL_law_415 (i := 0) rfl rfl ?_
  refine a_iload_n C dL_law_416 (i := 3) rfl rfl ?_
  refine s_iconst C dL_law_417 (1) (by decide) (fun z116 h117 => ?_)
  refine s_iadd C dL_law_418 (by omega) (fun z118 h119 => ?_)
  refine s_sld C X (by omega) (by omega) dL_law_419 (fun v120 => ?_)
  refine a_aload_n C dL_law_420 (i := 0) rfl rfl ?_
  refine a_iload_n C dL_law_421 (i := 3) rfl rfl ?_
  refine s_iconst C dL_law_422 (2) (by decide) (fun z121 h122 => ?_)
  refine s_iadd C dL_law_423 (by omega) (fun z123 h124 => ?_)
  refine s_sld C X (by omega) (by omega) dL_law_424 (fun v125 => ?_)
  refine a_aload_n C dL_law_425 (i := 0) rfl rfl ?_
  refine a_iload_n C dL_law_426 (i := 3) rfl rfl ?_
  refine s_iconst C dL_law_427 (3) (by decide) (fun z126 h127 => ?_)
  refine s_iadd C dL_law_428 (by omega) (fun z128 h129 => ?_)
  refine s_sld C X (by omega) (by omega) dL_law_429 (fun v130 => ?_)
  refine a_callVi C (i := 236) kd_236 (hid 236 (by decide)) ⟨_, _, rfl⟩ (by decide) (S_X12_tells_236 (x1 := v120) (x2 := v125) (x3 := v130) hid hJ.2.2.1 hJ.2.2.2.1) mi_X12_tells ml_RL_45 rfl rfl (Nat.le_of_ble_eq_true rfl) (Nat.le_of_ble_eq_true rfl) (Nat.le_of_ble_eq_true rfl) dL_law_430 (fun r2 σ2 q2 => ?_)
  have hN : LI (n + 1) σ2 := hJ.mod q2.1 q2.2.1 (q2.2.2.mono (by omega) (by omega)) (by decide) (by decide)
  refine a_pop C dL_law_433 rfl ?_
  exact a_goto C dL_law_434 (tgt := 1338) rfl (K _ hN)
set_option maxHeartbeats 4000000 in
set_option maxRecDepth 100000 in
theorem la_7 {Γ : GT} {ids : List Nat} {ad : Nat → Nat} {ca : Nat → ClassId} {l0 : Launch} {D0 : va_G} {b L n : Nat} {i : Int32} {xs : Nat → Int32} {σ : HS} {K9 : (Nat → Nat) × (Nat → Nat)} (C : CT ids ad ca Γ code RL l0 D0 2048 84000 4) (X : SX Γ b L xs) (E9 : SG K9 Γ) (hid : ∀ i, i < 277 → i ∈ ids) (hi : i.toInt = 6 * (n : Int)) (hL : 6 * n + 6 ≤ L) (hLL : L ≤ 3072) (hI : LI n σ) (K : ∀ σ : HS, LI (n + 1) σ → AW ids ad ca Γ 1338 [some (.ref b), some (.ref (ad 0)), some (.ref (ad 236)), some (.int i)] [] σ) : AW ids ad ca Γ 437 [some (.ref b), some (.ref (ad 0)), some (.ref (ad 236)), some (.int i)] [] σ := by
  refine a_aload_n C dL_law_437 (i := 1) rfl rfl ?_
  refine a_aload_n C dL_law_438 (i := 0) rfl rfl ?_
  refine a_iload_n C dL_law_439 (i := 3) rfl rfl ?_
  refine s_iconst C dL_law_440 (1) (by decide) (fun z131 h132 => ?_)
  refine s_iadd C dL_law_441 (by omega) (fun z133 h134 => ?_)
  refine s_sld C X (by omega) (by omega) dL_law_442 (fun v135 => ?_)
  refine a_aload_n C dL_law_443 (i := 0) rfl rfl ?_
  refine a_iload_n C dL_law_444 (i := 3) rfl rfl ?_
  refine s_iconst C dL_law_445 (2) (by decide) (fun z136 h137 => ?_)
  refine s_iadd C dL_law_446 (by omega) (fun z138 h139 => ?_)
  refine s_sld C X (by omega) (by omega) dL_law_447 (fun v140 => ?_)
  refine a_callVi C (i := 0) kd_0 (hid 0 (by decide)) ⟨_, _, rfl⟩ (by decide) (c_throwIn (x1 := v135) (x2 := v140) hid hI.1 hI.2.1) mi_X11_throwIn ml_RL_46 rfl rfl (Nat.le_of_ble_eq_true rfl) (Nat.le_of_ble_eq_true rfl) (Nat.le_of_ble_eq_true rfl) dL_law_448 (fun r σ1 q1 => ?_)
  have hJ := hI.cls q1.1 q1.2.1 (by decide +kernel) (by decide +kernel)
  refine a_pop C dL_law_451 rfl ?_
  refine a_aload_n C dL_law_452 (i := 2) rfl rfl ?_
  refine a_aload_n C dL_law_453 (i := 0) rfl rfl ?_
  refine a_iload_n C dL_law_454 (i := 3) rfl rfl ?_
  refine s_iconst C dL_law_455 (1) (by decide) (fun z141 h142 => ?_)
  refine s_iadd C dL_law_456 (by omega) (fun z143 h144 => ?_)
  refine s_sld C X (by omega) (by omega) dL_law_457 (fun v145 => ?_)
  refine a_aload_n C dL_law_458 (i := 0) rfl rfl ?_
  refine a_iload_n C dL_law_459 (i := 3) rfl rfl ?_
  refine s_iconst C dL_law_460 (2) (by decide) (fun z146 h147 => ?_)
  refine s_iadd C dL_law_461 (by omega) (fun z148 h149 => ?_)
  refine s_sld C X (by omega) (by omega) dL_law_462 (fun v150 => ?_)
  refine a_callVi C (i := 236) kd_236 (hid 236 (by decide)) ⟨_, _, rfl⟩ (by decide) (S_X12_throwIn_236 (x1 := v145) (x2 := v150) hid hJ.2.2.1 hJ.2.2.2.1 (by omega)) mi_X12_throwIn ml_RL_50 rfl rfl (Nat.le_of_ble_eq_true rfl) (Nat.le_of_ble_eq_true rfl) (Nat.le_of_ble_eq_true rfl) dL_law_463 (fun r2 σ2 q2 => ?_)
  have hN : LI (n + 1) σ2 := hJ.mod q2.1 q2.2.1 (q2.2.2.1.mono (by omega) (by omega)) (by decide) (by decide)
  refine a_pop C dL_law_466 rfl ?_
  exact a_goto C dL_law_467 (tgt := 1338) rfl (K _ hN)
set_option maxHeartbeats 4000000 in
set_option maxRecDepth 100000 in
theorem la_8 {Γ : GT} {ids : List Nat} {ad : Nat → Nat} {ca : Nat → ClassId} {l0 : Launch} {D0 : va_G} {b L n : Nat} {i : Int32} {xs : Nat → Int32} {σ : HS} {K9 : (Nat → Nat) × (Nat → Nat)} (C : CT ids ad ca Γ code RL l0 D0 2048 84000 4) (X : SX Γ b L xs) (E9 : SG K9 Γ) (hid : ∀ i, i < 277 → i ∈ ids) (hi : i.toInt = 6 * (n : Int)) (hL : 6 * n + 6 ≤ L) (hLL : L ≤ 3072) (hI : LI n σ) (K : ∀ σ : HS, LI (n + 1) σ → AW ids ad ca Γ 1338 [some (.ref b), some (.ref (ad 0)), some (.ref (ad 236)), some (.int i)] [] σ) : AW ids ad ca Γ 470 [some (.ref b), some (.ref (ad 0)), some (.ref (ad 236)), some (.int i)] [] σ := by
  refine a_aload_n C dL_law_470 (i := 1) rfl rfl ?_
  refine a_aload_n C dL_law_471 (i := 0) rfl rfl ?_
  refine a_iload_n C dL_law_472 (i := 3) rfl rfl ?_
  refine s_iconst C dL_law_473 (1) (by decide) (fun z151 h152 => ?_)
  refine s_iadd C dL_law_474 (by omega) (fun z153 h154 => ?_)
  refine s_sld C X (by omega) (by omega) dL_law_475 (fun v155 => ?_)
  refine a_callVi C (i := 0) kd_0 (hid 0 (by decide)) ⟨_, _, rfl⟩ (by decide) (c_use (x1 := v155) hid hI.1 hI.2.1) mi_X11_use ml_RL_51 rfl rfl (Nat.le_of_ble_eq_true rfl) (Nat.le_of_ble_eq_true rfl) (Nat.le_of_ble_eq_true rfl) dL_law_476 (fun r σ1 q1 => ?_)
  have hJ := hI.cls q1.1 q1.2.1 (by decide +kernel) (by decide +kernel)
  refine a_pop C dL_law_479 rfl ?_
  refine a_aload_n C dL_law_480 (i := 2) rfl rfl ?_
  refine a_aload_n C dL_law_481 (i := 0) rfl rfl ?_
  refine a_iload_n C dL_law_482 (i := 3) rfl rfl ?_
  refine s_iconst C dL_law_483 (1) (by decide) (fun z156 h157 => ?_)
  refine s_iadd C dL_law_484 (by omega) (fun z158 h159 => ?_)
  refine s_sld C X (by omega) (by omega) dL_law_485 (fun v160 => ?_)
  refine a_callVi C (i := 236) kd_236 (hid 236 (by decide)) ⟨_, _, rfl⟩ (by decide) (S_X12_use_236 (x1 := v160) hid hJ.2.2.1 hJ.2.2.2.1 (by omega)) mi_X12_use ml_RL_55 rfl rfl (Nat.le_of_ble_eq_true rfl) (Nat.le_of_ble_eq_true rfl) (Nat.le_of_ble_eq_true rfl) dL_law_486 (fun r2 σ2 q2 => ?_)
  have hN : LI (n + 1) σ2 := hJ.mod q2.1 q2.2.1 (q2.2.2.1.mono (by omega) (by omega)) (by decide) (by decide)
  refine a_pop C dL_law_489 rfl ?_
  exact a_goto C dL_law_490 (tgt := 1338) rfl (K _ hN)
set_option maxHeartbeats 4000000 in
set_option maxRecDepth 100000 in
theorem la_9 {Γ : GT} {ids : List Nat} {ad : Nat → Nat} {ca : Nat → ClassId} {l0 : Launch} {D0 : va_G} {b L n : Nat} {i : Int32} {xs : Nat → Int32} {σ : HS} {K9 : (Nat → Nat) × (Nat → Nat)} (C : CT ids ad ca Γ code RL l0 D0 2048 84000 4) (X : SX Γ b L xs) (E9 : SG K9 Γ) (hid : ∀ i, i < 277 → i ∈ ids) (hi : i.toInt = 6 * (n : Int)) (hL : 6 * n + 6 ≤ L) (hLL : L ≤ 3072) (hI : LI n σ) (K : ∀ σ : HS, LI (n + 1) σ → AW ids ad ca Γ 1338 [some (.ref b), some (.ref (ad 0)), some (.ref (ad 236)), some (.int i)] [] σ) : AW ids ad ca Γ 493 [some (.ref b), some (.ref (ad 0)), some (.ref (ad 236)), some (.int i)] [] σ := by
  refine a_aload_n C dL_law_493 (i := 1) rfl rfl ?_
  refine a_aload_n C dL_law_494 (i := 0) rfl rfl ?_
  refine a_iload_n C dL_law_495 (i := 3) rfl rfl ?_
  refine s_iconst C dL_law_496 (1) (by decide) (fun z161 h162 => ?_)
  refine s_iadd C dL_law_497 (by omega) (fun z163 h164 => ?_)
  refine s_sld C X (by omega) (by omega) dL_law_498 (fun v165 => ?_)
  refine a_callVi C (i := 0) kd_0 (hid 0 (by decide)) ⟨_, _, rfl⟩ (by decide) (c_set (x1 := v165) hid hI.1 hI.2.1) mi_X11_set ml_RL_56 rfl rfl (Nat.le_of_ble_eq_true rfl) (Nat.le_of_ble_eq_true rfl) (Nat.le_of_ble_eq_true rfl) dL_law_499 (fun r σ1 q1 => ?_)
  have hJ := hI.cls q1.1 q1.2.1 (by decide +kernel) (by decide +kernel)
  refine a_pop C dL_law_502 rfl ?_
  refine a_aload_n C dL_law_503 (i := 2) rfl rfl ?_
  refine a_aload_n C dL_law_504 (i := 0) rfl rfl ?_
  refine a_iload_n C dL_law_505 (i := 3) rfl rfl ?_
  refine s_iconst C dL_law_506 (1) (by decide) (fun z166 h167 => ?_)
  refine s_iadd C dL_law_507 (by omega) (fun z168 h169 => ?_)
  refine s_sld C X (by omega) (by omega) dL_law_508 (fun v170 => ?_)
  refine a_callVi C (i := 236) kd_236 (hid 236 (by decide)) ⟨_, _, rfl⟩ (by decide) (S_X12_set_236 (x1 := v170) hid hJ.2.2.1 hJ.2.2.2.1 (by omega)) mi_X12_set ml_RL_59 rfl rfl (Nat.le_of_ble_eq_true rfl) (Nat.le_of_ble_eq_true rfl) (Nat.le_of_ble_eq_true rfl) dL_law_509 (fun r2 σ2 q2 => ?_)
  have hN : LI (n + 1) σ2 := hJ.mod q2.1 q2.2.1 (q2.2.2.1.mono (by omega) (by omega)) (by decide) (by decide)
  refine a_pop C dL_law_512 rfl ?_
  exact a_goto C dL_law_513 (tgt := 1338) rfl (K _ hN)
set_option maxHeartbeats 4000000 in
set_option maxRecDepth 100000 in
theorem la_10 {Γ : GT} {ids : List Nat} {ad : Nat → Nat} {ca : Nat → ClassId} {l0 : Launch} {D0 : va_G} {b L n : Nat} {i : Int32} {xs : Nat → Int32} {σ : HS} {K9 : (Nat → Nat) × (Nat → Nat)} (C : CT ids ad ca Γ code RL l0 D0 2048 84000 4) (X : SX Γ b L xs) (E9 : SG K9 Γ) (hid : ∀ i, i < 277 → i ∈ ids) (hi : i.toInt = 6 * (n : Int)) (hL : 6 * n + 6 ≤ L) (hLL : L ≤ 3072) (hI : LI n σ) (K : ∀ σ : HS, LI (n + 1) σ → AW ids ad ca Γ 1338 [some (.ref b), some (.ref (ad 0)), some (.ref (ad 236)), some (.int i)] [] σ) : AW ids ad ca Γ 516 [some (.ref b), some (.ref (ad 0)), some (.ref (ad 236)), some (.int i)] [] σ := by
  refine a_aload_n C dL_law_516 (i := 1) rfl rfl ?_
  refine a_aload_n C dL_law_517 (i := 0) rfl rfl ?_
  refine a_iload_n C dL_law_518 (i := 3) rfl rfl ?_
  refine s_iconst C dL_law_519 (1) (by decide) (fun z171 h172 => ?_)
  refine s_iadd C dL_law_520 (by omega) (fun z173 h174 => ?_)
  refine s_sld C X (by omega) (by omega) dL_law_521 (fun v175 => ?_)
  refine a_callVi C (i := 0) kd_0 (hid 0 (by decide)) ⟨_, _, rfl⟩ (by decide) (c_beats (x1 := v175) hid hI.1 hI.2.1) mi_X11_beats ml_RL_60 rfl rfl (Nat.le_of_ble_eq_true rfl) (Nat.le_of_ble_eq_true rfl) (Nat.le_of_ble_eq_true rfl) dL_law_522 (fun r σ1 q1 => ?_)
  have hJ := hI.cls q1.1 q1.2 (by decide +kernel) (by decide +kernel)
  refine a_pop C dL_law_525 rfl ?_
  refine a_aload_n C dL_law_526 (i := 2) rfl rfl ?_
  refine a_aload_n C dL_law_527 (i := 0) rfl rfl ?_
  refine a_iload_n C dL_law_528 (i := 3) rfl rfl ?_
  refine s_iconst C dL_law_529 (1) (by decide) (fun z176 h177 => ?_)
  refine s_iadd C dL_law_530 (by omega) (fun z178 h179 => ?_)
  refine s_sld C X (by omega) (by omega) dL_law_531 (fun v180 => ?_)
  refine a_callVi C (i := 236) kd_236 (hid 236 (by decide)) ⟨_, _, rfl⟩ (by decide) (S_X12_beats_236 (x1 := v180) hid hJ.2.2.1 hJ.2.2.2.1 (by omega)) mi_X12_beats ml_RL_63 rfl rfl (Nat.le_of_ble_eq_true rfl) (Nat.le_of_ble_eq_true rfl) (Nat.le_of_ble_eq_true rfl) dL_law_532 (fun r2 σ2 q2 => ?_)
  have hN : LI (n + 1) σ2 := hJ.mod q2.1 q2.2.1 (q2.2.2.mono (by omega) (by omega)) (by decide) (by decide)
  refine a_pop C dL_law_535 rfl ?_
  exact a_goto C dL_law_536 (tgt := 1338) rfl (K _ hN)
set_option maxHeartbeats 4000000 in
set_option maxRecDepth 100000 in
theorem la_11 {Γ : GT} {ids : List Nat} {ad : Nat → Nat} {ca : Nat → ClassId} {l0 : Launch} {D0 : va_G} {b L n : Nat} {i : Int32} {xs : Nat → Int32} {σ : HS} {K9 : (Nat → Nat) × (Nat → Nat)} (C : CT ids ad ca Γ code RL l0 D0 2048 84000 4) (X : SX Γ b L xs) (E9 : SG K9 Γ) (hid : ∀ i, i < 277 → i ∈ ids) (hi : i.toInt = 6 * (n : Int)) (hL : 6 * n + 6 ≤ L) (hLL : L ≤ 3072) (hI : LI n σ) (K : ∀ σ : HS, LI (n + 1) σ → AW ids ad ca Γ 1338 [some (.ref b), some (.ref (ad 0)), some (.ref (ad 236)), some (.int i)] [] σ) : AW ids ad ca Γ 539 [some (.ref b), some (.ref (ad 0)), some (.ref (ad 236)), some (.int i)] [] σ := by
  refine a_aload_n C dL_law_539 (i := 1) rfl rfl ?_
  refine a_callVi C (i := 0) kd_0 (hid 0 (by decide)) ⟨_, _, rfl⟩ (by decide) (c_undo hid hI.1 hI.2.1) mi_X11_undo ml_RL_64 rfl rfl (Nat.le_of_ble_eq_true rfl) (Nat.le_of_ble_eq_true rfl) (Nat.le_of_ble_eq_true rfl) dL_law_540 (fun r σ1 q1 => ?_)
  have hJ := hI.cls q1.1 q1.2.1 (by decide +kernel) (by decide +kernel)
  refine a_pop C dL_law_543 rfl ?_
  refine a_aload_n C dL_law_544 (i := 2) rfl rfl ?_
  refine a_callVi C (i := 236) kd_236 (hid 236 (by decide)) ⟨_, _, rfl⟩ (by decide) (S_X12_undo_236 hid hJ.2.2.1 hJ.2.2.2.1) mi_X12_undo ml_RL_68 rfl rfl (Nat.le_of_ble_eq_true rfl) (Nat.le_of_ble_eq_true rfl) (Nat.le_of_ble_eq_true rfl) dL_law_545 (fun r2 σ2 q2 => ?_)
  have hN : LI (n + 1) σ2 := hJ.mod q2.1 q2.2.1 (q2.2.2.1.mono (by omega) (by omega)) (by decide) (by decide)
  refine a_pop C dL_law_548 rfl ?_
  exact a_goto C dL_law_549 (tgt := 1338) rfl (K _ hN)
set_option maxHeartbeats 4000000 in
set_option maxRecDepth 100000 in
theorem la_12 {Γ : GT} {ids : List Nat} {ad : Nat → Nat} {ca : Nat → ClassId} {l0 : Launch} {D0 : va_G} {b L n : Nat} {i : Int32} {xs : Nat → Int32} {σ : HS} {K9 : (Nat → Nat) × (Nat → Nat)} (C : CT ids ad ca Γ code RL l0 D0 2048 84000 4) (X : SX Γ b L xs) (E9 : SG K9 Γ) (hid : ∀ i, i < 277 → i ∈ ids) (hi : i.toInt = 6 * (n : Int)) (hL : 6 * n + 6 ≤ L) (hLL : L ≤ 3072) (hI : LI n σ) (K : ∀ σ : HS, LI (n + 1) σ → AW ids ad ca Γ 1338 [some (.ref b), some (.ref (ad 0)), some (.ref (ad 236)), some (.int i)] [] σ) : AW ids ad ca Γ 552 [some (.ref b), some (.ref (ad 0)), some (.ref (ad 236)), some (.int i)] [] σ := by
  refine a_aload_n C dL_law_552 (i := 1) rfl rfl ?_
  refine a_aload_n C dL_law_553 (i := 0) rfl rfl ?_
  refine a_iload_n C dL_law_554 (i := 3) rfl rfl ?_
  refine s_iconst C dL_law_555 (1) (by decide) (fun z181 h182 => ?_)
  refine s_iadd C dL_law_556 (by omega) (fun z183 h184 => ?_)
  refine s_sld C X (by omega) (by omega) dL_law_557 (fun v185 => ?_)
  refine a_aload_n C dL_law_558 (i := 0) rfl rfl ?_
  refine a_iload_n C dL_law_559 (i := 3) rfl rfl ?_
  refine s_iconst C dL_law_560 (2) (by decide) (fun z186 h187 => ?_)
  refine s_iadd C dL_law_561 (by omega) (fun z188 h189 => ?_)
  refine s_sld C X (by omega) (by omega) dL_law_562 (fun v190 => ?_)
  refine a_callVi C (i := 0) kd_0 (hid 0 (by decide)) ⟨_, _, rfl⟩ (by decide) (c_closes (x1 := v185) (x2 := v190) hid hI.1 hI.2.1) mi_X11_closes ml_RL_69 rfl rfl (Nat.le_of_ble_eq_true rfl) (Nat.le_of_ble_eq_true rfl) (Nat.le_of_ble_eq_true rfl) dL_law_563 (fun r σ1 q1 => ?_)
  obtain rfl : σ1 = σ := q1
  have hJ := hI
  refine a_pop C dL_law_566 rfl ?_
  refine a_aload_n C dL_law_567 (i := 2) rfl rfl ?_
  refine a_aload_n C dL_law_568 (i := 0) rfl rfl ?_
  refine a_iload_n C dL_law_569 (i := 3) rfl rfl ?_
  refine s_iconst C dL_law_570 (1) (by decide) (fun z191 h192 => ?_)
  refine s_iadd C dL_law_571 (by omega) (fun z193 h194 => ?_)
  refine s_sld C X (by omega) (by omega) dL_law_572 (fun v195 => ?_)
  refine a_aload_n C dL_law_573 (i := 0) rfl rfl ?_
  refine a_iload_n C dL_law_574 (i := 3) rfl rfl ?_
  refine s_iconst C dL_law_575 (2) (by decide) (fun z196 h197 => ?_)
  refine s_iadd C dL_law_576 (by omega) (fun z198 h199 => ?_)
  refine s_sld C X (by omega) (by omega) dL_law_577 (fun v200 => ?_)
  refine a_callVi C (i := 236) kd_236 (hid 236 (by decide)) ⟨_, _, rfl⟩ (by decide) (S_X12_closes_236 (x1 := v195) (x2 := v200) hid hJ.2.2.1 hJ.2.2.2.1) mi_X12_closes ml_RL_72 rfl rfl (Nat.le_of_ble_eq_true rfl) (Nat.le_of_ble_eq_true rfl) (Nat.le_of_ble_eq_true rfl) dL_law_578 (fun r2 σ2 q2 => ?_)
  have hN : LI (n + 1) σ2 := hJ.mod q2.1 q2.2.1 (q2.2.2.mono (by omega) (by omega)) (by decide) (by decide)
  refine a_pop C dL_law_581 rfl ?_
  exact a_goto C dL_law_582 (tgt := 1338) rfl (K _ hN)
set_option maxHeartbeats 4000000 in
set_option maxRecDepth 100000 in
theorem la_13 {Γ : GT} {ids : List Nat} {ad : Nat → Nat} {ca : Nat → ClassId} {l0 : Launch} {D0 : va_G} {b L n : Nat} {i : Int32} {xs : Nat → Int32} {σ : HS} {K9 : (Nat → Nat) × (Nat → Nat)} (C : CT ids ad ca Γ code RL l0 D0 2048 84000 4) (X : SX Γ b L xs) (E9 : SG K9 Γ) (hid : ∀ i, i < 277 → i ∈ ids) (hi : i.toInt = 6 * (n : Int)) (hL : 6 * n + 6 ≤ L) (hLL : L ≤ 3072) (hI : LI n σ) (K : ∀ σ : HS, LI (n + 1) σ → AW ids ad ca Γ 1338 [some (.ref b), some (.ref (ad 0)), some (.ref (ad 236)), some (.int i)] [] σ) : AW ids ad ca Γ 585 [some (.ref b), some (.ref (ad 0)), some (.ref (ad 236)), some (.int i)] [] σ := by
  refine a_aload_n C dL_law_585 (i := 1) rfl rfl ?_
  refine a_callVi C (i := 0) kd_0 (hid 0 (by decide)) ⟨_, _, rfl⟩ (by decide) (c_lands hid hI.1 hI.2.1) mi_X11_lands ml_RL_73 rfl rfl (Nat.le_of_ble_eq_true rfl) (Nat.le_of_ble_eq_true rfl) (Nat.le_of_ble_eq_true rfl) dL_law_586 (fun r σ1 q1 => ?_)
  obtain rfl : σ1 = σ := q1
  have hJ := hI
  refine a_pop C dL_law_589 rfl ?_
  refine a_aload_n C dL_law_590 (i := 2) rfl rfl ?_
  refine a_callVi C (i := 236) kd_236 (hid 236 (by decide)) ⟨_, _, rfl⟩ (by decide) (S_X12_lands_236 hid hJ.2.2.1 hJ.2.2.2.1) mi_X12_lands ml_RL_76 rfl rfl (Nat.le_of_ble_eq_true rfl) (Nat.le_of_ble_eq_true rfl) (Nat.le_of_ble_eq_true rfl) dL_law_591 (fun r2 σ2 q2 => ?_)
  have hN : LI (n + 1) σ2 := hJ.mod q2.1 q2.2.1 (q2.2.2.1.mono (by omega) (by omega)) (by decide) (by decide)
  refine a_pop C dL_law_594 rfl ?_
  exact a_goto C dL_law_595 (tgt := 1338) rfl (K _ hN)
