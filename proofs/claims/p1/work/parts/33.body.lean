/-! the law from its loop's head on, on the fresh objects -/
set_option maxRecDepth 100000 in
theorem la_done {Γ : GT} {ids : List Nat} {ad : Nat → Nat} {ca : Nat → ClassId} {l0 : Launch} {D0 : va_G} {b : Nat} {xs : Nat → Int32} (C : CT ids ad ca Γ code RL l0 D0 2048 84000 4) (X : SX Γ b 6 xs) (E : LE Γ) (σ : HS) : AW ids ad ca Γ 1338 [some (.ref b), some (.ref (ad 0)), some (.ref (ad 236)), some (.int 0)] [] σ := by
  refine a_iinc C dL_law_1338 rfl (v := 6) rfl (by decide) rfl (vs1 := [some (.ref b), some (.ref (ad 0)), some (.ref (ad 236)), some (.int 6)]) rfl ?_
  refine a_goto C dL_law_1341 (tgt := 18) rfl ?_
  refine a_iload_n C dL_law_18 (i := 3) rfl rfl ?_
  refine a_aload_n C dL_law_19 (i := 0) rfl rfl ?_
  refine a_slen C X dL_law_20 ?_
  refine a_bipush C dL_law_21 (v := 6) rfl ?_
  refine a_isub C dL_law_23 ?_
  refine a_ic_gt C dL_law_24 (tgt := 1344) rfl (fun _ => ?_) (fun h => absurd (by decide) h)
  refine a_iconst C dL_law_1344 (v := 1) rfl ?_
  exact a_lend E dL_law_1345
set_option maxRecDepth 100000 in
theorem la_body {Γ : GT} {ids : List Nat} {ad : Nat → Nat} {ca : Nat → ClassId} {l0 : Launch} {D0 : va_G} {b L : Nat} {xs : Nat → Int32} (C : CT ids ad ca Γ code RL l0 D0 2048 84000 4) (X : SX Γ b L xs) (hL : L ≤ 6) (E : LE Γ) (hid : ∀ i, i < 277 → i ∈ ids) : AW ids ad ca Γ 18 [some (.ref b), some (.ref (ad 0)), some (.ref (ad 236)), some (.int 0)] [] s0 := by
  refine a_iload_n C dL_law_18 (i := 3) rfl rfl ?_
  refine a_aload_n C dL_law_19 (i := 0) rfl rfl ?_
  refine a_slen C X dL_law_20 ?_
  refine a_bipush C dL_law_21 (v := 6) rfl ?_
  refine a_isub C dL_law_23 ?_
  refine a_ic_gt C dL_law_24 (tgt := 1344) rfl (fun _ => ?_) (fun h => ?_)
  · refine a_iconst C dL_law_1344 (v := 1) rfl ?_
    exact a_lend E dL_law_1345
  have hL6 : L = 6 := by
    have q : ∀ n, n < 6 → Int32.ofNat n - 6 < 0 := by decide
    by_cases h6 : L < 6
    · exact absurd (q L h6) h
    · omega
  subst hL6
  refine a_aload_n C dL_law_27 (i := 0) rfl rfl ?_
  refine a_iload_n C dL_law_28 (i := 3) rfl rfl ?_
  refine a_sld C X 0 rfl (by decide) (by decide) dL_law_29 ?_
  refine a_bipush C dL_law_30 (v := 63) rfl ?_
  refine a_iand C dL_law_32 ?_
  obtain ⟨j, hj, ej⟩ := pk_andE (xs 0) (m := 63) 6 (by decide)
  rw [ej]
  have K := la_done C X E
  by_cases h42 : 42 ≤ j
  · refine a_tableOut C dL_law_33 (Or.inr ?_) (tgt := 1338) rfl (K _)
    rw [nI_toInt (by omega)]
    omega
  rcases (show j = 0 ∨ j = 1 ∨ j = 2 ∨ j = 3 ∨ j = 4 ∨ j = 5 ∨ j = 6 ∨ j = 7 ∨ j = 8 ∨ j = 9 ∨ j = 10 ∨ j = 11 ∨ j = 12 ∨ j = 13 ∨ j = 14 ∨ j = 15 ∨ j = 16 ∨ j = 17 ∨ j = 18 ∨ j = 19 ∨ j = 20 ∨ j = 21 ∨ j = 22 ∨ j = 23 ∨ j = 24 ∨ j = 25 ∨ j = 26 ∨ j = 27 ∨ j = 28 ∨ j = 29 ∨ j = 30 ∨ j = 31 ∨ j = 32 ∨ j = 33 ∨ j = 34 ∨ j = 35 ∨ j = 36 ∨ j = 37 ∨ j = 38 ∨ j = 39 ∨ j = 40 ∨ j = 41 by omega) with rfl | rfl | rfl | rfl | rfl | rfl | rfl | rfl | rfl | rfl | rfl | rfl | rfl | rfl | rfl | rfl | rfl | rfl | rfl | rfl | rfl | rfl | rfl | rfl | rfl | rfl | rfl | rfl | rfl | rfl | rfl | rfl | rfl | rfl | rfl | rfl | rfl | rfl | rfl | rfl | rfl | rfl
  · exact a_tableIn C dL_law_33 (by decide) (by decide) rfl (tgt := 216) rfl (la_0 C X hid K)
  · exact a_tableIn C dL_law_33 (by decide) (by decide) rfl (tgt := 279) rfl (la_1 C X hid K)
  · exact a_tableIn C dL_law_33 (by decide) (by decide) rfl (tgt := 302) rfl (la_2 C X hid K)
  · exact a_tableIn C dL_law_33 (by decide) (by decide) rfl (tgt := 315) rfl (la_3 C X hid K)
  · exact a_tableIn C dL_law_33 (by decide) (by decide) rfl (tgt := 328) rfl (la_4 C X hid K)
  · exact a_tableIn C dL_law_33 (by decide) (by decide) rfl (tgt := 361) rfl (la_5 C X hid K)
  · exact a_tableIn C dL_law_33 (by decide) (by decide) rfl (tgt := 394) rfl (la_6 C X hid K)
  · exact a_tableIn C dL_law_33 (by decide) (by decide) rfl (tgt := 437) rfl (la_7 C X hid K)
  · exact a_tableIn C dL_law_33 (by decide) (by decide) rfl (tgt := 470) rfl (la_8 C X hid K)
  · exact a_tableIn C dL_law_33 (by decide) (by decide) rfl (tgt := 493) rfl (la_9 C X hid K)
  · exact a_tableIn C dL_law_33 (by decide) (by decide) rfl (tgt := 516) rfl (la_10 C X hid K)
  · exact a_tableIn C dL_law_33 (by decide) (by decide) rfl (tgt := 539) rfl (la_11 C X hid K)
  · exact a_tableIn C dL_law_33 (by decide) (by decide) rfl (tgt := 552) rfl (la_12 C X hid K)
  · exact a_tableIn C dL_law_33 (by decide) (by decide) rfl (tgt := 585) rfl (la_13 C X hid K)
  · exact a_tableIn C dL_law_33 (by decide) (by decide) rfl (tgt := 598) rfl (la_14 C X hid K)
  · exact a_tableIn C dL_law_33 (by decide) (by decide) rfl (tgt := 621) rfl (la_15 C X hid K)
  · exact a_tableIn C dL_law_33 (by decide) (by decide) rfl (tgt := 634) rfl (la_16 C X hid K)
  · exact a_tableIn C dL_law_33 (by decide) (by decide) rfl (tgt := 667) rfl (la_17 C X hid K)
  · exact a_tableIn C dL_law_33 (by decide) (by decide) rfl (tgt := 710) rfl (la_18 C X hid K)
  · exact a_tableIn C dL_law_33 (by decide) (by decide) rfl (tgt := 743) rfl (la_19 C X hid K)
  · exact a_tableIn C dL_law_33 (by decide) (by decide) rfl (tgt := 766) rfl (la_20 C X hid K)
  · exact a_tableIn C dL_law_33 (by decide) (by decide) rfl (tgt := 789) rfl (la_21 C X hid K)
  · exact a_tableIn C dL_law_33 (by decide) (by decide) rfl (tgt := 812) rfl (la_22 C X hid K)
  · exact a_tableIn C dL_law_33 (by decide) (by decide) rfl (tgt := 835) rfl (la_23 C X hid K)
  · exact a_tableIn C dL_law_33 (by decide) (by decide) rfl (tgt := 848) rfl (la_24 C X hid K)
  · exact a_tableIn C dL_law_33 (by decide) (by decide) rfl (tgt := 871) rfl (la_25 C X hid K)
  · exact a_tableIn C dL_law_33 (by decide) (by decide) rfl (tgt := 904) rfl (la_26 C X hid K)
  · exact a_tableIn C dL_law_33 (by decide) (by decide) rfl (tgt := 927) rfl (la_27 C X hid K)
  · exact a_tableIn C dL_law_33 (by decide) (by decide) rfl (tgt := 940) rfl (la_28 C X hid K)
  · exact a_tableIn C dL_law_33 (by decide) (by decide) rfl (tgt := 963) rfl (la_29 C X hid K)
  · exact a_tableIn C dL_law_33 (by decide) (by decide) rfl (tgt := 1016) rfl (la_30 C X hid K)
  · exact a_tableIn C dL_law_33 (by decide) (by decide) rfl (tgt := 1049) rfl (la_31 C X hid K)
  · exact a_tableIn C dL_law_33 (by decide) (by decide) rfl (tgt := 1072) rfl (la_32 C X hid K)
  · exact a_tableIn C dL_law_33 (by decide) (by decide) rfl (tgt := 1085) rfl (la_33 C X hid K)
  · exact a_tableIn C dL_law_33 (by decide) (by decide) rfl (tgt := 1118) rfl (la_34 C X hid K)
  · exact a_tableIn C dL_law_33 (by decide) (by decide) rfl (tgt := 1151) rfl (la_35 C X hid K)
  · exact a_tableIn C dL_law_33 (by decide) (by decide) rfl (tgt := 1200) rfl (la_36 C X hid K)
  · exact a_tableIn C dL_law_33 (by decide) (by decide) rfl (tgt := 1213) rfl (la_37 C X hid K)
  · exact a_tableIn C dL_law_33 (by decide) (by decide) rfl (tgt := 1246) rfl (la_38 C X hid K)
  · exact a_tableIn C dL_law_33 (by decide) (by decide) rfl (tgt := 1269) rfl (la_39 C X hid K)
  · exact a_tableIn C dL_law_33 (by decide) (by decide) rfl (tgt := 1292) rfl (la_40 C X hid K)
  · exact a_tableIn C dL_law_33 (by decide) (by decide) rfl (tgt := 1315) rfl (la_41 C X hid K)
