/-! the law from its loop's head on -/
set_option maxHeartbeats 4000000 in
set_option maxRecDepth 100000 in
theorem la_loop {Γ : GT} {ids : List Nat} {ad : Nat → Nat} {ca : Nat → ClassId} {l0 : Launch} {D0 : va_G} {b L : Nat} {xs : Nat → Int32} {K9 : (Nat → Nat) × (Nat → Nat)} (C : CT ids ad ca Γ code RL l0 D0 2048 84000 4) (X : SX Γ b L xs) (E9 : SG K9 Γ) (E : LE Γ) (hid : ∀ i, i < 277 → i ∈ ids) (hLL : L ≤ 3072) : ∀ (d n : Nat) (i : Int32) (σ : HS), L < 6 * n + d → i.toInt = 6 * (n : Int) → 6 * n ≤ L + 6 → REL n σ → AW ids ad ca Γ 18 [some (.ref b), some (.ref (ad 0)), some (.ref (ad 236)), some (.int i)] [] σ := by
  intro d
  induction d with
  | zero =>
    intro n i σ hd hi hn hI
    refine a_iload_n C dL_law_18 (i := 3) rfl rfl ?_
    refine a_aload_n C dL_law_19 (i := 0) rfl rfl ?_
    refine s_slen C X hLL dL_law_20 (fun z1 h1 => ?_)
    refine s_bipush C dL_law_21 (6) (by decide) (fun z2 h2 => ?_)
    refine s_isub C dL_law_23 (by omega) (fun z3 h3 => ?_)
    refine s_ic_gt C dL_law_24 (tgt := 1344) rfl (fun _ => ?_) (fun h => absurd h (by omega))
    refine a_iconst C dL_law_1344 (v := 1) rfl ?_
    exact a_lend E dL_law_1345
  | succ d ih =>
    intro n i σ hd hi hn hI
    refine a_iload_n C dL_law_18 (i := 3) rfl rfl ?_
    refine a_aload_n C dL_law_19 (i := 0) rfl rfl ?_
    refine s_slen C X hLL dL_law_20 (fun z1 h1 => ?_)
    refine s_bipush C dL_law_21 (6) (by decide) (fun z2 h2 => ?_)
    refine s_isub C dL_law_23 (by omega) (fun z3 h3 => ?_)
    refine s_ic_gt C dL_law_24 (tgt := 1344) rfl (fun _ => ?_) (fun h => ?_)
    · refine a_iconst C dL_law_1344 (v := 1) rfl ?_
      exact a_lend E dL_law_1345
    have hL : 6 * n + 6 ≤ L := by omega
    have K : ∀ σ : HS, REL (n + 1) σ → AW ids ad ca Γ 1338 [some (.ref b), some (.ref (ad 0)), some (.ref (ad 236)), some (.int i)] [] σ := fun σ9 h9 => by
      refine s_iinc C dL_law_1338 rfl (6) (by decide) (by omega) (by decide) rfl (fun z9 h8 => ?_)
      show AW ids ad ca Γ 1341 [some (.ref b), some (.ref (ad 0)), some (.ref (ad 236)), some (.int z9)] _ _
      refine a_goto C dL_law_1341 (tgt := 18) rfl ?_
      exact ih (n + 1) z9 σ9 (by omega) (by omega) (by omega) h9
    refine a_aload_n C dL_law_27 (i := 0) rfl rfl ?_
    refine a_iload_n C dL_law_28 (i := 3) rfl rfl ?_
    refine s_sld C X (by omega) (by omega) dL_law_29 (fun v _ => ?_)
    refine s_bipush C dL_law_30 (63) (by decide) (fun z4 h4 => ?_)
    refine s_iand C dL_law_32 (by omega) (fun j hj => ?_)
    by_cases h42 : 41 < j.toInt
    · exact a_tableOut C dL_law_33 (Or.inr h42) (tgt := 1338) rfl (K _ hI.next)
    rcases (show j.toInt = 0 ∨ j.toInt = 1 ∨ j.toInt = 2 ∨ j.toInt = 3 ∨ j.toInt = 4 ∨ j.toInt = 5 ∨ j.toInt = 6 ∨ j.toInt = 7 ∨ j.toInt = 8 ∨ j.toInt = 9 ∨ j.toInt = 10 ∨ j.toInt = 11 ∨ j.toInt = 12 ∨ j.toInt = 13 ∨ j.toInt = 14 ∨ j.toInt = 15 ∨ j.toInt = 16 ∨ j.toInt = 17 ∨ j.toInt = 18 ∨ j.toInt = 19 ∨ j.toInt = 20 ∨ j.toInt = 21 ∨ j.toInt = 22 ∨ j.toInt = 23 ∨ j.toInt = 24 ∨ j.toInt = 25 ∨ j.toInt = 26 ∨ j.toInt = 27 ∨ j.toInt = 28 ∨ j.toInt = 29 ∨ j.toInt = 30 ∨ j.toInt = 31 ∨ j.toInt = 32 ∨ j.toInt = 33 ∨ j.toInt = 34 ∨ j.toInt = 35 ∨ j.toInt = 36 ∨ j.toInt = 37 ∨ j.toInt = 38 ∨ j.toInt = 39 ∨ j.toInt = 40 ∨ j.toInt = 41 by omega) with ej | ej | ej | ej | ej | ej | ej | ej | ej | ej | ej | ej | ej | ej | ej | ej | ej | ej | ej | ej | ej | ej | ej | ej | ej | ej | ej | ej | ej | ej | ej | ej | ej | ej | ej | ej | ej | ej | ej | ej | ej | ej
    · exact a_tableIn C dL_law_33 (by omega) (by omega) (by rw [ej]; rfl) (tgt := 216) rfl (la_0 C X E9 hid hi hL hLL hI K)
    · exact a_tableIn C dL_law_33 (by omega) (by omega) (by rw [ej]; rfl) (tgt := 279) rfl (la_1 C X E9 hid hi hL hLL hI K)
    · exact a_tableIn C dL_law_33 (by omega) (by omega) (by rw [ej]; rfl) (tgt := 302) rfl (la_2 C X E9 hid hi hL hLL hI K)
    · exact a_tableIn C dL_law_33 (by omega) (by omega) (by rw [ej]; rfl) (tgt := 315) rfl (la_3 C X E9 hid hi hL hLL hI K)
    · exact a_tableIn C dL_law_33 (by omega) (by omega) (by rw [ej]; rfl) (tgt := 328) rfl (la_4 C X E9 hid hi hL hLL hI K)
    · exact a_tableIn C dL_law_33 (by omega) (by omega) (by rw [ej]; rfl) (tgt := 361) rfl (la_5 C X E9 hid hi hL hLL hI K)
    · exact a_tableIn C dL_law_33 (by omega) (by omega) (by rw [ej]; rfl) (tgt := 394) rfl (la_6 C X E9 hid hi hL hLL hI K)
    · exact a_tableIn C dL_law_33 (by omega) (by omega) (by rw [ej]; rfl) (tgt := 437) rfl (la_7 C X E9 hid hi hL hLL hI K)
    · exact a_tableIn C dL_law_33 (by omega) (by omega) (by rw [ej]; rfl) (tgt := 470) rfl (la_8 C X E9 hid hi hL hLL hI K)
    · exact a_tableIn C dL_law_33 (by omega) (by omega) (by rw [ej]; rfl) (tgt := 493) rfl (la_9 C X E9 hid hi hL hLL hI K)
    · exact a_tableIn C dL_law_33 (by omega) (by omega) (by rw [ej]; rfl) (tgt := 516) rfl (la_10 C X E9 hid hi hL hLL hI K)
    · exact a_tableIn C dL_law_33 (by omega) (by omega) (by rw [ej]; rfl) (tgt := 539) rfl (la_11 C X E9 hid hi hL hLL hI K)
    · exact a_tableIn C dL_law_33 (by omega) (by omega) (by rw [ej]; rfl) (tgt := 552) rfl (la_12 C X E9 hid hi hL hLL hI K)
    · exact a_tableIn C dL_law_33 (by omega) (by omega) (by rw [ej]; rfl) (tgt := 585) rfl (la_13 C X E9 hid hi hL hLL hI K)
    · exact a_tableIn C dL_law_33 (by omega) (by omega) (by rw [ej]; rfl) (tgt := 598) rfl (la_14 C X E9 hid hi hL hLL hI K)
    · exact a_tableIn C dL_law_33 (by omega) (by omega) (by rw [ej]; rfl) (tgt := 621) rfl (la_15 C X E9 hid hi hL hLL hI K)
    · exact a_tableIn C dL_law_33 (by omega) (by omega) (by rw [ej]; rfl) (tgt := 634) rfl (la_16 C X E9 hid hi hL hLL hI K)
    · exact a_tableIn C dL_law_33 (by omega) (by omega) (by rw [ej]; rfl) (tgt := 667) rfl (la_17 C X E9 hid hi hL hLL hI K)
    · exact a_tableIn C dL_law_33 (by omega) (by omega) (by rw [ej]; rfl) (tgt := 710) rfl (la_18 C X E9 hid hi hL hLL hI K)
    · exact a_tableIn C dL_law_33 (by omega) (by omega) (by rw [ej]; rfl) (tgt := 743) rfl (la_19 C X E9 hid hi hL hLL hI K)
    · exact a_tableIn C dL_law_33 (by omega) (by omega) (by rw [ej]; rfl) (tgt := 766) rfl (la_20 C X E9 hid hi hL hLL hI K)
    · exact a_tableIn C dL_law_33 (by omega) (by omega) (by rw [ej]; rfl) (tgt := 789) rfl (la_21 C X E9 hid hi hL hLL hI K)
    · exact a_tableIn C dL_law_33 (by omega) (by omega) (by rw [ej]; rfl) (tgt := 812) rfl (la_22 C X E9 hid hi hL hLL hI K)
    · exact a_tableIn C dL_law_33 (by omega) (by omega) (by rw [ej]; rfl) (tgt := 835) rfl (la_23 C X E9 hid hi hL hLL hI K)
    · exact a_tableIn C dL_law_33 (by omega) (by omega) (by rw [ej]; rfl) (tgt := 848) rfl (la_24 C X E9 hid hi hL hLL hI K)
    · exact a_tableIn C dL_law_33 (by omega) (by omega) (by rw [ej]; rfl) (tgt := 871) rfl (la_25 C X E9 hid hi hL hLL hI K)
    · exact a_tableIn C dL_law_33 (by omega) (by omega) (by rw [ej]; rfl) (tgt := 904) rfl (la_26 C X E9 hid hi hL hLL hI K)
    · exact a_tableIn C dL_law_33 (by omega) (by omega) (by rw [ej]; rfl) (tgt := 927) rfl (la_27 C X E9 hid hi hL hLL hI K)
    · exact a_tableIn C dL_law_33 (by omega) (by omega) (by rw [ej]; rfl) (tgt := 940) rfl (la_28 C X E9 hid hi hL hLL hI K)
    · exact a_tableIn C dL_law_33 (by omega) (by omega) (by rw [ej]; rfl) (tgt := 963) rfl (la_29 C X E9 hid hi hL hLL hI K)
    · exact a_tableIn C dL_law_33 (by omega) (by omega) (by rw [ej]; rfl) (tgt := 1016) rfl (la_30 C X E9 hid hi hL hLL hI K)
    · exact a_tableIn C dL_law_33 (by omega) (by omega) (by rw [ej]; rfl) (tgt := 1049) rfl (la_31 C X E9 hid hi hL hLL hI K)
    · exact a_tableIn C dL_law_33 (by omega) (by omega) (by rw [ej]; rfl) (tgt := 1072) rfl (la_32 C X E9 hid hi hL hLL hI K)
    · exact a_tableIn C dL_law_33 (by omega) (by omega) (by rw [ej]; rfl) (tgt := 1085) rfl (la_33 C X E9 hid hi hL hLL hI K)
    · exact a_tableIn C dL_law_33 (by omega) (by omega) (by rw [ej]; rfl) (tgt := 1118) rfl (la_34 C X E9 hid hi hL hLL hI K)
    · exact a_tableIn C dL_law_33 (by omega) (by omega) (by rw [ej]; rfl) (tgt := 1151) rfl (la_35 C X E9 hid hi hL hLL hI K)
    · exact a_tableIn C dL_law_33 (by omega) (by omega) (by rw [ej]; rfl) (tgt := 1200) rfl (la_36 C X E9 hid hi hL hLL hI K)
    · exact a_tableIn C dL_law_33 (by omega) (by omega) (by rw [ej]; rfl) (tgt := 1213) rfl (la_37 C X E9 hid hi hL hLL hI K)
    · exact a_tableIn C dL_law_33 (by omega) (by omega) (by rw [ej]; rfl) (tgt := 1246) rfl (la_38 C X E9 hid hi hL hLL hI K)
    · exact a_tableIn C dL_law_33 (by omega) (by omega) (by rw [ej]; rfl) (tgt := 1269) rfl (la_39 C X E9 hid hi hL hLL hI K)
    · exact a_tableIn C dL_law_33 (by omega) (by omega) (by rw [ej]; rfl) (tgt := 1292) rfl (la_40 C X E9 hid hi hL hLL hI K)
    · exact a_tableIn C dL_law_33 (by omega) (by omega) (by rw [ej]; rfl) (tgt := 1315) rfl (la_41 C X E9 hid hi hL hLL hI K)
