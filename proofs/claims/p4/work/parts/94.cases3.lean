set_option maxHeartbeats 4000000 in
set_option maxRecDepth 100000 in
theorem la_28 {Γ : GT} {ids : List Nat} {ad : Nat → Nat} {ca : Nat → ClassId} {l0 : Launch} {D0 : va_G} {b L n : Nat} {i : Int32} {xs : Nat → Int32} {σ : HS} {K9 : (Nat → Nat) × (Nat → Nat)} (C : CT ids ad ca Γ code RL l0 D0 2048 84000 4) (X : SX Γ b L xs) (E9 : SG K9 Γ) (hid : ∀ i, i < 277 → i ∈ ids) (hi : i.toInt = 6 * (n : Int)) (hL : 6 * n + 6 ≤ L) (hLL : L ≤ 3072) (hI : REL n σ) (K : ∀ σ : HS, REL (n + 1) σ → AW ids ad ca Γ 1338 [some (.ref b), some (.ref (ad 0)), some (.ref (ad 236)), some (.int i)] [] σ) : AW ids ad ca Γ 940 [some (.ref b), some (.ref (ad 0)), some (.ref (ad 236)), some (.int i)] [] σ := by
  refine a_aload_n C dL_law_940 (i := 1) rfl rfl ?_
  refine a_aload_n C dL_law_941 (i := 0) rfl rfl ?_
  refine a_iload_n C dL_law_942 (i := 3) rfl rfl ?_
  refine s_iconst C dL_law_943 (1) (by decide) (fun z433 h434 => ?_)
  refine s_iadd C dL_law_944 (by omega) (fun z435 h436 => ?_)
  refine s_sld C X (by omega) (by omega) dL_law_945 (fun m437 h438 => ?_)
  have hS : SIM n (f_X11_order (xs m437)) (f_X12_order (xs m437)) := sim_order
  obtain ⟨r9, s9, s8, ec, em, hN⟩ := hS σ hI
  refine a_callVi C (i := 0) kd_0 (hid 0 (by decide)) ⟨_, _, rfl⟩ (by decide) (Z_X11_order hid ec) mi_X11_order ml_RL_133 rfl rfl (Nat.le_of_ble_eq_true rfl) (Nat.le_of_ble_eq_true rfl) (Nat.le_of_ble_eq_true rfl) dL_law_946 (fun r σ1 q1 => ?_)
  obtain ⟨er, es⟩ := q1
  subst es
  subst er
  refine a_pop C dL_law_949 rfl ?_
  refine a_aload_n C dL_law_950 (i := 2) rfl rfl ?_
  refine a_aload_n C dL_law_951 (i := 0) rfl rfl ?_
  refine a_iload_n C dL_law_952 (i := 3) rfl rfl ?_
  refine s_iconst C dL_law_953 (1) (by decide) (fun z439 h440 => ?_)
  refine s_iadd C dL_law_954 (by omega) (fun z441 h442 => ?_)
  refine s_sld C X (by omega) (by omega) dL_law_955 (fun m443 h444 => ?_)
  obtain rfl : m443 = m437 := by omega
  refine a_callVi C (i := 236) kd_236 (hid 236 (by decide)) ⟨_, _, rfl⟩ (by decide) (Z_X12_order hid em) mi_X12_order ml_RL_136 rfl rfl (Nat.le_of_ble_eq_true rfl) (Nat.le_of_ble_eq_true rfl) (Nat.le_of_ble_eq_true rfl) dL_law_956 (fun r2 σ2 q2 => ?_)
  obtain ⟨er2, es2⟩ := q2
  subst es2
  subst er2
  refine a_pop C dL_law_959 rfl ?_
  exact a_goto C dL_law_960 (tgt := 1338) rfl (K _ hN)
set_option maxHeartbeats 4000000 in
set_option maxRecDepth 100000 in
theorem la_29 {Γ : GT} {ids : List Nat} {ad : Nat → Nat} {ca : Nat → ClassId} {l0 : Launch} {D0 : va_G} {b L n : Nat} {i : Int32} {xs : Nat → Int32} {σ : HS} {K9 : (Nat → Nat) × (Nat → Nat)} (C : CT ids ad ca Γ code RL l0 D0 2048 84000 4) (X : SX Γ b L xs) (E9 : SG K9 Γ) (hid : ∀ i, i < 277 → i ∈ ids) (hi : i.toInt = 6 * (n : Int)) (hL : 6 * n + 6 ≤ L) (hLL : L ≤ 3072) (hI : REL n σ) (K : ∀ σ : HS, REL (n + 1) σ → AW ids ad ca Γ 1338 [some (.ref b), some (.ref (ad 0)), some (.ref (ad 236)), some (.int i)] [] σ) : AW ids ad ca Γ 963 [some (.ref b), some (.ref (ad 0)), some (.ref (ad 236)), some (.int i)] [] σ := by
  refine a_aload_n C dL_law_963 (i := 1) rfl rfl ?_
  refine a_aload_n C dL_law_964 (i := 0) rfl rfl ?_
  refine a_iload_n C dL_law_965 (i := 3) rfl rfl ?_
  refine s_iconst C dL_law_966 (1) (by decide) (fun z445 h446 => ?_)
  refine s_iadd C dL_law_967 (by omega) (fun z447 h448 => ?_)
  refine s_sld C X (by omega) (by omega) dL_law_968 (fun m449 h450 => ?_)
  refine a_aload_n C dL_law_969 (i := 0) rfl rfl ?_
  refine a_iload_n C dL_law_970 (i := 3) rfl rfl ?_
  refine s_iconst C dL_law_971 (2) (by decide) (fun z451 h452 => ?_)
  refine s_iadd C dL_law_972 (by omega) (fun z453 h454 => ?_)
  refine s_sld C X (by omega) (by omega) dL_law_973 (fun m455 h456 => ?_)
  refine a_aload_n C dL_law_974 (i := 0) rfl rfl ?_
  refine a_iload_n C dL_law_975 (i := 3) rfl rfl ?_
  refine s_iconst C dL_law_976 (3) (by decide) (fun z457 h458 => ?_)
  refine s_iadd C dL_law_977 (by omega) (fun z459 h460 => ?_)
  refine s_sld C X (by omega) (by omega) dL_law_978 (fun m461 h462 => ?_)
  refine a_aload_n C dL_law_979 (i := 0) rfl rfl ?_
  refine a_iload_n C dL_law_980 (i := 3) rfl rfl ?_
  refine s_iconst C dL_law_981 (4) (by decide) (fun z463 h464 => ?_)
  refine s_iadd C dL_law_982 (by omega) (fun z465 h466 => ?_)
  refine s_sld C X (by omega) (by omega) dL_law_983 (fun m467 h468 => ?_)
  have hS : SIMx n (f_X11_ways (xs m449) (xs m455) (xs m461) (xs m467)) (f_X12_ways (xs m449) (xs m455) (xs m461) (xs m467)) := simx_ways
  obtain ⟨r9, r8, s9, s8, ec, em, hN⟩ := hS σ hI
  refine a_callVi C (i := 0) kd_0 (hid 0 (by decide)) ⟨_, _, rfl⟩ (by decide) (Z_X11_ways hid ec) mi_X11_ways ml_RL_137 rfl rfl (Nat.le_of_ble_eq_true rfl) (Nat.le_of_ble_eq_true rfl) (Nat.le_of_ble_eq_true rfl) dL_law_984 (fun r σ1 q1 => ?_)
  obtain ⟨er, es⟩ := q1
  subst es
  subst er
  refine a_pop C dL_law_987 rfl ?_
  refine a_aload_n C dL_law_988 (i := 2) rfl rfl ?_
  refine a_aload_n C dL_law_989 (i := 0) rfl rfl ?_
  refine a_iload_n C dL_law_990 (i := 3) rfl rfl ?_
  refine s_iconst C dL_law_991 (1) (by decide) (fun z469 h470 => ?_)
  refine s_iadd C dL_law_992 (by omega) (fun z471 h472 => ?_)
  refine s_sld C X (by omega) (by omega) dL_law_993 (fun m473 h474 => ?_)
  refine a_aload_n C dL_law_994 (i := 0) rfl rfl ?_
  refine a_iload_n C dL_law_995 (i := 3) rfl rfl ?_
  refine s_iconst C dL_law_996 (2) (by decide) (fun z475 h476 => ?_)
  refine s_iadd C dL_law_997 (by omega) (fun z477 h478 => ?_)
  refine s_sld C X (by omega) (by omega) dL_law_998 (fun m479 h480 => ?_)
  refine a_aload_n C dL_law_999 (i := 0) rfl rfl ?_
  refine a_iload_n C dL_law_1000 (i := 3) rfl rfl ?_
  refine s_iconst C dL_law_1001 (3) (by decide) (fun z481 h482 => ?_)
  refine s_iadd C dL_law_1002 (by omega) (fun z483 h484 => ?_)
  refine s_sld C X (by omega) (by omega) dL_law_1003 (fun m485 h486 => ?_)
  refine a_aload_n C dL_law_1004 (i := 0) rfl rfl ?_
  refine a_iload_n C dL_law_1005 (i := 3) rfl rfl ?_
  refine s_iconst C dL_law_1006 (4) (by decide) (fun z487 h488 => ?_)
  refine s_iadd C dL_law_1007 (by omega) (fun z489 h490 => ?_)
  refine s_sld C X (by omega) (by omega) dL_law_1008 (fun m491 h492 => ?_)
  obtain rfl : m473 = m449 := by omega
  obtain rfl : m479 = m455 := by omega
  obtain rfl : m485 = m461 := by omega
  obtain rfl : m491 = m467 := by omega
  refine a_callVi C (i := 236) kd_236 (hid 236 (by decide)) ⟨_, _, rfl⟩ (by decide) (Z_X12_ways hid em) mi_X12_ways ml_RL_141 rfl rfl (Nat.le_of_ble_eq_true rfl) (Nat.le_of_ble_eq_true rfl) (Nat.le_of_ble_eq_true rfl) dL_law_1009 (fun r2 σ2 q2 => ?_)
  obtain ⟨er2, es2⟩ := q2
  subst es2
  subst er2
  refine a_pop C dL_law_1012 rfl ?_
  exact a_goto C dL_law_1013 (tgt := 1338) rfl (K _ hN)
set_option maxHeartbeats 4000000 in
set_option maxRecDepth 100000 in
theorem la_30 {Γ : GT} {ids : List Nat} {ad : Nat → Nat} {ca : Nat → ClassId} {l0 : Launch} {D0 : va_G} {b L n : Nat} {i : Int32} {xs : Nat → Int32} {σ : HS} {K9 : (Nat → Nat) × (Nat → Nat)} (C : CT ids ad ca Γ code RL l0 D0 2048 84000 4) (X : SX Γ b L xs) (E9 : SG K9 Γ) (hid : ∀ i, i < 277 → i ∈ ids) (hi : i.toInt = 6 * (n : Int)) (hL : 6 * n + 6 ≤ L) (hLL : L ≤ 3072) (hI : REL n σ) (K : ∀ σ : HS, REL (n + 1) σ → AW ids ad ca Γ 1338 [some (.ref b), some (.ref (ad 0)), some (.ref (ad 236)), some (.int i)] [] σ) : AW ids ad ca Γ 1016 [some (.ref b), some (.ref (ad 0)), some (.ref (ad 236)), some (.int i)] [] σ := by
  refine a_aload_n C dL_law_1016 (i := 1) rfl rfl ?_
  refine a_aload_n C dL_law_1017 (i := 0) rfl rfl ?_
  refine a_iload_n C dL_law_1018 (i := 3) rfl rfl ?_
  refine s_iconst C dL_law_1019 (1) (by decide) (fun z493 h494 => ?_)
  refine s_iadd C dL_law_1020 (by omega) (fun z495 h496 => ?_)
  refine s_sld C X (by omega) (by omega) dL_law_1021 (fun m497 h498 => ?_)
  refine a_aload_n C dL_law_1022 (i := 0) rfl rfl ?_
  refine a_iload_n C dL_law_1023 (i := 3) rfl rfl ?_
  refine s_iconst C dL_law_1024 (2) (by decide) (fun z499 h500 => ?_)
  refine s_iadd C dL_law_1025 (by omega) (fun z501 h502 => ?_)
  refine s_sld C X (by omega) (by omega) dL_law_1026 (fun m503 h504 => ?_)
  have hS : SIMx n (f_X11_light (xs m497) (xs m503)) (f_X12_light (xs m497) (xs m503)) := simx_light (by omega)
  obtain ⟨r9, r8, s9, s8, ec, em, hN⟩ := hS σ hI
  refine a_callVi C (i := 0) kd_0 (hid 0 (by decide)) ⟨_, _, rfl⟩ (by decide) (Z_X11_light hid ec) mi_X11_light ml_RL_142 rfl rfl (Nat.le_of_ble_eq_true rfl) (Nat.le_of_ble_eq_true rfl) (Nat.le_of_ble_eq_true rfl) dL_law_1027 (fun r σ1 q1 => ?_)
  obtain ⟨er, es⟩ := q1
  subst es
  subst er
  refine a_pop C dL_law_1030 rfl ?_
  refine a_aload_n C dL_law_1031 (i := 2) rfl rfl ?_
  refine a_aload_n C dL_law_1032 (i := 0) rfl rfl ?_
  refine a_iload_n C dL_law_1033 (i := 3) rfl rfl ?_
  refine s_iconst C dL_law_1034 (1) (by decide) (fun z505 h506 => ?_)
  refine s_iadd C dL_law_1035 (by omega) (fun z507 h508 => ?_)
  refine s_sld C X (by omega) (by omega) dL_law_1036 (fun m509 h510 => ?_)
  refine a_aload_n C dL_law_1037 (i := 0) rfl rfl ?_
  refine a_iload_n C dL_law_1038 (i := 3) rfl rfl ?_
  refine s_iconst C dL_law_1039 (2) (by decide) (fun z511 h512 => ?_)
  refine s_iadd C dL_law_1040 (by omega) (fun z513 h514 => ?_)
  refine s_sld C X (by omega) (by omega) dL_law_1041 (fun m515 h516 => ?_)
  obtain rfl : m509 = m497 := by omega
  obtain rfl : m515 = m503 := by omega
  refine a_callVi C (i := 236) kd_236 (hid 236 (by decide)) ⟨_, _, rfl⟩ (by decide) (Z_X12_light hid em) mi_X12_light ml_RL_145 rfl rfl (Nat.le_of_ble_eq_true rfl) (Nat.le_of_ble_eq_true rfl) (Nat.le_of_ble_eq_true rfl) dL_law_1042 (fun r2 σ2 q2 => ?_)
  obtain ⟨er2, es2⟩ := q2
  subst es2
  subst er2
  refine a_pop C dL_law_1045 rfl ?_
  exact a_goto C dL_law_1046 (tgt := 1338) rfl (K _ hN)
set_option maxHeartbeats 4000000 in
set_option maxRecDepth 100000 in
theorem la_31 {Γ : GT} {ids : List Nat} {ad : Nat → Nat} {ca : Nat → ClassId} {l0 : Launch} {D0 : va_G} {b L n : Nat} {i : Int32} {xs : Nat → Int32} {σ : HS} {K9 : (Nat → Nat) × (Nat → Nat)} (C : CT ids ad ca Γ code RL l0 D0 2048 84000 4) (X : SX Γ b L xs) (E9 : SG K9 Γ) (hid : ∀ i, i < 277 → i ∈ ids) (hi : i.toInt = 6 * (n : Int)) (hL : 6 * n + 6 ≤ L) (hLL : L ≤ 3072) (hI : REL n σ) (K : ∀ σ : HS, REL (n + 1) σ → AW ids ad ca Γ 1338 [some (.ref b), some (.ref (ad 0)), some (.ref (ad 236)), some (.int i)] [] σ) : AW ids ad ca Γ 1049 [some (.ref b), some (.ref (ad 0)), some (.ref (ad 236)), some (.int i)] [] σ := by
  refine a_aload_n C dL_law_1049 (i := 1) rfl rfl ?_
  refine a_aload_n C dL_law_1050 (i := 0) rfl rfl ?_
  refine a_iload_n C dL_law_1051 (i := 3) rfl rfl ?_
  refine s_iconst C dL_law_1052 (1) (by decide) (fun z517 h518 => ?_)
  refine s_iadd C dL_law_1053 (by omega) (fun z519 h520 => ?_)
  refine s_sld C X (by omega) (by omega) dL_law_1054 (fun m521 h522 => ?_)
  have hS : SIM n (f_X11_rule (xs m521)) (f_X12_rule (xs m521)) := sim_rule (by omega)
  obtain ⟨r9, s9, s8, ec, em, hN⟩ := hS σ hI
  refine a_callVi C (i := 0) kd_0 (hid 0 (by decide)) ⟨_, _, rfl⟩ (by decide) (Z_X11_rule hid ec) mi_X11_rule ml_RL_146 rfl rfl (Nat.le_of_ble_eq_true rfl) (Nat.le_of_ble_eq_true rfl) (Nat.le_of_ble_eq_true rfl) dL_law_1055 (fun r σ1 q1 => ?_)
  obtain ⟨er, es⟩ := q1
  subst es
  subst er
  refine a_pop C dL_law_1058 rfl ?_
  refine a_aload_n C dL_law_1059 (i := 2) rfl rfl ?_
  refine a_aload_n C dL_law_1060 (i := 0) rfl rfl ?_
  refine a_iload_n C dL_law_1061 (i := 3) rfl rfl ?_
  refine s_iconst C dL_law_1062 (1) (by decide) (fun z523 h524 => ?_)
  refine s_iadd C dL_law_1063 (by omega) (fun z525 h526 => ?_)
  refine s_sld C X (by omega) (by omega) dL_law_1064 (fun m527 h528 => ?_)
  obtain rfl : m527 = m521 := by omega
  refine a_callVi C (i := 236) kd_236 (hid 236 (by decide)) ⟨_, _, rfl⟩ (by decide) (Z_X12_rule hid em) mi_X12_rule ml_RL_149 rfl rfl (Nat.le_of_ble_eq_true rfl) (Nat.le_of_ble_eq_true rfl) (Nat.le_of_ble_eq_true rfl) dL_law_1065 (fun r2 σ2 q2 => ?_)
  obtain ⟨er2, es2⟩ := q2
  subst es2
  subst er2
  refine a_pop C dL_law_1068 rfl ?_
  exact a_goto C dL_law_1069 (tgt := 1338) rfl (K _ hN)
set_option maxHeartbeats 4000000 in
set_option maxRecDepth 100000 in
theorem la_32 {Γ : GT} {ids : List Nat} {ad : Nat → Nat} {ca : Nat → ClassId} {l0 : Launch} {D0 : va_G} {b L n : Nat} {i : Int32} {xs : Nat → Int32} {σ : HS} {K9 : (Nat → Nat) × (Nat → Nat)} (C : CT ids ad ca Γ code RL l0 D0 2048 84000 4) (X : SX Γ b L xs) (E9 : SG K9 Γ) (hid : ∀ i, i < 277 → i ∈ ids) (hi : i.toInt = 6 * (n : Int)) (hL : 6 * n + 6 ≤ L) (hLL : L ≤ 3072) (hI : REL n σ) (K : ∀ σ : HS, REL (n + 1) σ → AW ids ad ca Γ 1338 [some (.ref b), some (.ref (ad 0)), some (.ref (ad 236)), some (.int i)] [] σ) : AW ids ad ca Γ 1072 [some (.ref b), some (.ref (ad 0)), some (.ref (ad 236)), some (.int i)] [] σ := by
  refine a_aload_n C dL_law_1072 (i := 1) rfl rfl ?_
  have hS : SIMx n (f_X11_down) (f_X12_down) := simx_down (by omega)
  obtain ⟨r9, r8, s9, s8, ec, em, hN⟩ := hS σ hI
  refine a_callVi C (i := 0) kd_0 (hid 0 (by decide)) ⟨_, _, rfl⟩ (by decide) (Z_X11_down hid ec) mi_X11_down ml_RL_150 rfl rfl (Nat.le_of_ble_eq_true rfl) (Nat.le_of_ble_eq_true rfl) (Nat.le_of_ble_eq_true rfl) dL_law_1073 (fun r σ1 q1 => ?_)
  obtain ⟨er, es⟩ := q1
  subst es
  subst er
  refine a_pop C dL_law_1076 rfl ?_
  refine a_aload_n C dL_law_1077 (i := 2) rfl rfl ?_
  refine a_callVi C (i := 236) kd_236 (hid 236 (by decide)) ⟨_, _, rfl⟩ (by decide) (Z_X12_down hid em) mi_X12_down ml_RL_153 rfl rfl (Nat.le_of_ble_eq_true rfl) (Nat.le_of_ble_eq_true rfl) (Nat.le_of_ble_eq_true rfl) dL_law_1078 (fun r2 σ2 q2 => ?_)
  obtain ⟨er2, es2⟩ := q2
  subst es2
  subst er2
  refine a_pop C dL_law_1081 rfl ?_
  exact a_goto C dL_law_1082 (tgt := 1338) rfl (K _ hN)
set_option maxHeartbeats 4000000 in
set_option maxRecDepth 100000 in
theorem la_33 {Γ : GT} {ids : List Nat} {ad : Nat → Nat} {ca : Nat → ClassId} {l0 : Launch} {D0 : va_G} {b L n : Nat} {i : Int32} {xs : Nat → Int32} {σ : HS} {K9 : (Nat → Nat) × (Nat → Nat)} (C : CT ids ad ca Γ code RL l0 D0 2048 84000 4) (X : SX Γ b L xs) (E9 : SG K9 Γ) (hid : ∀ i, i < 277 → i ∈ ids) (hi : i.toInt = 6 * (n : Int)) (hL : 6 * n + 6 ≤ L) (hLL : L ≤ 3072) (hI : REL n σ) (K : ∀ σ : HS, REL (n + 1) σ → AW ids ad ca Γ 1338 [some (.ref b), some (.ref (ad 0)), some (.ref (ad 236)), some (.int i)] [] σ) : AW ids ad ca Γ 1085 [some (.ref b), some (.ref (ad 0)), some (.ref (ad 236)), some (.int i)] [] σ := by
  refine a_aload_n C dL_law_1085 (i := 1) rfl rfl ?_
  refine a_aload_n C dL_law_1086 (i := 0) rfl rfl ?_
  refine a_iload_n C dL_law_1087 (i := 3) rfl rfl ?_
  refine s_iconst C dL_law_1088 (1) (by decide) (fun z529 h530 => ?_)
  refine s_iadd C dL_law_1089 (by omega) (fun z531 h532 => ?_)
  refine s_sld C X (by omega) (by omega) dL_law_1090 (fun m533 h534 => ?_)
  refine a_aload_n C dL_law_1091 (i := 0) rfl rfl ?_
  refine a_iload_n C dL_law_1092 (i := 3) rfl rfl ?_
  refine s_iconst C dL_law_1093 (2) (by decide) (fun z535 h536 => ?_)
  refine s_iadd C dL_law_1094 (by omega) (fun z537 h538 => ?_)
  refine s_sld C X (by omega) (by omega) dL_law_1095 (fun m539 h540 => ?_)
  have hS : SIM n (f_X11_then (xs m533) (xs m539)) (f_X12_then (xs m533) (xs m539)) := sim_then (by omega)
  obtain ⟨r9, s9, s8, ec, em, hN⟩ := hS σ hI
  refine a_callVi C (i := 0) kd_0 (hid 0 (by decide)) ⟨_, _, rfl⟩ (by decide) (Z_X11_then hid ec) mi_X11_then ml_RL_154 rfl rfl (Nat.le_of_ble_eq_true rfl) (Nat.le_of_ble_eq_true rfl) (Nat.le_of_ble_eq_true rfl) dL_law_1096 (fun r σ1 q1 => ?_)
  obtain ⟨er, es⟩ := q1
  subst es
  subst er
  refine a_pop C dL_law_1099 rfl ?_
  refine a_aload_n C dL_law_1100 (i := 2) rfl rfl ?_
  refine a_aload_n C dL_law_1101 (i := 0) rfl rfl ?_
  refine a_iload_n C dL_law_1102 (i := 3) rfl rfl ?_
  refine s_iconst C dL_law_1103 (1) (by decide) (fun z541 h542 => ?_)
  refine s_iadd C dL_law_1104 (by omega) (fun z543 h544 => ?_)
  refine s_sld C X (by omega) (by omega) dL_law_1105 (fun m545 h546 => ?_)
  refine a_aload_n C dL_law_1106 (i := 0) rfl rfl ?_
  refine a_iload_n C dL_law_1107 (i := 3) rfl rfl ?_
  refine s_iconst C dL_law_1108 (2) (by decide) (fun z547 h548 => ?_)
  refine s_iadd C dL_law_1109 (by omega) (fun z549 h550 => ?_)
  refine s_sld C X (by omega) (by omega) dL_law_1110 (fun m551 h552 => ?_)
  obtain rfl : m545 = m533 := by omega
  obtain rfl : m551 = m539 := by omega
  refine a_callVi C (i := 236) kd_236 (hid 236 (by decide)) ⟨_, _, rfl⟩ (by decide) (Z_X12_then hid em) mi_X12_then ml_RL_157 rfl rfl (Nat.le_of_ble_eq_true rfl) (Nat.le_of_ble_eq_true rfl) (Nat.le_of_ble_eq_true rfl) dL_law_1111 (fun r2 σ2 q2 => ?_)
  obtain ⟨er2, es2⟩ := q2
  subst es2
  subst er2
  refine a_pop C dL_law_1114 rfl ?_
  exact a_goto C dL_law_1115 (tgt := 1338) rfl (K _ hN)
set_option maxHeartbeats 4000000 in
set_option maxRecDepth 100000 in
theorem la_34 {Γ : GT} {ids : List Nat} {ad : Nat → Nat} {ca : Nat → ClassId} {l0 : Launch} {D0 : va_G} {b L n : Nat} {i : Int32} {xs : Nat → Int32} {σ : HS} {K9 : (Nat → Nat) × (Nat → Nat)} (C : CT ids ad ca Γ code RL l0 D0 2048 84000 4) (X : SX Γ b L xs) (E9 : SG K9 Γ) (hid : ∀ i, i < 277 → i ∈ ids) (hi : i.toInt = 6 * (n : Int)) (hL : 6 * n + 6 ≤ L) (hLL : L ≤ 3072) (hI : REL n σ) (K : ∀ σ : HS, REL (n + 1) σ → AW ids ad ca Γ 1338 [some (.ref b), some (.ref (ad 0)), some (.ref (ad 236)), some (.int i)] [] σ) : AW ids ad ca Γ 1118 [some (.ref b), some (.ref (ad 0)), some (.ref (ad 236)), some (.int i)] [] σ := by
  refine a_aload_n C dL_law_1118 (i := 1) rfl rfl ?_
  refine a_aload_n C dL_law_1119 (i := 0) rfl rfl ?_
  refine a_iload_n C dL_law_1120 (i := 3) rfl rfl ?_
  refine s_iconst C dL_law_1121 (1) (by decide) (fun z553 h554 => ?_)
  refine s_iadd C dL_law_1122 (by omega) (fun z555 h556 => ?_)
  refine s_sld C X (by omega) (by omega) dL_law_1123 (fun m557 h558 => ?_)
  refine a_aload_n C dL_law_1124 (i := 0) rfl rfl ?_
  refine a_iload_n C dL_law_1125 (i := 3) rfl rfl ?_
  refine s_iconst C dL_law_1126 (2) (by decide) (fun z559 h560 => ?_)
  refine s_iadd C dL_law_1127 (by omega) (fun z561 h562 => ?_)
  refine s_sld C X (by omega) (by omega) dL_law_1128 (fun m563 h564 => ?_)
  have hS : SIM n (f_X11_year (xs m557) (xs m563)) (f_X12_year (xs m557) (xs m563)) := sim_year (by omega)
  obtain ⟨r9, s9, s8, ec, em, hN⟩ := hS σ hI
  refine a_callVi C (i := 0) kd_0 (hid 0 (by decide)) ⟨_, _, rfl⟩ (by decide) (Z_X11_year hid ec) mi_X11_year ml_RL_158 rfl rfl (Nat.le_of_ble_eq_true rfl) (Nat.le_of_ble_eq_true rfl) (Nat.le_of_ble_eq_true rfl) dL_law_1129 (fun r σ1 q1 => ?_)
  obtain ⟨er, es⟩ := q1
  subst es
  subst er
  refine a_pop C dL_law_1132 rfl ?_
  refine a_aload_n C dL_law_1133 (i := 2) rfl rfl ?_
  refine a_aload_n C dL_law_1134 (i := 0) rfl rfl ?_
  refine a_iload_n C dL_law_1135 (i := 3) rfl rfl ?_
  refine s_iconst C dL_law_1136 (1) (by decide) (fun z565 h566 => ?_)
  refine s_iadd C dL_law_1137 (by omega) (fun z567 h568 => ?_)
  refine s_sld C X (by omega) (by omega) dL_law_1138 (fun m569 h570 => ?_)
  refine a_aload_n C dL_law_1139 (i := 0) rfl rfl ?_
  refine a_iload_n C dL_law_1140 (i := 3) rfl rfl ?_
  refine s_iconst C dL_law_1141 (2) (by decide) (fun z571 h572 => ?_)
  refine s_iadd C dL_law_1142 (by omega) (fun z573 h574 => ?_)
  refine s_sld C X (by omega) (by omega) dL_law_1143 (fun m575 h576 => ?_)
  obtain rfl : m569 = m557 := by omega
  obtain rfl : m575 = m563 := by omega
  refine a_callVi C (i := 236) kd_236 (hid 236 (by decide)) ⟨_, _, rfl⟩ (by decide) (Z_X12_year hid em) mi_X12_year ml_RL_161 rfl rfl (Nat.le_of_ble_eq_true rfl) (Nat.le_of_ble_eq_true rfl) (Nat.le_of_ble_eq_true rfl) dL_law_1144 (fun r2 σ2 q2 => ?_)
  obtain ⟨er2, es2⟩ := q2
  subst es2
  subst er2
  refine a_pop C dL_law_1147 rfl ?_
  exact a_goto C dL_law_1148 (tgt := 1338) rfl (K _ hN)
set_option maxHeartbeats 4000000 in
set_option maxRecDepth 100000 in
theorem la_35 {Γ : GT} {ids : List Nat} {ad : Nat → Nat} {ca : Nat → ClassId} {l0 : Launch} {D0 : va_G} {b L n : Nat} {i : Int32} {xs : Nat → Int32} {σ : HS} {K9 : (Nat → Nat) × (Nat → Nat)} (C : CT ids ad ca Γ code RL l0 D0 2048 84000 4) (X : SX Γ b L xs) (E9 : SG K9 Γ) (hid : ∀ i, i < 277 → i ∈ ids) (hi : i.toInt = 6 * (n : Int)) (hL : 6 * n + 6 ≤ L) (hLL : L ≤ 3072) (hI : REL n σ) (K : ∀ σ : HS, REL (n + 1) σ → AW ids ad ca Γ 1338 [some (.ref b), some (.ref (ad 0)), some (.ref (ad 236)), some (.int i)] [] σ) : AW ids ad ca Γ 1151 [some (.ref b), some (.ref (ad 0)), some (.ref (ad 236)), some (.int i)] [] σ := by
  refine a_aload_n C dL_law_1151 (i := 1) rfl rfl ?_
  refine a_aload_n C dL_law_1152 (i := 0) rfl rfl ?_
  refine a_iload_n C dL_law_1153 (i := 3) rfl rfl ?_
  refine s_iconst C dL_law_1154 (1) (by decide) (fun z577 h578 => ?_)
  refine s_iadd C dL_law_1155 (by omega) (fun z579 h580 => ?_)
  refine s_sld C X (by omega) (by omega) dL_law_1156 (fun m581 h582 => ?_)
  refine a_aload_n C dL_law_1157 (i := 0) rfl rfl ?_
  refine a_iload_n C dL_law_1158 (i := 3) rfl rfl ?_
  refine s_iconst C dL_law_1159 (2) (by decide) (fun z583 h584 => ?_)
  refine s_iadd C dL_law_1160 (by omega) (fun z585 h586 => ?_)
  refine s_sld C X (by omega) (by omega) dL_law_1161 (fun m587 h588 => ?_)
  refine s_if_eq C dL_law_1162 (tgt := 1169) rfl (fun hz589 => ?_) (fun hz589 => ?_)
  ·
    refine s_iconst C dL_law_1169 (0) (by decide) (fun z590 h591 => ?_)
    have hy : z590 = 0 ∨ z590 = 1 := by first | exact Or.inl (Int32.toInt_inj.mp h591) | exact Or.inr (Int32.toInt_inj.mp h591)
    have hS : SIM n (f_X11_tell (xs m581) z590) (f_X12_tell (xs m581) z590) := sim_tell hy
    obtain ⟨r9, s9, s8, ec, em, hN⟩ := hS σ hI
    refine a_callVi C (i := 0) kd_0 (hid 0 (by decide)) ⟨_, _, rfl⟩ (by decide) (Z_X11_tell hid ec) mi_X11_tell ml_RL_162 rfl rfl (Nat.le_of_ble_eq_true rfl) (Nat.le_of_ble_eq_true rfl) (Nat.le_of_ble_eq_true rfl) dL_law_1170 (fun r σ1 q1 => ?_)
    obtain ⟨er, es⟩ := q1
    subst es
    subst er
    refine a_pop C dL_law_1173 rfl ?_
    refine a_aload_n C dL_law_1174 (i := 2) rfl rfl ?_
    refine a_aload_n C dL_law_1175 (i := 0) rfl rfl ?_
    refine a_iload_n C dL_law_1176 (i := 3) rfl rfl ?_
    refine s_iconst C dL_law_1177 (1) (by decide) (fun z592 h593 => ?_)
    refine s_iadd C dL_law_1178 (by omega) (fun z594 h595 => ?_)
    refine s_sld C X (by omega) (by omega) dL_law_1179 (fun m596 h597 => ?_)
    refine a_aload_n C dL_law_1180 (i := 0) rfl rfl ?_
    refine a_iload_n C dL_law_1181 (i := 3) rfl rfl ?_
    refine s_iconst C dL_law_1182 (2) (by decide) (fun z598 h599 => ?_)
    refine s_iadd C dL_law_1183 (by omega) (fun z600 h601 => ?_)
    refine s_sld C X (by omega) (by omega) dL_law_1184 (fun m602 h603 => ?_)
    refine s_if_eq C dL_law_1185 (tgt := 1192) rfl (fun hz604 => ?_) (fun hz604 => ?_)
    ·
      obtain rfl : m602 = m587 := by omega
      refine s_iconst C dL_law_1192 (0) (by decide) (fun z605 h606 => ?_)
      obtain rfl : m596 = m581 := by omega
      obtain rfl : z605 = z590 := Int32.toInt_inj.mp (by omega)
      refine a_callVi C (i := 236) kd_236 (hid 236 (by decide)) ⟨_, _, rfl⟩ (by decide) (Z_X12_tell hid em) mi_X12_tell ml_RL_166 rfl rfl (Nat.le_of_ble_eq_true rfl) (Nat.le_of_ble_eq_true rfl) (Nat.le_of_ble_eq_true rfl) dL_law_1193 (fun r2 σ2 q2 => ?_)
      obtain ⟨er2, es2⟩ := q2
      subst es2
      subst er2
      refine a_pop C dL_law_1196 rfl ?_
      exact a_goto C dL_law_1197 (tgt := 1338) rfl (K _ hN)
    ·
      obtain rfl : m602 = m587 := by omega
      exfalso
      omega
  ·
    refine s_iconst C dL_law_1165 (1) (by decide) (fun z607 h608 => ?_)
    refine a_goto C dL_law_1166 (tgt := 1170) rfl ?_
    have hy : z607 = 0 ∨ z607 = 1 := by first | exact Or.inl (Int32.toInt_inj.mp h608) | exact Or.inr (Int32.toInt_inj.mp h608)
    have hS : SIM n (f_X11_tell (xs m581) z607) (f_X12_tell (xs m581) z607) := sim_tell hy
    obtain ⟨r9, s9, s8, ec, em, hN⟩ := hS σ hI
    refine a_callVi C (i := 0) kd_0 (hid 0 (by decide)) ⟨_, _, rfl⟩ (by decide) (Z_X11_tell hid ec) mi_X11_tell ml_RL_162 rfl rfl (Nat.le_of_ble_eq_true rfl) (Nat.le_of_ble_eq_true rfl) (Nat.le_of_ble_eq_true rfl) dL_law_1170 (fun r σ1 q1 => ?_)
    obtain ⟨er, es⟩ := q1
    subst es
    subst er
    refine a_pop C dL_law_1173 rfl ?_
    refine a_aload_n C dL_law_1174 (i := 2) rfl rfl ?_
    refine a_aload_n C dL_law_1175 (i := 0) rfl rfl ?_
    refine a_iload_n C dL_law_1176 (i := 3) rfl rfl ?_
    refine s_iconst C dL_law_1177 (1) (by decide) (fun z609 h610 => ?_)
    refine s_iadd C dL_law_1178 (by omega) (fun z611 h612 => ?_)
    refine s_sld C X (by omega) (by omega) dL_law_1179 (fun m613 h614 => ?_)
    refine a_aload_n C dL_law_1180 (i := 0) rfl rfl ?_
    refine a_iload_n C dL_law_1181 (i := 3) rfl rfl ?_
    refine s_iconst C dL_law_1182 (2) (by decide) (fun z615 h616 => ?_)
    refine s_iadd C dL_law_1183 (by omega) (fun z617 h618 => ?_)
    refine s_sld C X (by omega) (by omega) dL_law_1184 (fun m619 h620 => ?_)
    refine s_if_eq C dL_law_1185 (tgt := 1192) rfl (fun hz621 => ?_) (fun hz621 => ?_)
    ·
      obtain rfl : m619 = m587 := by omega
      exfalso
      omega
    ·
      obtain rfl : m619 = m587 := by omega
      refine s_iconst C dL_law_1188 (1) (by decide) (fun z622 h623 => ?_)
      refine a_goto C dL_law_1189 (tgt := 1193) rfl ?_
      obtain rfl : m613 = m581 := by omega
      obtain rfl : z622 = z607 := Int32.toInt_inj.mp (by omega)
      refine a_callVi C (i := 236) kd_236 (hid 236 (by decide)) ⟨_, _, rfl⟩ (by decide) (Z_X12_tell hid em) mi_X12_tell ml_RL_166 rfl rfl (Nat.le_of_ble_eq_true rfl) (Nat.le_of_ble_eq_true rfl) (Nat.le_of_ble_eq_true rfl) dL_law_1193 (fun r2 σ2 q2 => ?_)
      obtain ⟨er2, es2⟩ := q2
      subst es2
      subst er2
      refine a_pop C dL_law_1196 rfl ?_
      exact a_goto C dL_law_1197 (tgt := 1338) rfl (K _ hN)
set_option maxHeartbeats 4000000 in
set_option maxRecDepth 100000 in
theorem la_36 {Γ : GT} {ids : List Nat} {ad : Nat → Nat} {ca : Nat → ClassId} {l0 : Launch} {D0 : va_G} {b L n : Nat} {i : Int32} {xs : Nat → Int32} {σ : HS} {K9 : (Nat → Nat) × (Nat → Nat)} (C : CT ids ad ca Γ code RL l0 D0 2048 84000 4) (X : SX Γ b L xs) (E9 : SG K9 Γ) (hid : ∀ i, i < 277 → i ∈ ids) (hi : i.toInt = 6 * (n : Int)) (hL : 6 * n + 6 ≤ L) (hLL : L ≤ 3072) (hI : REL n σ) (K : ∀ σ : HS, REL (n + 1) σ → AW ids ad ca Γ 1338 [some (.ref b), some (.ref (ad 0)), some (.ref (ad 236)), some (.int i)] [] σ) : AW ids ad ca Γ 1200 [some (.ref b), some (.ref (ad 0)), some (.ref (ad 236)), some (.int i)] [] σ := by
  refine a_aload_n C dL_law_1200 (i := 1) rfl rfl ?_
  have hS : SIM n (f_X11_forget) (f_X12_forget) := sim_forget
  obtain ⟨r9, s9, s8, ec, em, hN⟩ := hS σ hI
  refine a_callVi C (i := 0) kd_0 (hid 0 (by decide)) ⟨_, _, rfl⟩ (by decide) (Z_X11_forget hid ec) mi_X11_forget ml_RL_167 rfl rfl (Nat.le_of_ble_eq_true rfl) (Nat.le_of_ble_eq_true rfl) (Nat.le_of_ble_eq_true rfl) dL_law_1201 (fun r σ1 q1 => ?_)
  obtain ⟨er, es⟩ := q1
  subst es
  subst er
  refine a_pop C dL_law_1204 rfl ?_
  refine a_aload_n C dL_law_1205 (i := 2) rfl rfl ?_
  refine a_callVi C (i := 236) kd_236 (hid 236 (by decide)) ⟨_, _, rfl⟩ (by decide) (Z_X12_forget hid em) mi_X12_forget ml_RL_170 rfl rfl (Nat.le_of_ble_eq_true rfl) (Nat.le_of_ble_eq_true rfl) (Nat.le_of_ble_eq_true rfl) dL_law_1206 (fun r2 σ2 q2 => ?_)
  obtain ⟨er2, es2⟩ := q2
  subst es2
  subst er2
  refine a_pop C dL_law_1209 rfl ?_
  exact a_goto C dL_law_1210 (tgt := 1338) rfl (K _ hN)
set_option maxHeartbeats 4000000 in
set_option maxRecDepth 100000 in
theorem la_37 {Γ : GT} {ids : List Nat} {ad : Nat → Nat} {ca : Nat → ClassId} {l0 : Launch} {D0 : va_G} {b L n : Nat} {i : Int32} {xs : Nat → Int32} {σ : HS} {K9 : (Nat → Nat) × (Nat → Nat)} (C : CT ids ad ca Γ code RL l0 D0 2048 84000 4) (X : SX Γ b L xs) (E9 : SG K9 Γ) (hid : ∀ i, i < 277 → i ∈ ids) (hi : i.toInt = 6 * (n : Int)) (hL : 6 * n + 6 ≤ L) (hLL : L ≤ 3072) (hI : REL n σ) (K : ∀ σ : HS, REL (n + 1) σ → AW ids ad ca Γ 1338 [some (.ref b), some (.ref (ad 0)), some (.ref (ad 236)), some (.int i)] [] σ) : AW ids ad ca Γ 1213 [some (.ref b), some (.ref (ad 0)), some (.ref (ad 236)), some (.int i)] [] σ := by
  refine a_aload_n C dL_law_1213 (i := 1) rfl rfl ?_
  refine a_aload_n C dL_law_1214 (i := 0) rfl rfl ?_
  refine a_iload_n C dL_law_1215 (i := 3) rfl rfl ?_
  refine s_iconst C dL_law_1216 (1) (by decide) (fun z624 h625 => ?_)
  refine s_iadd C dL_law_1217 (by omega) (fun z626 h627 => ?_)
  refine s_sld C X (by omega) (by omega) dL_law_1218 (fun m628 h629 => ?_)
  refine a_aload_n C dL_law_1219 (i := 0) rfl rfl ?_
  refine a_iload_n C dL_law_1220 (i := 3) rfl rfl ?_
  refine s_iconst C dL_law_1221 (2) (by decide) (fun z630 h631 => ?_)
  refine s_iadd C dL_law_1222 (by omega) (fun z632 h633 => ?_)
  refine s_sld C X (by omega) (by omega) dL_law_1223 (fun m634 h635 => ?_)
  have hS : SIM n (f_X11_glitters (xs m628) (xs m634)) (f_X12_glitters (xs m628) (xs m634)) := sim_glitters (by omega)
  obtain ⟨r9, s9, s8, ec, em, hN⟩ := hS σ hI
  refine a_callVi C (i := 0) kd_0 (hid 0 (by decide)) ⟨_, _, rfl⟩ (by decide) (Z_X11_glitters hid ec) mi_X11_glitters ml_RL_171 rfl rfl (Nat.le_of_ble_eq_true rfl) (Nat.le_of_ble_eq_true rfl) (Nat.le_of_ble_eq_true rfl) dL_law_1224 (fun r σ1 q1 => ?_)
  obtain ⟨er, es⟩ := q1
  subst es
  subst er
  refine a_pop C dL_law_1227 rfl ?_
  refine a_aload_n C dL_law_1228 (i := 2) rfl rfl ?_
  refine a_aload_n C dL_law_1229 (i := 0) rfl rfl ?_
  refine a_iload_n C dL_law_1230 (i := 3) rfl rfl ?_
  refine s_iconst C dL_law_1231 (1) (by decide) (fun z636 h637 => ?_)
  refine s_iadd C dL_law_1232 (by omega) (fun z638 h639 => ?_)
  refine s_sld C X (by omega) (by omega) dL_law_1233 (fun m640 h641 => ?_)
  refine a_aload_n C dL_law_1234 (i := 0) rfl rfl ?_
  refine a_iload_n C dL_law_1235 (i := 3) rfl rfl ?_
  refine s_iconst C dL_law_1236 (2) (by decide) (fun z642 h643 => ?_)
  refine s_iadd C dL_law_1237 (by omega) (fun z644 h645 => ?_)
  refine s_sld C X (by omega) (by omega) dL_law_1238 (fun m646 h647 => ?_)
  obtain rfl : m640 = m628 := by omega
  obtain rfl : m646 = m634 := by omega
  refine a_callVi C (i := 236) kd_236 (hid 236 (by decide)) ⟨_, _, rfl⟩ (by decide) (Z_X12_glitters hid em) mi_X12_glitters ml_RL_174 rfl rfl (Nat.le_of_ble_eq_true rfl) (Nat.le_of_ble_eq_true rfl) (Nat.le_of_ble_eq_true rfl) dL_law_1239 (fun r2 σ2 q2 => ?_)
  obtain ⟨er2, es2⟩ := q2
  subst es2
  subst er2
  refine a_pop C dL_law_1242 rfl ?_
  exact a_goto C dL_law_1243 (tgt := 1338) rfl (K _ hN)
set_option maxHeartbeats 4000000 in
set_option maxRecDepth 100000 in
theorem la_38 {Γ : GT} {ids : List Nat} {ad : Nat → Nat} {ca : Nat → ClassId} {l0 : Launch} {D0 : va_G} {b L n : Nat} {i : Int32} {xs : Nat → Int32} {σ : HS} {K9 : (Nat → Nat) × (Nat → Nat)} (C : CT ids ad ca Γ code RL l0 D0 2048 84000 4) (X : SX Γ b L xs) (E9 : SG K9 Γ) (hid : ∀ i, i < 277 → i ∈ ids) (hi : i.toInt = 6 * (n : Int)) (hL : 6 * n + 6 ≤ L) (hLL : L ≤ 3072) (hI : REL n σ) (K : ∀ σ : HS, REL (n + 1) σ → AW ids ad ca Γ 1338 [some (.ref b), some (.ref (ad 0)), some (.ref (ad 236)), some (.int i)] [] σ) : AW ids ad ca Γ 1246 [some (.ref b), some (.ref (ad 0)), some (.ref (ad 236)), some (.int i)] [] σ := by
  refine a_aload_n C dL_law_1246 (i := 1) rfl rfl ?_
  refine a_aload_n C dL_law_1247 (i := 0) rfl rfl ?_
  refine a_iload_n C dL_law_1248 (i := 3) rfl rfl ?_
  refine s_iconst C dL_law_1249 (1) (by decide) (fun z648 h649 => ?_)
  refine s_iadd C dL_law_1250 (by omega) (fun z650 h651 => ?_)
  refine s_sld C X (by omega) (by omega) dL_law_1251 (fun m652 h653 => ?_)
  have hS : SIM n (f_X11_watch (xs m652)) (f_X12_watch (xs m652)) := sim_watch (by omega)
  obtain ⟨r9, s9, s8, ec, em, hN⟩ := hS σ hI
  refine a_callVi C (i := 0) kd_0 (hid 0 (by decide)) ⟨_, _, rfl⟩ (by decide) (Z_X11_watch hid ec) mi_X11_watch ml_RL_175 rfl rfl (Nat.le_of_ble_eq_true rfl) (Nat.le_of_ble_eq_true rfl) (Nat.le_of_ble_eq_true rfl) dL_law_1252 (fun r σ1 q1 => ?_)
  obtain ⟨er, es⟩ := q1
  subst es
  subst er
  refine a_pop C dL_law_1255 rfl ?_
  refine a_aload_n C dL_law_1256 (i := 2) rfl rfl ?_
  refine a_aload_n C dL_law_1257 (i := 0) rfl rfl ?_
  refine a_iload_n C dL_law_1258 (i := 3) rfl rfl ?_
  refine s_iconst C dL_law_1259 (1) (by decide) (fun z654 h655 => ?_)
  refine s_iadd C dL_law_1260 (by omega) (fun z656 h657 => ?_)
  refine s_sld C X (by omega) (by omega) dL_law_1261 (fun m658 h659 => ?_)
  obtain rfl : m658 = m652 := by omega
  refine a_callVi C (i := 236) kd_236 (hid 236 (by decide)) ⟨_, _, rfl⟩ (by decide) (Z_X12_watch hid em) mi_X12_watch ml_RL_178 rfl rfl (Nat.le_of_ble_eq_true rfl) (Nat.le_of_ble_eq_true rfl) (Nat.le_of_ble_eq_true rfl) dL_law_1262 (fun r2 σ2 q2 => ?_)
  obtain ⟨er2, es2⟩ := q2
  subst es2
  subst er2
  refine a_pop C dL_law_1265 rfl ?_
  exact a_goto C dL_law_1266 (tgt := 1338) rfl (K _ hN)
set_option maxHeartbeats 4000000 in
set_option maxRecDepth 100000 in
theorem la_39 {Γ : GT} {ids : List Nat} {ad : Nat → Nat} {ca : Nat → ClassId} {l0 : Launch} {D0 : va_G} {b L n : Nat} {i : Int32} {xs : Nat → Int32} {σ : HS} {K9 : (Nat → Nat) × (Nat → Nat)} (C : CT ids ad ca Γ code RL l0 D0 2048 84000 4) (X : SX Γ b L xs) (E9 : SG K9 Γ) (hid : ∀ i, i < 277 → i ∈ ids) (hi : i.toInt = 6 * (n : Int)) (hL : 6 * n + 6 ≤ L) (hLL : L ≤ 3072) (hI : REL n σ) (K : ∀ σ : HS, REL (n + 1) σ → AW ids ad ca Γ 1338 [some (.ref b), some (.ref (ad 0)), some (.ref (ad 236)), some (.int i)] [] σ) : AW ids ad ca Γ 1269 [some (.ref b), some (.ref (ad 0)), some (.ref (ad 236)), some (.int i)] [] σ := by
  refine a_aload_n C dL_law_1269 (i := 1) rfl rfl ?_
  refine a_aload_n C dL_law_1270 (i := 0) rfl rfl ?_
  refine a_iload_n C dL_law_1271 (i := 3) rfl rfl ?_
  refine s_iconst C dL_law_1272 (1) (by decide) (fun z660 h661 => ?_)
  refine s_iadd C dL_law_1273 (by omega) (fun z662 h663 => ?_)
  refine s_sld C X (by omega) (by omega) dL_law_1274 (fun m664 h665 => ?_)
  have hS : SIM n (f_X11_hold (xs m664)) (f_X12_hold (xs m664)) := sim_hold
  obtain ⟨r9, s9, s8, ec, em, hN⟩ := hS σ hI
  refine a_callVi C (i := 0) kd_0 (hid 0 (by decide)) ⟨_, _, rfl⟩ (by decide) (Z_X11_hold hid ec) mi_X11_hold ml_RL_179 rfl rfl (Nat.le_of_ble_eq_true rfl) (Nat.le_of_ble_eq_true rfl) (Nat.le_of_ble_eq_true rfl) dL_law_1275 (fun r σ1 q1 => ?_)
  obtain ⟨er, es⟩ := q1
  subst es
  subst er
  refine a_pop C dL_law_1278 rfl ?_
  refine a_aload_n C dL_law_1279 (i := 2) rfl rfl ?_
  refine a_aload_n C dL_law_1280 (i := 0) rfl rfl ?_
  refine a_iload_n C dL_law_1281 (i := 3) rfl rfl ?_
  refine s_iconst C dL_law_1282 (1) (by decide) (fun z666 h667 => ?_)
  refine s_iadd C dL_law_1283 (by omega) (fun z668 h669 => ?_)
  refine s_sld C X (by omega) (by omega) dL_law_1284 (fun m670 h671 => ?_)
  obtain rfl : m670 = m664 := by omega
  refine a_callVi C (i := 236) kd_236 (hid 236 (by decide)) ⟨_, _, rfl⟩ (by decide) (Z_X12_hold hid em) mi_X12_hold ml_RL_182 rfl rfl (Nat.le_of_ble_eq_true rfl) (Nat.le_of_ble_eq_true rfl) (Nat.le_of_ble_eq_true rfl) dL_law_1285 (fun r2 σ2 q2 => ?_)
  obtain ⟨er2, es2⟩ := q2
  subst es2
  subst er2
  refine a_pop C dL_law_1288 rfl ?_
  exact a_goto C dL_law_1289 (tgt := 1338) rfl (K _ hN)
set_option maxHeartbeats 4000000 in
set_option maxRecDepth 100000 in
theorem la_40 {Γ : GT} {ids : List Nat} {ad : Nat → Nat} {ca : Nat → ClassId} {l0 : Launch} {D0 : va_G} {b L n : Nat} {i : Int32} {xs : Nat → Int32} {σ : HS} {K9 : (Nat → Nat) × (Nat → Nat)} (C : CT ids ad ca Γ code RL l0 D0 2048 84000 4) (X : SX Γ b L xs) (E9 : SG K9 Γ) (hid : ∀ i, i < 277 → i ∈ ids) (hi : i.toInt = 6 * (n : Int)) (hL : 6 * n + 6 ≤ L) (hLL : L ≤ 3072) (hI : REL n σ) (K : ∀ σ : HS, REL (n + 1) σ → AW ids ad ca Γ 1338 [some (.ref b), some (.ref (ad 0)), some (.ref (ad 236)), some (.int i)] [] σ) : AW ids ad ca Γ 1292 [some (.ref b), some (.ref (ad 0)), some (.ref (ad 236)), some (.int i)] [] σ := by
  refine a_aload_n C dL_law_1292 (i := 1) rfl rfl ?_
  refine a_aload_n C dL_law_1293 (i := 0) rfl rfl ?_
  refine a_iload_n C dL_law_1294 (i := 3) rfl rfl ?_
  refine s_iconst C dL_law_1295 (1) (by decide) (fun z672 h673 => ?_)
  refine s_iadd C dL_law_1296 (by omega) (fun z674 h675 => ?_)
  refine s_sld C X (by omega) (by omega) dL_law_1297 (fun m676 h677 => ?_)
  have hS : SIM n (f_X11_restore (xs m676)) (f_X12_restore (xs m676)) := sim_restore
  obtain ⟨r9, s9, s8, ec, em, hN⟩ := hS σ hI
  refine a_callVi C (i := 0) kd_0 (hid 0 (by decide)) ⟨_, _, rfl⟩ (by decide) (Z_X11_restore hid ec) mi_X11_restore ml_RL_183 rfl rfl (Nat.le_of_ble_eq_true rfl) (Nat.le_of_ble_eq_true rfl) (Nat.le_of_ble_eq_true rfl) dL_law_1298 (fun r σ1 q1 => ?_)
  obtain ⟨er, es⟩ := q1
  subst es
  subst er
  refine a_pop C dL_law_1301 rfl ?_
  refine a_aload_n C dL_law_1302 (i := 2) rfl rfl ?_
  refine a_aload_n C dL_law_1303 (i := 0) rfl rfl ?_
  refine a_iload_n C dL_law_1304 (i := 3) rfl rfl ?_
  refine s_iconst C dL_law_1305 (1) (by decide) (fun z678 h679 => ?_)
  refine s_iadd C dL_law_1306 (by omega) (fun z680 h681 => ?_)
  refine s_sld C X (by omega) (by omega) dL_law_1307 (fun m682 h683 => ?_)
  obtain rfl : m682 = m676 := by omega
  refine a_callVi C (i := 236) kd_236 (hid 236 (by decide)) ⟨_, _, rfl⟩ (by decide) (Z_X12_restore hid em) mi_X12_restore ml_RL_186 rfl rfl (Nat.le_of_ble_eq_true rfl) (Nat.le_of_ble_eq_true rfl) (Nat.le_of_ble_eq_true rfl) dL_law_1308 (fun r2 σ2 q2 => ?_)
  obtain ⟨er2, es2⟩ := q2
  subst es2
  subst er2
  refine a_pop C dL_law_1311 rfl ?_
  exact a_goto C dL_law_1312 (tgt := 1338) rfl (K _ hN)
set_option maxHeartbeats 4000000 in
set_option maxRecDepth 100000 in
theorem la_41 {Γ : GT} {ids : List Nat} {ad : Nat → Nat} {ca : Nat → ClassId} {l0 : Launch} {D0 : va_G} {b L n : Nat} {i : Int32} {xs : Nat → Int32} {σ : HS} {K9 : (Nat → Nat) × (Nat → Nat)} (C : CT ids ad ca Γ code RL l0 D0 2048 84000 4) (X : SX Γ b L xs) (E9 : SG K9 Γ) (hid : ∀ i, i < 277 → i ∈ ids) (hi : i.toInt = 6 * (n : Int)) (hL : 6 * n + 6 ≤ L) (hLL : L ≤ 3072) (hI : REL n σ) (K : ∀ σ : HS, REL (n + 1) σ → AW ids ad ca Γ 1338 [some (.ref b), some (.ref (ad 0)), some (.ref (ad 236)), some (.int i)] [] σ) : AW ids ad ca Γ 1315 [some (.ref b), some (.ref (ad 0)), some (.ref (ad 236)), some (.int i)] [] σ := by
  refine a_aload_n C dL_law_1315 (i := 1) rfl rfl ?_
  refine a_aload_n C dL_law_1316 (i := 0) rfl rfl ?_
  refine a_iload_n C dL_law_1317 (i := 3) rfl rfl ?_
  refine s_iconst C dL_law_1318 (1) (by decide) (fun z684 h685 => ?_)
  refine s_iadd C dL_law_1319 (by omega) (fun z686 h687 => ?_)
  refine s_sld C X (by omega) (by omega) dL_law_1320 (fun m688 h689 => ?_)
  have hS : SIM n (f_X11_count (xs m688)) (f_X12_count (xs m688)) := sim_count (by omega)
  obtain ⟨r9, s9, s8, ec, em, hN⟩ := hS σ hI
  refine a_callVi C (i := 0) kd_0 (hid 0 (by decide)) ⟨_, _, rfl⟩ (by decide) (Z_X11_count hid ec) mi_X11_count ml_RL_187 rfl rfl (Nat.le_of_ble_eq_true rfl) (Nat.le_of_ble_eq_true rfl) (Nat.le_of_ble_eq_true rfl) dL_law_1321 (fun r σ1 q1 => ?_)
  obtain ⟨er, es⟩ := q1
  subst es
  subst er
  refine a_pop C dL_law_1324 rfl ?_
  refine a_aload_n C dL_law_1325 (i := 2) rfl rfl ?_
  refine a_aload_n C dL_law_1326 (i := 0) rfl rfl ?_
  refine a_iload_n C dL_law_1327 (i := 3) rfl rfl ?_
  refine s_iconst C dL_law_1328 (1) (by decide) (fun z690 h691 => ?_)
  refine s_iadd C dL_law_1329 (by omega) (fun z692 h693 => ?_)
  refine s_sld C X (by omega) (by omega) dL_law_1330 (fun m694 h695 => ?_)
  obtain rfl : m694 = m688 := by omega
  refine a_callVi C (i := 236) kd_236 (hid 236 (by decide)) ⟨_, _, rfl⟩ (by decide) (Z_X12_count hid em) mi_X12_count ml_RL_190 rfl rfl (Nat.le_of_ble_eq_true rfl) (Nat.le_of_ble_eq_true rfl) (Nat.le_of_ble_eq_true rfl) dL_law_1331 (fun r2 σ2 q2 => ?_)
  obtain ⟨er2, es2⟩ := q2
  subst es2
  subst er2
  refine a_pop C dL_law_1334 rfl ?_
  exact a_goto C dL_law_1335 (tgt := 1338) rfl (K _ hN)
