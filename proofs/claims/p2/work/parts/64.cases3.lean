set_option maxHeartbeats 4000000 in
set_option maxRecDepth 100000 in
theorem la_28 {Γ : GT} {ids : List Nat} {ad : Nat → Nat} {ca : Nat → ClassId} {l0 : Launch} {D0 : va_G} {b L n : Nat} {i : Int32} {xs : Nat → Int32} {σ : HS} {K9 : (Nat → Nat) × (Nat → Nat)} (C : CT ids ad ca Γ code RL l0 D0 2048 84000 4) (X : SX Γ b L xs) (E9 : SG K9 Γ) (hid : ∀ i, i < 277 → i ∈ ids) (hi : i.toInt = 6 * (n : Int)) (hL : 6 * n + 6 ≤ L) (hLL : L ≤ 3072) (hI : LI n σ) (K : ∀ σ : HS, LI (n + 1) σ → AW ids ad ca Γ 1338 [some (.ref b), some (.ref (ad 0)), some (.ref (ad 236)), some (.int i)] [] σ) : AW ids ad ca Γ 940 [some (.ref b), some (.ref (ad 0)), some (.ref (ad 236)), some (.int i)] [] σ := by
  refine a_aload_n C dL_law_940 (i := 1) rfl rfl ?_
  refine a_aload_n C dL_law_941 (i := 0) rfl rfl ?_
  refine a_iload_n C dL_law_942 (i := 3) rfl rfl ?_
  refine s_iconst C dL_law_943 (1) (by decide) (fun z361 h362 => ?_)
  refine s_iadd C dL_law_944 (by omega) (fun z363 h364 => ?_)
  refine s_sld C X (by omega) (by omega) dL_law_945 (fun v365 => ?_)
  refine a_callVi C (i := 0) kd_0 (hid 0 (by decide)) ⟨_, _, rfl⟩ (by decide) (c_order (x1 := v365) hid hI.1 hI.2.1) mi_X11_order ml_RL_133 rfl rfl (Nat.le_of_ble_eq_true rfl) (Nat.le_of_ble_eq_true rfl) (Nat.le_of_ble_eq_true rfl) dL_law_946 (fun r σ1 q1 => ?_)
  obtain rfl : σ1 = σ := q1
  have hJ := hI
  refine a_pop C dL_law_949 rfl ?_
  refine a_aload_n C dL_law_950 (i := 2) rfl rfl ?_
  refine a_aload_n C dL_law_951 (i := 0) rfl rfl ?_
  refine a_iload_n C dL_law_952 (i := 3) rfl rfl ?_
  refine s_iconst C dL_law_953 (1) (by decide) (fun z366 h367 => ?_)
  refine s_iadd C dL_law_954 (by omega) (fun z368 h369 => ?_)
  refine s_sld C X (by omega) (by omega) dL_law_955 (fun v370 => ?_)
  refine a_callVi C (i := 236) kd_236 (hid 236 (by decide)) ⟨_, _, rfl⟩ (by decide) (S_X12_order_236 (x1 := v370) hid hJ.2.2.1 hJ.2.2.2.1) mi_X12_order ml_RL_136 rfl rfl (Nat.le_of_ble_eq_true rfl) (Nat.le_of_ble_eq_true rfl) (Nat.le_of_ble_eq_true rfl) dL_law_956 (fun r2 σ2 q2 => ?_)
  have hN : LI (n + 1) σ2 := hJ.mod q2.1 q2.2.1 (q2.2.2.mono (by omega) (by omega)) (by decide) (by decide)
  refine a_pop C dL_law_959 rfl ?_
  exact a_goto C dL_law_960 (tgt := 1338) rfl (K _ hN)
set_option maxHeartbeats 4000000 in
set_option maxRecDepth 100000 in
theorem la_29 {Γ : GT} {ids : List Nat} {ad : Nat → Nat} {ca : Nat → ClassId} {l0 : Launch} {D0 : va_G} {b L n : Nat} {i : Int32} {xs : Nat → Int32} {σ : HS} {K9 : (Nat → Nat) × (Nat → Nat)} (C : CT ids ad ca Γ code RL l0 D0 2048 84000 4) (X : SX Γ b L xs) (E9 : SG K9 Γ) (hid : ∀ i, i < 277 → i ∈ ids) (hi : i.toInt = 6 * (n : Int)) (hL : 6 * n + 6 ≤ L) (hLL : L ≤ 3072) (hI : LI n σ) (K : ∀ σ : HS, LI (n + 1) σ → AW ids ad ca Γ 1338 [some (.ref b), some (.ref (ad 0)), some (.ref (ad 236)), some (.int i)] [] σ) : AW ids ad ca Γ 963 [some (.ref b), some (.ref (ad 0)), some (.ref (ad 236)), some (.int i)] [] σ := by
  refine a_aload_n C dL_law_963 (i := 1) rfl rfl ?_
  refine a_aload_n C dL_law_964 (i := 0) rfl rfl ?_
  refine a_iload_n C dL_law_965 (i := 3) rfl rfl ?_
  refine s_iconst C dL_law_966 (1) (by decide) (fun z371 h372 => ?_)
  refine s_iadd C dL_law_967 (by omega) (fun z373 h374 => ?_)
  refine s_sld C X (by omega) (by omega) dL_law_968 (fun v375 => ?_)
  refine a_aload_n C dL_law_969 (i := 0) rfl rfl ?_
  refine a_iload_n C dL_law_970 (i := 3) rfl rfl ?_
  refine s_iconst C dL_law_971 (2) (by decide) (fun z376 h377 => ?_)
  refine s_iadd C dL_law_972 (by omega) (fun z378 h379 => ?_)
  refine s_sld C X (by omega) (by omega) dL_law_973 (fun v380 => ?_)
  refine a_aload_n C dL_law_974 (i := 0) rfl rfl ?_
  refine a_iload_n C dL_law_975 (i := 3) rfl rfl ?_
  refine s_iconst C dL_law_976 (3) (by decide) (fun z381 h382 => ?_)
  refine s_iadd C dL_law_977 (by omega) (fun z383 h384 => ?_)
  refine s_sld C X (by omega) (by omega) dL_law_978 (fun v385 => ?_)
  refine a_aload_n C dL_law_979 (i := 0) rfl rfl ?_
  refine a_iload_n C dL_law_980 (i := 3) rfl rfl ?_
  refine s_iconst C dL_law_981 (4) (by decide) (fun z386 h387 => ?_)
  refine s_iadd C dL_law_982 (by omega) (fun z388 h389 => ?_)
  refine s_sld C X (by omega) (by omega) dL_law_983 (fun v390 => ?_)
  refine a_callVi C (i := 0) kd_0 (hid 0 (by decide)) ⟨_, _, rfl⟩ (by decide) (c_ways (x1 := v375) (x2 := v380) (x3 := v385) (x4 := v390) hid hI.1 hI.2.1) mi_X11_ways ml_RL_137 rfl rfl (Nat.le_of_ble_eq_true rfl) (Nat.le_of_ble_eq_true rfl) (Nat.le_of_ble_eq_true rfl) dL_law_984 (fun r σ1 q1 => ?_)
  have hJ := hI.cls q1.1 q1.2 (by decide +kernel) (by decide +kernel)
  refine a_pop C dL_law_987 rfl ?_
  refine a_aload_n C dL_law_988 (i := 2) rfl rfl ?_
  refine a_aload_n C dL_law_989 (i := 0) rfl rfl ?_
  refine a_iload_n C dL_law_990 (i := 3) rfl rfl ?_
  refine s_iconst C dL_law_991 (1) (by decide) (fun z391 h392 => ?_)
  refine s_iadd C dL_law_992 (by omega) (fun z393 h394 => ?_)
  refine s_sld C X (by omega) (by omega) dL_law_993 (fun v395 => ?_)
  refine a_aload_n C dL_law_994 (i := 0) rfl rfl ?_
  refine a_iload_n C dL_law_995 (i := 3) rfl rfl ?_
  refine s_iconst C dL_law_996 (2) (by decide) (fun z396 h397 => ?_)
  refine s_iadd C dL_law_997 (by omega) (fun z398 h399 => ?_)
  refine s_sld C X (by omega) (by omega) dL_law_998 (fun v400 => ?_)
  refine a_aload_n C dL_law_999 (i := 0) rfl rfl ?_
  refine a_iload_n C dL_law_1000 (i := 3) rfl rfl ?_
  refine s_iconst C dL_law_1001 (3) (by decide) (fun z401 h402 => ?_)
  refine s_iadd C dL_law_1002 (by omega) (fun z403 h404 => ?_)
  refine s_sld C X (by omega) (by omega) dL_law_1003 (fun v405 => ?_)
  refine a_aload_n C dL_law_1004 (i := 0) rfl rfl ?_
  refine a_iload_n C dL_law_1005 (i := 3) rfl rfl ?_
  refine s_iconst C dL_law_1006 (4) (by decide) (fun z406 h407 => ?_)
  refine s_iadd C dL_law_1007 (by omega) (fun z408 h409 => ?_)
  refine s_sld C X (by omega) (by omega) dL_law_1008 (fun v410 => ?_)
  refine a_callVi C (i := 236) kd_236 (hid 236 (by decide)) ⟨_, _, rfl⟩ (by decide) (S_X12_ways_236 (x1 := v395) (x2 := v400) (x3 := v405) (x4 := v410) hid hJ.2.2.1) mi_X12_ways ml_RL_141 rfl rfl (Nat.le_of_ble_eq_true rfl) (Nat.le_of_ble_eq_true rfl) (Nat.le_of_ble_eq_true rfl) dL_law_1009 (fun r2 σ2 q2 => ?_)
  have hN : LI (n + 1) σ2 := hJ.mod q2.1 q2.2 ((hJ.2.2.2.1.ony q2.2 (by decide)).mono (by omega) (by omega)) (by decide) (by decide)
  refine a_pop C dL_law_1012 rfl ?_
  exact a_goto C dL_law_1013 (tgt := 1338) rfl (K _ hN)
set_option maxHeartbeats 4000000 in
set_option maxRecDepth 100000 in
theorem la_30 {Γ : GT} {ids : List Nat} {ad : Nat → Nat} {ca : Nat → ClassId} {l0 : Launch} {D0 : va_G} {b L n : Nat} {i : Int32} {xs : Nat → Int32} {σ : HS} {K9 : (Nat → Nat) × (Nat → Nat)} (C : CT ids ad ca Γ code RL l0 D0 2048 84000 4) (X : SX Γ b L xs) (E9 : SG K9 Γ) (hid : ∀ i, i < 277 → i ∈ ids) (hi : i.toInt = 6 * (n : Int)) (hL : 6 * n + 6 ≤ L) (hLL : L ≤ 3072) (hI : LI n σ) (K : ∀ σ : HS, LI (n + 1) σ → AW ids ad ca Γ 1338 [some (.ref b), some (.ref (ad 0)), some (.ref (ad 236)), some (.int i)] [] σ) : AW ids ad ca Γ 1016 [some (.ref b), some (.ref (ad 0)), some (.ref (ad 236)), some (.int i)] [] σ := by
  refine a_aload_n C dL_law_1016 (i := 1) rfl rfl ?_
  refine a_aload_n C dL_law_1017 (i := 0) rfl rfl ?_
  refine a_iload_n C dL_law_1018 (i := 3) rfl rfl ?_
  refine s_iconst C dL_law_1019 (1) (by decide) (fun z411 h412 => ?_)
  refine s_iadd C dL_law_1020 (by omega) (fun z413 h414 => ?_)
  refine s_sld C X (by omega) (by omega) dL_law_1021 (fun v415 => ?_)
  refine a_aload_n C dL_law_1022 (i := 0) rfl rfl ?_
  refine a_iload_n C dL_law_1023 (i := 3) rfl rfl ?_
  refine s_iconst C dL_law_1024 (2) (by decide) (fun z416 h417 => ?_)
  refine s_iadd C dL_law_1025 (by omega) (fun z418 h419 => ?_)
  refine s_sld C X (by omega) (by omega) dL_law_1026 (fun v420 => ?_)
  refine a_callVi C (i := 0) kd_0 (hid 0 (by decide)) ⟨_, _, rfl⟩ (by decide) (c_light (x1 := v415) (x2 := v420) hid hI.1 hI.2.1) mi_X11_light ml_RL_142 rfl rfl (Nat.le_of_ble_eq_true rfl) (Nat.le_of_ble_eq_true rfl) (Nat.le_of_ble_eq_true rfl) dL_law_1027 (fun r σ1 q1 => ?_)
  have hJ := hI.cls q1.1 q1.2 (by decide +kernel) (by decide +kernel)
  refine a_pop C dL_law_1030 rfl ?_
  refine a_aload_n C dL_law_1031 (i := 2) rfl rfl ?_
  refine a_aload_n C dL_law_1032 (i := 0) rfl rfl ?_
  refine a_iload_n C dL_law_1033 (i := 3) rfl rfl ?_
  refine s_iconst C dL_law_1034 (1) (by decide) (fun z421 h422 => ?_)
  refine s_iadd C dL_law_1035 (by omega) (fun z423 h424 => ?_)
  refine s_sld C X (by omega) (by omega) dL_law_1036 (fun v425 => ?_)
  refine a_aload_n C dL_law_1037 (i := 0) rfl rfl ?_
  refine a_iload_n C dL_law_1038 (i := 3) rfl rfl ?_
  refine s_iconst C dL_law_1039 (2) (by decide) (fun z426 h427 => ?_)
  refine s_iadd C dL_law_1040 (by omega) (fun z428 h429 => ?_)
  refine s_sld C X (by omega) (by omega) dL_law_1041 (fun v430 => ?_)
  refine a_callVi C (i := 236) kd_236 (hid 236 (by decide)) ⟨_, _, rfl⟩ (by decide) (S_X12_light_236 (x1 := v425) (x2 := v430) hid hJ.2.2.1 hJ.2.2.2.1) mi_X12_light ml_RL_145 rfl rfl (Nat.le_of_ble_eq_true rfl) (Nat.le_of_ble_eq_true rfl) (Nat.le_of_ble_eq_true rfl) dL_law_1042 (fun r2 σ2 q2 => ?_)
  have hN : LI (n + 1) σ2 := hJ.mod q2.1 q2.2.1 (q2.2.2.mono (by omega) (by omega)) (by decide) (by decide)
  refine a_pop C dL_law_1045 rfl ?_
  exact a_goto C dL_law_1046 (tgt := 1338) rfl (K _ hN)
set_option maxHeartbeats 4000000 in
set_option maxRecDepth 100000 in
theorem la_31 {Γ : GT} {ids : List Nat} {ad : Nat → Nat} {ca : Nat → ClassId} {l0 : Launch} {D0 : va_G} {b L n : Nat} {i : Int32} {xs : Nat → Int32} {σ : HS} {K9 : (Nat → Nat) × (Nat → Nat)} (C : CT ids ad ca Γ code RL l0 D0 2048 84000 4) (X : SX Γ b L xs) (E9 : SG K9 Γ) (hid : ∀ i, i < 277 → i ∈ ids) (hi : i.toInt = 6 * (n : Int)) (hL : 6 * n + 6 ≤ L) (hLL : L ≤ 3072) (hI : LI n σ) (K : ∀ σ : HS, LI (n + 1) σ → AW ids ad ca Γ 1338 [some (.ref b), some (.ref (ad 0)), some (.ref (ad 236)), some (.int i)] [] σ) : AW ids ad ca Γ 1049 [some (.ref b), some (.ref (ad 0)), some (.ref (ad 236)), some (.int i)] [] σ := by
  refine a_aload_n C dL_law_1049 (i := 1) rfl rfl ?_
  refine a_aload_n C dL_law_1050 (i := 0) rfl rfl ?_
  refine a_iload_n C dL_law_1051 (i := 3) rfl rfl ?_
  refine s_iconst C dL_law_1052 (1) (by decide) (fun z431 h432 => ?_)
  refine s_iadd C dL_law_1053 (by omega) (fun z433 h434 => ?_)
  refine s_sld C X (by omega) (by omega) dL_law_1054 (fun v435 => ?_)
  refine a_callVi C (i := 0) kd_0 (hid 0 (by decide)) ⟨_, _, rfl⟩ (by decide) (c_rule (x1 := v435) hid hI.1 hI.2.1) mi_X11_rule ml_RL_146 rfl rfl (Nat.le_of_ble_eq_true rfl) (Nat.le_of_ble_eq_true rfl) (Nat.le_of_ble_eq_true rfl) dL_law_1055 (fun r σ1 q1 => ?_)
  have hJ := hI.cls q1.1 q1.2 (by decide +kernel) (by decide +kernel)
  refine a_pop C dL_law_1058 rfl ?_
  refine a_aload_n C dL_law_1059 (i := 2) rfl rfl ?_
  refine a_aload_n C dL_law_1060 (i := 0) rfl rfl ?_
  refine a_iload_n C dL_law_1061 (i := 3) rfl rfl ?_
  refine s_iconst C dL_law_1062 (1) (by decide) (fun z436 h437 => ?_)
  refine s_iadd C dL_law_1063 (by omega) (fun z438 h439 => ?_)
  refine s_sld C X (by omega) (by omega) dL_law_1064 (fun v440 => ?_)
  refine a_callVi C (i := 236) kd_236 (hid 236 (by decide)) ⟨_, _, rfl⟩ (by decide) (S_X12_rule_236 (x1 := v440) hid hJ.2.2.1 hJ.2.2.2.1) mi_X12_rule ml_RL_149 rfl rfl (Nat.le_of_ble_eq_true rfl) (Nat.le_of_ble_eq_true rfl) (Nat.le_of_ble_eq_true rfl) dL_law_1065 (fun r2 σ2 q2 => ?_)
  have hN : LI (n + 1) σ2 := hJ.mod q2.1 q2.2.1 (q2.2.2.mono (by omega) (by omega)) (by decide) (by decide)
  refine a_pop C dL_law_1068 rfl ?_
  exact a_goto C dL_law_1069 (tgt := 1338) rfl (K _ hN)
set_option maxHeartbeats 4000000 in
set_option maxRecDepth 100000 in
theorem la_32 {Γ : GT} {ids : List Nat} {ad : Nat → Nat} {ca : Nat → ClassId} {l0 : Launch} {D0 : va_G} {b L n : Nat} {i : Int32} {xs : Nat → Int32} {σ : HS} {K9 : (Nat → Nat) × (Nat → Nat)} (C : CT ids ad ca Γ code RL l0 D0 2048 84000 4) (X : SX Γ b L xs) (E9 : SG K9 Γ) (hid : ∀ i, i < 277 → i ∈ ids) (hi : i.toInt = 6 * (n : Int)) (hL : 6 * n + 6 ≤ L) (hLL : L ≤ 3072) (hI : LI n σ) (K : ∀ σ : HS, LI (n + 1) σ → AW ids ad ca Γ 1338 [some (.ref b), some (.ref (ad 0)), some (.ref (ad 236)), some (.int i)] [] σ) : AW ids ad ca Γ 1072 [some (.ref b), some (.ref (ad 0)), some (.ref (ad 236)), some (.int i)] [] σ := by
  refine a_aload_n C dL_law_1072 (i := 1) rfl rfl ?_
  refine a_callVi C (i := 0) kd_0 (hid 0 (by decide)) ⟨_, _, rfl⟩ (by decide) (c_down hid hI.1 hI.2.1) mi_X11_down ml_RL_150 rfl rfl (Nat.le_of_ble_eq_true rfl) (Nat.le_of_ble_eq_true rfl) (Nat.le_of_ble_eq_true rfl) dL_law_1073 (fun r σ1 q1 => ?_)
  have hJ := hI.cls q1.1 q1.2 (by decide +kernel) (by decide +kernel)
  refine a_pop C dL_law_1076 rfl ?_
  refine a_aload_n C dL_law_1077 (i := 2) rfl rfl ?_
  refine a_callVi C (i := 236) kd_236 (hid 236 (by decide)) ⟨_, _, rfl⟩ (by decide) (S_X12_down_236 hid hJ.2.2.1 hJ.2.2.2.1) mi_X12_down ml_RL_153 rfl rfl (Nat.le_of_ble_eq_true rfl) (Nat.le_of_ble_eq_true rfl) (Nat.le_of_ble_eq_true rfl) dL_law_1078 (fun r2 σ2 q2 => ?_)
  have hN : LI (n + 1) σ2 := hJ.mod q2.1 q2.2.1 (q2.2.2.mono (by omega) (by omega)) (by decide) (by decide)
  refine a_pop C dL_law_1081 rfl ?_
  exact a_goto C dL_law_1082 (tgt := 1338) rfl (K _ hN)
set_option maxHeartbeats 4000000 in
set_option maxRecDepth 100000 in
theorem la_33 {Γ : GT} {ids : List Nat} {ad : Nat → Nat} {ca : Nat → ClassId} {l0 : Launch} {D0 : va_G} {b L n : Nat} {i : Int32} {xs : Nat → Int32} {σ : HS} {K9 : (Nat → Nat) × (Nat → Nat)} (C : CT ids ad ca Γ code RL l0 D0 2048 84000 4) (X : SX Γ b L xs) (E9 : SG K9 Γ) (hid : ∀ i, i < 277 → i ∈ ids) (hi : i.toInt = 6 * (n : Int)) (hL : 6 * n + 6 ≤ L) (hLL : L ≤ 3072) (hI : LI n σ) (K : ∀ σ : HS, LI (n + 1) σ → AW ids ad ca Γ 1338 [some (.ref b), some (.ref (ad 0)), some (.ref (ad 236)), some (.int i)] [] σ) : AW ids ad ca Γ 1085 [some (.ref b), some (.ref (ad 0)), some (.ref (ad 236)), some (.int i)] [] σ := by
  refine a_aload_n C dL_law_1085 (i := 1) rfl rfl ?_
  refine a_aload_n C dL_law_1086 (i := 0) rfl rfl ?_
  refine a_iload_n C dL_law_1087 (i := 3) rfl rfl ?_
  refine s_iconst C dL_law_1088 (1) (by decide) (fun z441 h442 => ?_)
  refine s_iadd C dL_law_1089 (by omega) (fun z443 h444 => ?_)
  refine s_sld C X (by omega) (by omega) dL_law_1090 (fun v445 => ?_)
  refine a_aload_n C dL_law_1091 (i := 0) rfl rfl ?_
  refine a_iload_n C dL_law_1092 (i := 3) rfl rfl ?_
  refine s_iconst C dL_law_1093 (2) (by decide) (fun z446 h447 => ?_)
  refine s_iadd C dL_law_1094 (by omega) (fun z448 h449 => ?_)
  refine s_sld C X (by omega) (by omega) dL_law_1095 (fun v450 => ?_)
  refine a_callVi C (i := 0) kd_0 (hid 0 (by decide)) ⟨_, _, rfl⟩ (by decide) (c_then (x1 := v445) (x2 := v450) hid hI.1 hI.2.1) mi_X11_then ml_RL_154 rfl rfl (Nat.le_of_ble_eq_true rfl) (Nat.le_of_ble_eq_true rfl) (Nat.le_of_ble_eq_true rfl) dL_law_1096 (fun r σ1 q1 => ?_)
  have hJ := hI.cls q1.1 q1.2 (by decide +kernel) (by decide +kernel)
  refine a_pop C dL_law_1099 rfl ?_
  refine a_aload_n C dL_law_1100 (i := 2) rfl rfl ?_
  refine a_aload_n C dL_law_1101 (i := 0) rfl rfl ?_
  refine a_iload_n C dL_law_1102 (i := 3) rfl rfl ?_
  refine s_iconst C dL_law_1103 (1) (by decide) (fun z451 h452 => ?_)
  refine s_iadd C dL_law_1104 (by omega) (fun z453 h454 => ?_)
  refine s_sld C X (by omega) (by omega) dL_law_1105 (fun v455 => ?_)
  refine a_aload_n C dL_law_1106 (i := 0) rfl rfl ?_
  refine a_iload_n C dL_law_1107 (i := 3) rfl rfl ?_
  refine s_iconst C dL_law_1108 (2) (by decide) (fun z456 h457 => ?_)
  refine s_iadd C dL_law_1109 (by omega) (fun z458 h459 => ?_)
  refine s_sld C X (by omega) (by omega) dL_law_1110 (fun v460 => ?_)
  refine a_callVi C (i := 236) kd_236 (hid 236 (by decide)) ⟨_, _, rfl⟩ (by decide) (S_X12_then_236 (x1 := v455) (x2 := v460) hid hJ.2.2.1 hJ.2.2.2.1) mi_X12_then ml_RL_157 rfl rfl (Nat.le_of_ble_eq_true rfl) (Nat.le_of_ble_eq_true rfl) (Nat.le_of_ble_eq_true rfl) dL_law_1111 (fun r2 σ2 q2 => ?_)
  have hN : LI (n + 1) σ2 := hJ.mod q2.1 q2.2.1 (q2.2.2.mono (by omega) (by omega)) (by decide) (by decide)
  refine a_pop C dL_law_1114 rfl ?_
  exact a_goto C dL_law_1115 (tgt := 1338) rfl (K _ hN)
set_option maxHeartbeats 4000000 in
set_option maxRecDepth 100000 in
theorem la_34 {Γ : GT} {ids : List Nat} {ad : Nat → Nat} {ca : Nat → ClassId} {l0 : Launch} {D0 : va_G} {b L n : Nat} {i : Int32} {xs : Nat → Int32} {σ : HS} {K9 : (Nat → Nat) × (Nat → Nat)} (C : CT ids ad ca Γ code RL l0 D0 2048 84000 4) (X : SX Γ b L xs) (E9 : SG K9 Γ) (hid : ∀ i, i < 277 → i ∈ ids) (hi : i.toInt = 6 * (n : Int)) (hL : 6 * n + 6 ≤ L) (hLL : L ≤ 3072) (hI : LI n σ) (K : ∀ σ : HS, LI (n + 1) σ → AW ids ad ca Γ 1338 [some (.ref b), some (.ref (ad 0)), some (.ref (ad 236)), some (.int i)] [] σ) : AW ids ad ca Γ 1118 [some (.ref b), some (.ref (ad 0)), some (.ref (ad 236)), some (.int i)] [] σ := by
  refine a_aload_n C dL_law_1118 (i := 1) rfl rfl ?_
  refine a_aload_n C dL_law_1119 (i := 0) rfl rfl ?_
  refine a_iload_n C dL_law_1120 (i := 3) rfl rfl ?_
  refine s_iconst C dL_law_1121 (1) (by decide) (fun z461 h462 => ?_)
  refine s_iadd C dL_law_1122 (by omega) (fun z463 h464 => ?_)
  refine s_sld C X (by omega) (by omega) dL_law_1123 (fun v465 => ?_)
  refine a_aload_n C dL_law_1124 (i := 0) rfl rfl ?_
  refine a_iload_n C dL_law_1125 (i := 3) rfl rfl ?_
  refine s_iconst C dL_law_1126 (2) (by decide) (fun z466 h467 => ?_)
  refine s_iadd C dL_law_1127 (by omega) (fun z468 h469 => ?_)
  refine s_sld C X (by omega) (by omega) dL_law_1128 (fun v470 => ?_)
  refine a_callVi C (i := 0) kd_0 (hid 0 (by decide)) ⟨_, _, rfl⟩ (by decide) (c_year (x1 := v465) (x2 := v470) hid hI.1 hI.2.1) mi_X11_year ml_RL_158 rfl rfl (Nat.le_of_ble_eq_true rfl) (Nat.le_of_ble_eq_true rfl) (Nat.le_of_ble_eq_true rfl) dL_law_1129 (fun r σ1 q1 => ?_)
  have hJ := hI.cls q1.1 q1.2 (by decide +kernel) (by decide +kernel)
  refine a_pop C dL_law_1132 rfl ?_
  refine a_aload_n C dL_law_1133 (i := 2) rfl rfl ?_
  refine a_aload_n C dL_law_1134 (i := 0) rfl rfl ?_
  refine a_iload_n C dL_law_1135 (i := 3) rfl rfl ?_
  refine s_iconst C dL_law_1136 (1) (by decide) (fun z471 h472 => ?_)
  refine s_iadd C dL_law_1137 (by omega) (fun z473 h474 => ?_)
  refine s_sld C X (by omega) (by omega) dL_law_1138 (fun v475 => ?_)
  refine a_aload_n C dL_law_1139 (i := 0) rfl rfl ?_
  refine a_iload_n C dL_law_1140 (i := 3) rfl rfl ?_
  refine s_iconst C dL_law_1141 (2) (by decide) (fun z476 h477 => ?_)
  refine s_iadd C dL_law_1142 (by omega) (fun z478 h479 => ?_)
  refine s_sld C X (by omega) (by omega) dL_law_1143 (fun v480 => ?_)
  refine a_callVi C (i := 236) kd_236 (hid 236 (by decide)) ⟨_, _, rfl⟩ (by decide) (S_X12_year_236 (x1 := v475) (x2 := v480) hid hJ.2.2.1 hJ.2.2.2.1) mi_X12_year ml_RL_161 rfl rfl (Nat.le_of_ble_eq_true rfl) (Nat.le_of_ble_eq_true rfl) (Nat.le_of_ble_eq_true rfl) dL_law_1144 (fun r2 σ2 q2 => ?_)
  have hN : LI (n + 1) σ2 := hJ.mod q2.1 q2.2.1 (q2.2.2.mono (by omega) (by omega)) (by decide) (by decide)
  refine a_pop C dL_law_1147 rfl ?_
  exact a_goto C dL_law_1148 (tgt := 1338) rfl (K _ hN)
set_option maxHeartbeats 4000000 in
set_option maxRecDepth 100000 in
theorem la_35 {Γ : GT} {ids : List Nat} {ad : Nat → Nat} {ca : Nat → ClassId} {l0 : Launch} {D0 : va_G} {b L n : Nat} {i : Int32} {xs : Nat → Int32} {σ : HS} {K9 : (Nat → Nat) × (Nat → Nat)} (C : CT ids ad ca Γ code RL l0 D0 2048 84000 4) (X : SX Γ b L xs) (E9 : SG K9 Γ) (hid : ∀ i, i < 277 → i ∈ ids) (hi : i.toInt = 6 * (n : Int)) (hL : 6 * n + 6 ≤ L) (hLL : L ≤ 3072) (hI : LI n σ) (K : ∀ σ : HS, LI (n + 1) σ → AW ids ad ca Γ 1338 [some (.ref b), some (.ref (ad 0)), some (.ref (ad 236)), some (.int i)] [] σ) : AW ids ad ca Γ 1151 [some (.ref b), some (.ref (ad 0)), some (.ref (ad 236)), some (.int i)] [] σ := by
  refine a_aload_n C dL_law_1151 (i := 1) rfl rfl ?_
  refine a_aload_n C dL_law_1152 (i := 0) rfl rfl ?_
  refine a_iload_n C dL_law_1153 (i := 3) rfl rfl ?_
  refine s_iconst C dL_law_1154 (1) (by decide) (fun z481 h482 => ?_)
  refine s_iadd C dL_law_1155 (by omega) (fun z483 h484 => ?_)
  refine s_sld C X (by omega) (by omega) dL_law_1156 (fun v485 => ?_)
  refine a_aload_n C dL_law_1157 (i := 0) rfl rfl ?_
  refine a_iload_n C dL_law_1158 (i := 3) rfl rfl ?_
  refine s_iconst C dL_law_1159 (2) (by decide) (fun z486 h487 => ?_)
  refine s_iadd C dL_law_1160 (by omega) (fun z488 h489 => ?_)
  refine s_sld C X (by omega) (by omega) dL_law_1161 (fun v490 => ?_)
  refine s_if_eq C dL_law_1162 (tgt := 1169) rfl (fun hz491 => ?_) (fun hz491 => ?_)
  ·
    refine s_iconst C dL_law_1169 (0) (by decide) (fun z492 h493 => ?_)
    refine a_callVi C (i := 0) kd_0 (hid 0 (by decide)) ⟨_, _, rfl⟩ (by decide) (c_tell (x1 := v485) (x2 := z492) hid hI.1 hI.2.1 (by omega)) mi_X11_tell ml_RL_162 rfl rfl (Nat.le_of_ble_eq_true rfl) (Nat.le_of_ble_eq_true rfl) (Nat.le_of_ble_eq_true rfl) dL_law_1170 (fun r σ1 q1 => ?_)
    have hJ := hI.cls q1.1 q1.2 (by decide +kernel) (by decide +kernel)
    refine a_pop C dL_law_1173 rfl ?_
    refine a_aload_n C dL_law_1174 (i := 2) rfl rfl ?_
    refine a_aload_n C dL_law_1175 (i := 0) rfl rfl ?_
    refine a_iload_n C dL_law_1176 (i := 3) rfl rfl ?_
    refine s_iconst C dL_law_1177 (1) (by decide) (fun z494 h495 => ?_)
    refine s_iadd C dL_law_1178 (by omega) (fun z496 h497 => ?_)
    refine s_sld C X (by omega) (by omega) dL_law_1179 (fun v498 => ?_)
    refine a_aload_n C dL_law_1180 (i := 0) rfl rfl ?_
    refine a_iload_n C dL_law_1181 (i := 3) rfl rfl ?_
    refine s_iconst C dL_law_1182 (2) (by decide) (fun z499 h500 => ?_)
    refine s_iadd C dL_law_1183 (by omega) (fun z501 h502 => ?_)
    refine s_sld C X (by omega) (by omega) dL_law_1184 (fun v503 => ?_)
    refine s_if_eq C dL_law_1185 (tgt := 1192) rfl (fun hz504 => ?_) (fun hz504 => ?_)
    ·
      refine s_iconst C dL_law_1192 (0) (by decide) (fun z505 h506 => ?_)
      refine a_callVi C (i := 236) kd_236 (hid 236 (by decide)) ⟨_, _, rfl⟩ (by decide) (S_X12_tell_236 (x1 := v498) (x2 := z505) hid hJ.2.2.1 (by omega)) mi_X12_tell ml_RL_166 rfl rfl (Nat.le_of_ble_eq_true rfl) (Nat.le_of_ble_eq_true rfl) (Nat.le_of_ble_eq_true rfl) dL_law_1193 (fun r2 σ2 q2 => ?_)
      have hN : LI (n + 1) σ2 := hJ.mod q2.1 q2.2 ((hJ.2.2.2.1.ony q2.2 (by decide)).mono (by omega) (by omega)) (by decide) (by decide)
      refine a_pop C dL_law_1196 rfl ?_
      exact a_goto C dL_law_1197 (tgt := 1338) rfl (K _ hN)
    ·
      refine s_iconst C dL_law_1188 (1) (by decide) (fun z507 h508 => ?_)
      refine a_goto C dL_law_1189 (tgt := 1193) rfl ?_
      refine a_callVi C (i := 236) kd_236 (hid 236 (by decide)) ⟨_, _, rfl⟩ (by decide) (S_X12_tell_236 (x1 := v498) (x2 := z507) hid hJ.2.2.1 (by omega)) mi_X12_tell ml_RL_166 rfl rfl (Nat.le_of_ble_eq_true rfl) (Nat.le_of_ble_eq_true rfl) (Nat.le_of_ble_eq_true rfl) dL_law_1193 (fun r2 σ2 q2 => ?_)
      have hN : LI (n + 1) σ2 := hJ.mod q2.1 q2.2 ((hJ.2.2.2.1.ony q2.2 (by decide)).mono (by omega) (by omega)) (by decide) (by decide)
      refine a_pop C dL_law_1196 rfl ?_
      exact a_goto C dL_law_1197 (tgt := 1338) rfl (K _ hN)
  ·
    refine s_iconst C dL_law_1165 (1) (by decide) (fun z509 h510 => ?_)
    refine a_goto C dL_law_1166 (tgt := 1170) rfl ?_
    refine a_callVi C (i := 0) kd_0 (hid 0 (by decide)) ⟨_, _, rfl⟩ (by decide) (c_tell (x1 := v485) (x2 := z509) hid hI.1 hI.2.1 (by omega)) mi_X11_tell ml_RL_162 rfl rfl (Nat.le_of_ble_eq_true rfl) (Nat.le_of_ble_eq_true rfl) (Nat.le_of_ble_eq_true rfl) dL_law_1170 (fun r σ1 q1 => ?_)
    have hJ := hI.cls q1.1 q1.2 (by decide +kernel) (by decide +kernel)
    refine a_pop C dL_law_1173 rfl ?_
    refine a_aload_n C dL_law_1174 (i := 2) rfl rfl ?_
    refine a_aload_n C dL_law_1175 (i := 0) rfl rfl ?_
    refine a_iload_n C dL_law_1176 (i := 3) rfl rfl ?_
    refine s_iconst C dL_law_1177 (1) (by decide) (fun z511 h512 => ?_)
    refine s_iadd C dL_law_1178 (by omega) (fun z513 h514 => ?_)
    refine s_sld C X (by omega) (by omega) dL_law_1179 (fun v515 => ?_)
    refine a_aload_n C dL_law_1180 (i := 0) rfl rfl ?_
    refine a_iload_n C dL_law_1181 (i := 3) rfl rfl ?_
    refine s_iconst C dL_law_1182 (2) (by decide) (fun z516 h517 => ?_)
    refine s_iadd C dL_law_1183 (by omega) (fun z518 h519 => ?_)
    refine s_sld C X (by omega) (by omega) dL_law_1184 (fun v520 => ?_)
    refine s_if_eq C dL_law_1185 (tgt := 1192) rfl (fun hz521 => ?_) (fun hz521 => ?_)
    ·
      refine s_iconst C dL_law_1192 (0) (by decide) (fun z522 h523 => ?_)
      refine a_callVi C (i := 236) kd_236 (hid 236 (by decide)) ⟨_, _, rfl⟩ (by decide) (S_X12_tell_236 (x1 := v515) (x2 := z522) hid hJ.2.2.1 (by omega)) mi_X12_tell ml_RL_166 rfl rfl (Nat.le_of_ble_eq_true rfl) (Nat.le_of_ble_eq_true rfl) (Nat.le_of_ble_eq_true rfl) dL_law_1193 (fun r2 σ2 q2 => ?_)
      have hN : LI (n + 1) σ2 := hJ.mod q2.1 q2.2 ((hJ.2.2.2.1.ony q2.2 (by decide)).mono (by omega) (by omega)) (by decide) (by decide)
      refine a_pop C dL_law_1196 rfl ?_
      exact a_goto C dL_law_1197 (tgt := 1338) rfl (K _ hN)
    ·
      refine s_iconst C dL_law_1188 (1) (by decide) (fun z524 h525 => ?_)
      refine a_goto C dL_law_1189 (tgt := 1193) rfl ?_
      refine a_callVi C (i := 236) kd_236 (hid 236 (by decide)) ⟨_, _, rfl⟩ (by decide) (S_X12_tell_236 (x1 := v515) (x2 := z524) hid hJ.2.2.1 (by omega)) mi_X12_tell ml_RL_166 rfl rfl (Nat.le_of_ble_eq_true rfl) (Nat.le_of_ble_eq_true rfl) (Nat.le_of_ble_eq_true rfl) dL_law_1193 (fun r2 σ2 q2 => ?_)
      have hN : LI (n + 1) σ2 := hJ.mod q2.1 q2.2 ((hJ.2.2.2.1.ony q2.2 (by decide)).mono (by omega) (by omega)) (by decide) (by decide)
      refine a_pop C dL_law_1196 rfl ?_
      exact a_goto C dL_law_1197 (tgt := 1338) rfl (K _ hN)
set_option maxHeartbeats 4000000 in
set_option maxRecDepth 100000 in
theorem la_36 {Γ : GT} {ids : List Nat} {ad : Nat → Nat} {ca : Nat → ClassId} {l0 : Launch} {D0 : va_G} {b L n : Nat} {i : Int32} {xs : Nat → Int32} {σ : HS} {K9 : (Nat → Nat) × (Nat → Nat)} (C : CT ids ad ca Γ code RL l0 D0 2048 84000 4) (X : SX Γ b L xs) (E9 : SG K9 Γ) (hid : ∀ i, i < 277 → i ∈ ids) (hi : i.toInt = 6 * (n : Int)) (hL : 6 * n + 6 ≤ L) (hLL : L ≤ 3072) (hI : LI n σ) (K : ∀ σ : HS, LI (n + 1) σ → AW ids ad ca Γ 1338 [some (.ref b), some (.ref (ad 0)), some (.ref (ad 236)), some (.int i)] [] σ) : AW ids ad ca Γ 1200 [some (.ref b), some (.ref (ad 0)), some (.ref (ad 236)), some (.int i)] [] σ := by
  refine a_aload_n C dL_law_1200 (i := 1) rfl rfl ?_
  refine a_callVi C (i := 0) kd_0 (hid 0 (by decide)) ⟨_, _, rfl⟩ (by decide) (c_forget hid hI.1 hI.2.1) mi_X11_forget ml_RL_167 rfl rfl (Nat.le_of_ble_eq_true rfl) (Nat.le_of_ble_eq_true rfl) (Nat.le_of_ble_eq_true rfl) dL_law_1201 (fun r σ1 q1 => ?_)
  have hJ := hI.cls q1.1 q1.2 (by decide +kernel) (by decide +kernel)
  refine a_pop C dL_law_1204 rfl ?_
  refine a_aload_n C dL_law_1205 (i := 2) rfl rfl ?_
  refine a_callVi C (i := 236) kd_236 (hid 236 (by decide)) ⟨_, _, rfl⟩ (by decide) (S_X12_forget_236 hid hJ.2.2.1) mi_X12_forget ml_RL_170 rfl rfl (Nat.le_of_ble_eq_true rfl) (Nat.le_of_ble_eq_true rfl) (Nat.le_of_ble_eq_true rfl) dL_law_1206 (fun r2 σ2 q2 => ?_)
  have hN : LI (n + 1) σ2 := hJ.mod q2.1 q2.2 ((hJ.2.2.2.1.ony q2.2 (by decide)).mono (by omega) (by omega)) (by decide) (by decide)
  refine a_pop C dL_law_1209 rfl ?_
  exact a_goto C dL_law_1210 (tgt := 1338) rfl (K _ hN)
set_option maxHeartbeats 4000000 in
set_option maxRecDepth 100000 in
theorem la_37 {Γ : GT} {ids : List Nat} {ad : Nat → Nat} {ca : Nat → ClassId} {l0 : Launch} {D0 : va_G} {b L n : Nat} {i : Int32} {xs : Nat → Int32} {σ : HS} {K9 : (Nat → Nat) × (Nat → Nat)} (C : CT ids ad ca Γ code RL l0 D0 2048 84000 4) (X : SX Γ b L xs) (E9 : SG K9 Γ) (hid : ∀ i, i < 277 → i ∈ ids) (hi : i.toInt = 6 * (n : Int)) (hL : 6 * n + 6 ≤ L) (hLL : L ≤ 3072) (hI : LI n σ) (K : ∀ σ : HS, LI (n + 1) σ → AW ids ad ca Γ 1338 [some (.ref b), some (.ref (ad 0)), some (.ref (ad 236)), some (.int i)] [] σ) : AW ids ad ca Γ 1213 [some (.ref b), some (.ref (ad 0)), some (.ref (ad 236)), some (.int i)] [] σ := by
  refine a_aload_n C dL_law_1213 (i := 1) rfl rfl ?_
  refine a_aload_n C dL_law_1214 (i := 0) rfl rfl ?_
  refine a_iload_n C dL_law_1215 (i := 3) rfl rfl ?_
  refine s_iconst C dL_law_1216 (1) (by decide) (fun z526 h527 => ?_)
  refine s_iadd C dL_law_1217 (by omega) (fun z528 h529 => ?_)
  refine s_sld C X (by omega) (by omega) dL_law_1218 (fun v530 => ?_)
  refine a_aload_n C dL_law_1219 (i := 0) rfl rfl ?_
  refine a_iload_n C dL_law_1220 (i := 3) rfl rfl ?_
  refine s_iconst C dL_law_1221 (2) (by decide) (fun z531 h532 => ?_)
  refine s_iadd C dL_law_1222 (by omega) (fun z533 h534 => ?_)
  refine s_sld C X (by omega) (by omega) dL_law_1223 (fun v535 => ?_)
  refine a_callVi C (i := 0) kd_0 (hid 0 (by decide)) ⟨_, _, rfl⟩ (by decide) (c_glitters (x1 := v530) (x2 := v535) hid hI.1 hI.2.1) mi_X11_glitters ml_RL_171 rfl rfl (Nat.le_of_ble_eq_true rfl) (Nat.le_of_ble_eq_true rfl) (Nat.le_of_ble_eq_true rfl) dL_law_1224 (fun r σ1 q1 => ?_)
  have hJ := hI.cls q1.1 q1.2 (by decide +kernel) (by decide +kernel)
  refine a_pop C dL_law_1227 rfl ?_
  refine a_aload_n C dL_law_1228 (i := 2) rfl rfl ?_
  refine a_aload_n C dL_law_1229 (i := 0) rfl rfl ?_
  refine a_iload_n C dL_law_1230 (i := 3) rfl rfl ?_
  refine s_iconst C dL_law_1231 (1) (by decide) (fun z536 h537 => ?_)
  refine s_iadd C dL_law_1232 (by omega) (fun z538 h539 => ?_)
  refine s_sld C X (by omega) (by omega) dL_law_1233 (fun v540 => ?_)
  refine a_aload_n C dL_law_1234 (i := 0) rfl rfl ?_
  refine a_iload_n C dL_law_1235 (i := 3) rfl rfl ?_
  refine s_iconst C dL_law_1236 (2) (by decide) (fun z541 h542 => ?_)
  refine s_iadd C dL_law_1237 (by omega) (fun z543 h544 => ?_)
  refine s_sld C X (by omega) (by omega) dL_law_1238 (fun v545 => ?_)
  refine a_callVi C (i := 236) kd_236 (hid 236 (by decide)) ⟨_, _, rfl⟩ (by decide) (S_X12_glitters_236 (x1 := v540) (x2 := v545) hid hJ.2.2.1 hJ.2.2.2.1) mi_X12_glitters ml_RL_174 rfl rfl (Nat.le_of_ble_eq_true rfl) (Nat.le_of_ble_eq_true rfl) (Nat.le_of_ble_eq_true rfl) dL_law_1239 (fun r2 σ2 q2 => ?_)
  have hN : LI (n + 1) σ2 := hJ.mod q2.1 q2.2.1 (q2.2.2.mono (by omega) (by omega)) (by decide) (by decide)
  refine a_pop C dL_law_1242 rfl ?_
  exact a_goto C dL_law_1243 (tgt := 1338) rfl (K _ hN)
set_option maxHeartbeats 4000000 in
set_option maxRecDepth 100000 in
theorem la_38 {Γ : GT} {ids : List Nat} {ad : Nat → Nat} {ca : Nat → ClassId} {l0 : Launch} {D0 : va_G} {b L n : Nat} {i : Int32} {xs : Nat → Int32} {σ : HS} {K9 : (Nat → Nat) × (Nat → Nat)} (C : CT ids ad ca Γ code RL l0 D0 2048 84000 4) (X : SX Γ b L xs) (E9 : SG K9 Γ) (hid : ∀ i, i < 277 → i ∈ ids) (hi : i.toInt = 6 * (n : Int)) (hL : 6 * n + 6 ≤ L) (hLL : L ≤ 3072) (hI : LI n σ) (K : ∀ σ : HS, LI (n + 1) σ → AW ids ad ca Γ 1338 [some (.ref b), some (.ref (ad 0)), some (.ref (ad 236)), some (.int i)] [] σ) : AW ids ad ca Γ 1246 [some (.ref b), some (.ref (ad 0)), some (.ref (ad 236)), some (.int i)] [] σ := by
  refine a_aload_n C dL_law_1246 (i := 1) rfl rfl ?_
  refine a_aload_n C dL_law_1247 (i := 0) rfl rfl ?_
  refine a_iload_n C dL_law_1248 (i := 3) rfl rfl ?_
  refine s_iconst C dL_law_1249 (1) (by decide) (fun z546 h547 => ?_)
  refine s_iadd C dL_law_1250 (by omega) (fun z548 h549 => ?_)
  refine s_sld C X (by omega) (by omega) dL_law_1251 (fun v550 => ?_)
  refine a_callVi C (i := 0) kd_0 (hid 0 (by decide)) ⟨_, _, rfl⟩ (by decide) (c_watch (x1 := v550) hid hI.1 hI.2.1) mi_X11_watch ml_RL_175 rfl rfl (Nat.le_of_ble_eq_true rfl) (Nat.le_of_ble_eq_true rfl) (Nat.le_of_ble_eq_true rfl) dL_law_1252 (fun r σ1 q1 => ?_)
  have hJ := hI.cls q1.1 q1.2 (by decide +kernel) (by decide +kernel)
  refine a_pop C dL_law_1255 rfl ?_
  refine a_aload_n C dL_law_1256 (i := 2) rfl rfl ?_
  refine a_aload_n C dL_law_1257 (i := 0) rfl rfl ?_
  refine a_iload_n C dL_law_1258 (i := 3) rfl rfl ?_
  refine s_iconst C dL_law_1259 (1) (by decide) (fun z551 h552 => ?_)
  refine s_iadd C dL_law_1260 (by omega) (fun z553 h554 => ?_)
  refine s_sld C X (by omega) (by omega) dL_law_1261 (fun v555 => ?_)
  refine a_callVi C (i := 236) kd_236 (hid 236 (by decide)) ⟨_, _, rfl⟩ (by decide) (S_X12_watch_236 (x1 := v555) hid hJ.2.2.1 hJ.2.2.2.1) mi_X12_watch ml_RL_178 rfl rfl (Nat.le_of_ble_eq_true rfl) (Nat.le_of_ble_eq_true rfl) (Nat.le_of_ble_eq_true rfl) dL_law_1262 (fun r2 σ2 q2 => ?_)
  have hN : LI (n + 1) σ2 := hJ.mod q2.1 q2.2.1 (q2.2.2.mono (by omega) (by omega)) (by decide) (by decide)
  refine a_pop C dL_law_1265 rfl ?_
  exact a_goto C dL_law_1266 (tgt := 1338) rfl (K _ hN)
set_option maxHeartbeats 4000000 in
set_option maxRecDepth 100000 in
theorem la_39 {Γ : GT} {ids : List Nat} {ad : Nat → Nat} {ca : Nat → ClassId} {l0 : Launch} {D0 : va_G} {b L n : Nat} {i : Int32} {xs : Nat → Int32} {σ : HS} {K9 : (Nat → Nat) × (Nat → Nat)} (C : CT ids ad ca Γ code RL l0 D0 2048 84000 4) (X : SX Γ b L xs) (E9 : SG K9 Γ) (hid : ∀ i, i < 277 → i ∈ ids) (hi : i.toInt = 6 * (n : Int)) (hL : 6 * n + 6 ≤ L) (hLL : L ≤ 3072) (hI : LI n σ) (K : ∀ σ : HS, LI (n + 1) σ → AW ids ad ca Γ 1338 [some (.ref b), some (.ref (ad 0)), some (.ref (ad 236)), some (.int i)] [] σ) : AW ids ad ca Γ 1269 [some (.ref b), some (.ref (ad 0)), some (.ref (ad 236)), some (.int i)] [] σ := by
  refine a_aload_n C dL_law_1269 (i := 1) rfl rfl ?_
  refine a_aload_n C dL_law_1270 (i := 0) rfl rfl ?_
  refine a_iload_n C dL_law_1271 (i := 3) rfl rfl ?_
  refine s_iconst C dL_law_1272 (1) (by decide) (fun z556 h557 => ?_)
  refine s_iadd C dL_law_1273 (by omega) (fun z558 h559 => ?_)
  refine s_sld C X (by omega) (by omega) dL_law_1274 (fun v560 => ?_)
  rcases (show v560.toInt < 0 ∨ v560.toInt = 0 ∨ v560.toInt = 1 ∨ v560.toInt = 2 ∨ 2 < v560.toInt by omega) with hv | hv | hv | hv | hv
  ·
    rcases hI.2.1 with ⟨t0, t1⟩ | ⟨t0, t1⟩
    ·
      refine a_callVi C (i := 0) kd_0 (hid 0 (by decide)) ⟨_, _, rfl⟩ (by decide) (S_X11_hold_0_t30_lo (x1 := v560) hid hI.1 t0 t1 (by omega)) mi_X11_hold ml_RL_179 rfl rfl (Nat.le_of_ble_eq_true rfl) (Nat.le_of_ble_eq_true rfl) (Nat.le_of_ble_eq_true rfl) dL_law_1275 (fun r σ1 q1 => ?_)
      obtain rfl : σ1 = σ := q1.1
      have hJ := hI
      refine a_pop C dL_law_1278 rfl ?_
      refine a_aload_n C dL_law_1279 (i := 2) rfl rfl ?_
      refine a_aload_n C dL_law_1280 (i := 0) rfl rfl ?_
      refine a_iload_n C dL_law_1281 (i := 3) rfl rfl ?_
      refine s_iconst C dL_law_1282 (1) (by decide) (fun z561 h562 => ?_)
      refine s_iadd C dL_law_1283 (by omega) (fun z563 h564 => ?_)
      refine s_sld C X (by omega) (by omega) dL_law_1284 (fun v565 => ?_)
      refine a_callVi C (i := 236) kd_236 (hid 236 (by decide)) ⟨_, _, rfl⟩ (by decide) (S_X12_hold_236 (x1 := v565) hid hJ.2.2.1 hJ.2.2.2.1) mi_X12_hold ml_RL_182 rfl rfl (Nat.le_of_ble_eq_true rfl) (Nat.le_of_ble_eq_true rfl) (Nat.le_of_ble_eq_true rfl) dL_law_1285 (fun r2 σ2 q2 => ?_)
      have hN : LI (n + 1) σ2 := hJ.mod q2.1 q2.2.1 (q2.2.2.1.mono (by omega) (by omega)) (by decide) (by decide)
      refine a_pop C dL_law_1288 rfl ?_
      exact a_goto C dL_law_1289 (tgt := 1338) rfl (K _ hN)
    ·
      refine a_callVi C (i := 0) kd_0 (hid 0 (by decide)) ⟨_, _, rfl⟩ (by decide) (S_X11_hold_0_t43_lo (x1 := v560) hid hI.1 t0 t1 (by omega)) mi_X11_hold ml_RL_179 rfl rfl (Nat.le_of_ble_eq_true rfl) (Nat.le_of_ble_eq_true rfl) (Nat.le_of_ble_eq_true rfl) dL_law_1275 (fun r σ1 q1 => ?_)
      obtain rfl : σ1 = σ := q1.1
      have hJ := hI
      refine a_pop C dL_law_1278 rfl ?_
      refine a_aload_n C dL_law_1279 (i := 2) rfl rfl ?_
      refine a_aload_n C dL_law_1280 (i := 0) rfl rfl ?_
      refine a_iload_n C dL_law_1281 (i := 3) rfl rfl ?_
      refine s_iconst C dL_law_1282 (1) (by decide) (fun z566 h567 => ?_)
      refine s_iadd C dL_law_1283 (by omega) (fun z568 h569 => ?_)
      refine s_sld C X (by omega) (by omega) dL_law_1284 (fun v570 => ?_)
      refine a_callVi C (i := 236) kd_236 (hid 236 (by decide)) ⟨_, _, rfl⟩ (by decide) (S_X12_hold_236 (x1 := v570) hid hJ.2.2.1 hJ.2.2.2.1) mi_X12_hold ml_RL_182 rfl rfl (Nat.le_of_ble_eq_true rfl) (Nat.le_of_ble_eq_true rfl) (Nat.le_of_ble_eq_true rfl) dL_law_1285 (fun r2 σ2 q2 => ?_)
      have hN : LI (n + 1) σ2 := hJ.mod q2.1 q2.2.1 (q2.2.2.1.mono (by omega) (by omega)) (by decide) (by decide)
      refine a_pop C dL_law_1288 rfl ?_
      exact a_goto C dL_law_1289 (tgt := 1338) rfl (K _ hN)
  ·
    rcases hI.2.1 with ⟨t0, t1⟩ | ⟨t0, t1⟩
    ·
      refine a_callVi C (i := 0) kd_0 (hid 0 (by decide)) ⟨_, _, rfl⟩ (by decide) (S_X11_hold_0_t30_v0 (x1 := v560) hid hI.1 t0 t1 (by omega)) mi_X11_hold ml_RL_179 rfl rfl (Nat.le_of_ble_eq_true rfl) (Nat.le_of_ble_eq_true rfl) (Nat.le_of_ble_eq_true rfl) dL_law_1275 (fun r σ1 q1 => ?_)
      have hJ := hI.cls q1.1 q1.2.1 (by decide +kernel) (by decide +kernel)
      refine a_pop C dL_law_1278 rfl ?_
      refine a_aload_n C dL_law_1279 (i := 2) rfl rfl ?_
      refine a_aload_n C dL_law_1280 (i := 0) rfl rfl ?_
      refine a_iload_n C dL_law_1281 (i := 3) rfl rfl ?_
      refine s_iconst C dL_law_1282 (1) (by decide) (fun z571 h572 => ?_)
      refine s_iadd C dL_law_1283 (by omega) (fun z573 h574 => ?_)
      refine s_sld C X (by omega) (by omega) dL_law_1284 (fun v575 => ?_)
      refine a_callVi C (i := 236) kd_236 (hid 236 (by decide)) ⟨_, _, rfl⟩ (by decide) (S_X12_hold_236 (x1 := v575) hid hJ.2.2.1 hJ.2.2.2.1) mi_X12_hold ml_RL_182 rfl rfl (Nat.le_of_ble_eq_true rfl) (Nat.le_of_ble_eq_true rfl) (Nat.le_of_ble_eq_true rfl) dL_law_1285 (fun r2 σ2 q2 => ?_)
      have hN : LI (n + 1) σ2 := hJ.mod q2.1 q2.2.1 (q2.2.2.1.mono (by omega) (by omega)) (by decide) (by decide)
      refine a_pop C dL_law_1288 rfl ?_
      exact a_goto C dL_law_1289 (tgt := 1338) rfl (K _ hN)
    ·
      refine a_callVi C (i := 0) kd_0 (hid 0 (by decide)) ⟨_, _, rfl⟩ (by decide) (S_X11_hold_0_t43_v0 (x1 := v560) hid hI.1 t0 t1 (by omega)) mi_X11_hold ml_RL_179 rfl rfl (Nat.le_of_ble_eq_true rfl) (Nat.le_of_ble_eq_true rfl) (Nat.le_of_ble_eq_true rfl) dL_law_1275 (fun r σ1 q1 => ?_)
      have hJ := hI.cls q1.1 q1.2.1 (by decide +kernel) (by decide +kernel)
      refine a_pop C dL_law_1278 rfl ?_
      refine a_aload_n C dL_law_1279 (i := 2) rfl rfl ?_
      refine a_aload_n C dL_law_1280 (i := 0) rfl rfl ?_
      refine a_iload_n C dL_law_1281 (i := 3) rfl rfl ?_
      refine s_iconst C dL_law_1282 (1) (by decide) (fun z576 h577 => ?_)
      refine s_iadd C dL_law_1283 (by omega) (fun z578 h579 => ?_)
      refine s_sld C X (by omega) (by omega) dL_law_1284 (fun v580 => ?_)
      refine a_callVi C (i := 236) kd_236 (hid 236 (by decide)) ⟨_, _, rfl⟩ (by decide) (S_X12_hold_236 (x1 := v580) hid hJ.2.2.1 hJ.2.2.2.1) mi_X12_hold ml_RL_182 rfl rfl (Nat.le_of_ble_eq_true rfl) (Nat.le_of_ble_eq_true rfl) (Nat.le_of_ble_eq_true rfl) dL_law_1285 (fun r2 σ2 q2 => ?_)
      have hN : LI (n + 1) σ2 := hJ.mod q2.1 q2.2.1 (q2.2.2.1.mono (by omega) (by omega)) (by decide) (by decide)
      refine a_pop C dL_law_1288 rfl ?_
      exact a_goto C dL_law_1289 (tgt := 1338) rfl (K _ hN)
  ·
    rcases hI.2.1 with ⟨t0, t1⟩ | ⟨t0, t1⟩
    ·
      refine a_callVi C (i := 0) kd_0 (hid 0 (by decide)) ⟨_, _, rfl⟩ (by decide) (S_X11_hold_0_t30_v1 (x1 := v560) hid hI.1 t0 t1 (by omega)) mi_X11_hold ml_RL_179 rfl rfl (Nat.le_of_ble_eq_true rfl) (Nat.le_of_ble_eq_true rfl) (Nat.le_of_ble_eq_true rfl) dL_law_1275 (fun r σ1 q1 => ?_)
      have hJ := hI.cls q1.1 q1.2.1 (by decide +kernel) (by decide +kernel)
      refine a_pop C dL_law_1278 rfl ?_
      refine a_aload_n C dL_law_1279 (i := 2) rfl rfl ?_
      refine a_aload_n C dL_law_1280 (i := 0) rfl rfl ?_
      refine a_iload_n C dL_law_1281 (i := 3) rfl rfl ?_
      refine s_iconst C dL_law_1282 (1) (by decide) (fun z581 h582 => ?_)
      refine s_iadd C dL_law_1283 (by omega) (fun z583 h584 => ?_)
      refine s_sld C X (by omega) (by omega) dL_law_1284 (fun v585 => ?_)
      refine a_callVi C (i := 236) kd_236 (hid 236 (by decide)) ⟨_, _, rfl⟩ (by decide) (S_X12_hold_236 (x1 := v585) hid hJ.2.2.1 hJ.2.2.2.1) mi_X12_hold ml_RL_182 rfl rfl (Nat.le_of_ble_eq_true rfl) (Nat.le_of_ble_eq_true rfl) (Nat.le_of_ble_eq_true rfl) dL_law_1285 (fun r2 σ2 q2 => ?_)
      have hN : LI (n + 1) σ2 := hJ.mod q2.1 q2.2.1 (q2.2.2.1.mono (by omega) (by omega)) (by decide) (by decide)
      refine a_pop C dL_law_1288 rfl ?_
      exact a_goto C dL_law_1289 (tgt := 1338) rfl (K _ hN)
    ·
      refine a_callVi C (i := 0) kd_0 (hid 0 (by decide)) ⟨_, _, rfl⟩ (by decide) (S_X11_hold_0_t43_v1 (x1 := v560) hid hI.1 t0 t1 (by omega)) mi_X11_hold ml_RL_179 rfl rfl (Nat.le_of_ble_eq_true rfl) (Nat.le_of_ble_eq_true rfl) (Nat.le_of_ble_eq_true rfl) dL_law_1275 (fun r σ1 q1 => ?_)
      have hJ := hI.cls q1.1 q1.2.1 (by decide +kernel) (by decide +kernel)
      refine a_pop C dL_law_1278 rfl ?_
      refine a_aload_n C dL_law_1279 (i := 2) rfl rfl ?_
      refine a_aload_n C dL_law_1280 (i := 0) rfl rfl ?_
      refine a_iload_n C dL_law_1281 (i := 3) rfl rfl ?_
      refine s_iconst C dL_law_1282 (1) (by decide) (fun z586 h587 => ?_)
      refine s_iadd C dL_law_1283 (by omega) (fun z588 h589 => ?_)
      refine s_sld C X (by omega) (by omega) dL_law_1284 (fun v590 => ?_)
      refine a_callVi C (i := 236) kd_236 (hid 236 (by decide)) ⟨_, _, rfl⟩ (by decide) (S_X12_hold_236 (x1 := v590) hid hJ.2.2.1 hJ.2.2.2.1) mi_X12_hold ml_RL_182 rfl rfl (Nat.le_of_ble_eq_true rfl) (Nat.le_of_ble_eq_true rfl) (Nat.le_of_ble_eq_true rfl) dL_law_1285 (fun r2 σ2 q2 => ?_)
      have hN : LI (n + 1) σ2 := hJ.mod q2.1 q2.2.1 (q2.2.2.1.mono (by omega) (by omega)) (by decide) (by decide)
      refine a_pop C dL_law_1288 rfl ?_
      exact a_goto C dL_law_1289 (tgt := 1338) rfl (K _ hN)
  ·
    rcases hI.2.1 with ⟨t0, t1⟩ | ⟨t0, t1⟩
    ·
      refine a_callVi C (i := 0) kd_0 (hid 0 (by decide)) ⟨_, _, rfl⟩ (by decide) (S_X11_hold_0_t30_v2 (x1 := v560) hid hI.1 t0 t1 (by omega)) mi_X11_hold ml_RL_179 rfl rfl (Nat.le_of_ble_eq_true rfl) (Nat.le_of_ble_eq_true rfl) (Nat.le_of_ble_eq_true rfl) dL_law_1275 (fun r σ1 q1 => ?_)
      have hJ := hI.cls q1.1 q1.2.1 (by decide +kernel) (by decide +kernel)
      refine a_pop C dL_law_1278 rfl ?_
      refine a_aload_n C dL_law_1279 (i := 2) rfl rfl ?_
      refine a_aload_n C dL_law_1280 (i := 0) rfl rfl ?_
      refine a_iload_n C dL_law_1281 (i := 3) rfl rfl ?_
      refine s_iconst C dL_law_1282 (1) (by decide) (fun z591 h592 => ?_)
      refine s_iadd C dL_law_1283 (by omega) (fun z593 h594 => ?_)
      refine s_sld C X (by omega) (by omega) dL_law_1284 (fun v595 => ?_)
      refine a_callVi C (i := 236) kd_236 (hid 236 (by decide)) ⟨_, _, rfl⟩ (by decide) (S_X12_hold_236 (x1 := v595) hid hJ.2.2.1 hJ.2.2.2.1) mi_X12_hold ml_RL_182 rfl rfl (Nat.le_of_ble_eq_true rfl) (Nat.le_of_ble_eq_true rfl) (Nat.le_of_ble_eq_true rfl) dL_law_1285 (fun r2 σ2 q2 => ?_)
      have hN : LI (n + 1) σ2 := hJ.mod q2.1 q2.2.1 (q2.2.2.1.mono (by omega) (by omega)) (by decide) (by decide)
      refine a_pop C dL_law_1288 rfl ?_
      exact a_goto C dL_law_1289 (tgt := 1338) rfl (K _ hN)
    ·
      refine a_callVi C (i := 0) kd_0 (hid 0 (by decide)) ⟨_, _, rfl⟩ (by decide) (S_X11_hold_0_t43_v2 (x1 := v560) hid hI.1 t0 t1 (by omega)) mi_X11_hold ml_RL_179 rfl rfl (Nat.le_of_ble_eq_true rfl) (Nat.le_of_ble_eq_true rfl) (Nat.le_of_ble_eq_true rfl) dL_law_1275 (fun r σ1 q1 => ?_)
      have hJ := hI.cls q1.1 q1.2.1 (by decide +kernel) (by decide +kernel)
      refine a_pop C dL_law_1278 rfl ?_
      refine a_aload_n C dL_law_1279 (i := 2) rfl rfl ?_
      refine a_aload_n C dL_law_1280 (i := 0) rfl rfl ?_
      refine a_iload_n C dL_law_1281 (i := 3) rfl rfl ?_
      refine s_iconst C dL_law_1282 (1) (by decide) (fun z596 h597 => ?_)
      refine s_iadd C dL_law_1283 (by omega) (fun z598 h599 => ?_)
      refine s_sld C X (by omega) (by omega) dL_law_1284 (fun v600 => ?_)
      refine a_callVi C (i := 236) kd_236 (hid 236 (by decide)) ⟨_, _, rfl⟩ (by decide) (S_X12_hold_236 (x1 := v600) hid hJ.2.2.1 hJ.2.2.2.1) mi_X12_hold ml_RL_182 rfl rfl (Nat.le_of_ble_eq_true rfl) (Nat.le_of_ble_eq_true rfl) (Nat.le_of_ble_eq_true rfl) dL_law_1285 (fun r2 σ2 q2 => ?_)
      have hN : LI (n + 1) σ2 := hJ.mod q2.1 q2.2.1 (q2.2.2.1.mono (by omega) (by omega)) (by decide) (by decide)
      refine a_pop C dL_law_1288 rfl ?_
      exact a_goto C dL_law_1289 (tgt := 1338) rfl (K _ hN)
  ·
    rcases hI.2.1 with ⟨t0, t1⟩ | ⟨t0, t1⟩
    ·
      refine a_callVi C (i := 0) kd_0 (hid 0 (by decide)) ⟨_, _, rfl⟩ (by decide) (S_X11_hold_0_t30_hi (x1 := v560) hid hI.1 t0 t1 (by omega)) mi_X11_hold ml_RL_179 rfl rfl (Nat.le_of_ble_eq_true rfl) (Nat.le_of_ble_eq_true rfl) (Nat.le_of_ble_eq_true rfl) dL_law_1275 (fun r σ1 q1 => ?_)
      obtain rfl : σ1 = σ := q1.1
      have hJ := hI
      refine a_pop C dL_law_1278 rfl ?_
      refine a_aload_n C dL_law_1279 (i := 2) rfl rfl ?_
      refine a_aload_n C dL_law_1280 (i := 0) rfl rfl ?_
      refine a_iload_n C dL_law_1281 (i := 3) rfl rfl ?_
      refine s_iconst C dL_law_1282 (1) (by decide) (fun z601 h602 => ?_)
      refine s_iadd C dL_law_1283 (by omega) (fun z603 h604 => ?_)
      refine s_sld C X (by omega) (by omega) dL_law_1284 (fun v605 => ?_)
      refine a_callVi C (i := 236) kd_236 (hid 236 (by decide)) ⟨_, _, rfl⟩ (by decide) (S_X12_hold_236 (x1 := v605) hid hJ.2.2.1 hJ.2.2.2.1) mi_X12_hold ml_RL_182 rfl rfl (Nat.le_of_ble_eq_true rfl) (Nat.le_of_ble_eq_true rfl) (Nat.le_of_ble_eq_true rfl) dL_law_1285 (fun r2 σ2 q2 => ?_)
      have hN : LI (n + 1) σ2 := hJ.mod q2.1 q2.2.1 (q2.2.2.1.mono (by omega) (by omega)) (by decide) (by decide)
      refine a_pop C dL_law_1288 rfl ?_
      exact a_goto C dL_law_1289 (tgt := 1338) rfl (K _ hN)
    ·
      refine a_callVi C (i := 0) kd_0 (hid 0 (by decide)) ⟨_, _, rfl⟩ (by decide) (S_X11_hold_0_t43_hi (x1 := v560) hid hI.1 t0 t1 (by omega)) mi_X11_hold ml_RL_179 rfl rfl (Nat.le_of_ble_eq_true rfl) (Nat.le_of_ble_eq_true rfl) (Nat.le_of_ble_eq_true rfl) dL_law_1275 (fun r σ1 q1 => ?_)
      obtain rfl : σ1 = σ := q1.1
      have hJ := hI
      refine a_pop C dL_law_1278 rfl ?_
      refine a_aload_n C dL_law_1279 (i := 2) rfl rfl ?_
      refine a_aload_n C dL_law_1280 (i := 0) rfl rfl ?_
      refine a_iload_n C dL_law_1281 (i := 3) rfl rfl ?_
      refine s_iconst C dL_law_1282 (1) (by decide) (fun z606 h607 => ?_)
      refine s_iadd C dL_law_1283 (by omega) (fun z608 h609 => ?_)
      refine s_sld C X (by omega) (by omega) dL_law_1284 (fun v610 => ?_)
      refine a_callVi C (i := 236) kd_236 (hid 236 (by decide)) ⟨_, _, rfl⟩ (by decide) (S_X12_hold_236 (x1 := v610) hid hJ.2.2.1 hJ.2.2.2.1) mi_X12_hold ml_RL_182 rfl rfl (Nat.le_of_ble_eq_true rfl) (Nat.le_of_ble_eq_true rfl) (Nat.le_of_ble_eq_true rfl) dL_law_1285 (fun r2 σ2 q2 => ?_)
      have hN : LI (n + 1) σ2 := hJ.mod q2.1 q2.2.1 (q2.2.2.1.mono (by omega) (by omega)) (by decide) (by decide)
      refine a_pop C dL_law_1288 rfl ?_
      exact a_goto C dL_law_1289 (tgt := 1338) rfl (K _ hN)
set_option maxHeartbeats 4000000 in
set_option maxRecDepth 100000 in
theorem la_40 {Γ : GT} {ids : List Nat} {ad : Nat → Nat} {ca : Nat → ClassId} {l0 : Launch} {D0 : va_G} {b L n : Nat} {i : Int32} {xs : Nat → Int32} {σ : HS} {K9 : (Nat → Nat) × (Nat → Nat)} (C : CT ids ad ca Γ code RL l0 D0 2048 84000 4) (X : SX Γ b L xs) (E9 : SG K9 Γ) (hid : ∀ i, i < 277 → i ∈ ids) (hi : i.toInt = 6 * (n : Int)) (hL : 6 * n + 6 ≤ L) (hLL : L ≤ 3072) (hI : LI n σ) (K : ∀ σ : HS, LI (n + 1) σ → AW ids ad ca Γ 1338 [some (.ref b), some (.ref (ad 0)), some (.ref (ad 236)), some (.int i)] [] σ) : AW ids ad ca Γ 1292 [some (.ref b), some (.ref (ad 0)), some (.ref (ad 236)), some (.int i)] [] σ := by
  refine a_aload_n C dL_law_1292 (i := 1) rfl rfl ?_
  refine a_aload_n C dL_law_1293 (i := 0) rfl rfl ?_
  refine a_iload_n C dL_law_1294 (i := 3) rfl rfl ?_
  refine s_iconst C dL_law_1295 (1) (by decide) (fun z611 h612 => ?_)
  refine s_iadd C dL_law_1296 (by omega) (fun z613 h614 => ?_)
  refine s_sld C X (by omega) (by omega) dL_law_1297 (fun v615 => ?_)
  rcases (show v615.toInt < 0 ∨ v615.toInt = 0 ∨ v615.toInt = 1 ∨ v615.toInt = 2 ∨ 2 < v615.toInt by omega) with hv | hv | hv | hv | hv
  ·
    rcases hI.2.1 with ⟨t0, t1⟩ | ⟨t0, t1⟩
    ·
      refine a_callVi C (i := 0) kd_0 (hid 0 (by decide)) ⟨_, _, rfl⟩ (by decide) (S_X11_restore_0_t30_lo (x1 := v615) hid hI.1 t0 t1 (by omega)) mi_X11_restore ml_RL_183 rfl rfl (Nat.le_of_ble_eq_true rfl) (Nat.le_of_ble_eq_true rfl) (Nat.le_of_ble_eq_true rfl) dL_law_1298 (fun r σ1 q1 => ?_)
      obtain rfl : σ1 = σ := q1.1
      have hJ := hI
      refine a_pop C dL_law_1301 rfl ?_
      refine a_aload_n C dL_law_1302 (i := 2) rfl rfl ?_
      refine a_aload_n C dL_law_1303 (i := 0) rfl rfl ?_
      refine a_iload_n C dL_law_1304 (i := 3) rfl rfl ?_
      refine s_iconst C dL_law_1305 (1) (by decide) (fun z616 h617 => ?_)
      refine s_iadd C dL_law_1306 (by omega) (fun z618 h619 => ?_)
      refine s_sld C X (by omega) (by omega) dL_law_1307 (fun v620 => ?_)
      refine a_callVi C (i := 236) kd_236 (hid 236 (by decide)) ⟨_, _, rfl⟩ (by decide) (S_X12_restore_236 (x1 := v620) hid hJ.2.2.1 hJ.2.2.2.1) mi_X12_restore ml_RL_186 rfl rfl (Nat.le_of_ble_eq_true rfl) (Nat.le_of_ble_eq_true rfl) (Nat.le_of_ble_eq_true rfl) dL_law_1308 (fun r2 σ2 q2 => ?_)
      have hN : LI (n + 1) σ2 := hJ.mod q2.1 q2.2.1 (q2.2.2.1.mono (by omega) (by omega)) (by decide) (by decide)
      refine a_pop C dL_law_1311 rfl ?_
      exact a_goto C dL_law_1312 (tgt := 1338) rfl (K _ hN)
    ·
      refine a_callVi C (i := 0) kd_0 (hid 0 (by decide)) ⟨_, _, rfl⟩ (by decide) (S_X11_restore_0_t43_lo (x1 := v615) hid hI.1 t0 t1 (by omega)) mi_X11_restore ml_RL_183 rfl rfl (Nat.le_of_ble_eq_true rfl) (Nat.le_of_ble_eq_true rfl) (Nat.le_of_ble_eq_true rfl) dL_law_1298 (fun r σ1 q1 => ?_)
      obtain rfl : σ1 = σ := q1.1
      have hJ := hI
      refine a_pop C dL_law_1301 rfl ?_
      refine a_aload_n C dL_law_1302 (i := 2) rfl rfl ?_
      refine a_aload_n C dL_law_1303 (i := 0) rfl rfl ?_
      refine a_iload_n C dL_law_1304 (i := 3) rfl rfl ?_
      refine s_iconst C dL_law_1305 (1) (by decide) (fun z621 h622 => ?_)
      refine s_iadd C dL_law_1306 (by omega) (fun z623 h624 => ?_)
      refine s_sld C X (by omega) (by omega) dL_law_1307 (fun v625 => ?_)
      refine a_callVi C (i := 236) kd_236 (hid 236 (by decide)) ⟨_, _, rfl⟩ (by decide) (S_X12_restore_236 (x1 := v625) hid hJ.2.2.1 hJ.2.2.2.1) mi_X12_restore ml_RL_186 rfl rfl (Nat.le_of_ble_eq_true rfl) (Nat.le_of_ble_eq_true rfl) (Nat.le_of_ble_eq_true rfl) dL_law_1308 (fun r2 σ2 q2 => ?_)
      have hN : LI (n + 1) σ2 := hJ.mod q2.1 q2.2.1 (q2.2.2.1.mono (by omega) (by omega)) (by decide) (by decide)
      refine a_pop C dL_law_1311 rfl ?_
      exact a_goto C dL_law_1312 (tgt := 1338) rfl (K _ hN)
  ·
    rcases hI.2.1 with ⟨t0, t1⟩ | ⟨t0, t1⟩
    ·
      refine a_callVi C (i := 0) kd_0 (hid 0 (by decide)) ⟨_, _, rfl⟩ (by decide) (S_X11_restore_0_t30_v0 (x1 := v615) hid hI.1 t0 t1 (by omega)) mi_X11_restore ml_RL_183 rfl rfl (Nat.le_of_ble_eq_true rfl) (Nat.le_of_ble_eq_true rfl) (Nat.le_of_ble_eq_true rfl) dL_law_1298 (fun r σ1 q1 => ?_)
      have hJ := hI.cls q1.1 q1.2.1 (by decide +kernel) (by decide +kernel)
      refine a_pop C dL_law_1301 rfl ?_
      refine a_aload_n C dL_law_1302 (i := 2) rfl rfl ?_
      refine a_aload_n C dL_law_1303 (i := 0) rfl rfl ?_
      refine a_iload_n C dL_law_1304 (i := 3) rfl rfl ?_
      refine s_iconst C dL_law_1305 (1) (by decide) (fun z626 h627 => ?_)
      refine s_iadd C dL_law_1306 (by omega) (fun z628 h629 => ?_)
      refine s_sld C X (by omega) (by omega) dL_law_1307 (fun v630 => ?_)
      refine a_callVi C (i := 236) kd_236 (hid 236 (by decide)) ⟨_, _, rfl⟩ (by decide) (S_X12_restore_236 (x1 := v630) hid hJ.2.2.1 hJ.2.2.2.1) mi_X12_restore ml_RL_186 rfl rfl (Nat.le_of_ble_eq_true rfl) (Nat.le_of_ble_eq_true rfl) (Nat.le_of_ble_eq_true rfl) dL_law_1308 (fun r2 σ2 q2 => ?_)
      have hN : LI (n + 1) σ2 := hJ.mod q2.1 q2.2.1 (q2.2.2.1.mono (by omega) (by omega)) (by decide) (by decide)
      refine a_pop C dL_law_1311 rfl ?_
      exact a_goto C dL_law_1312 (tgt := 1338) rfl (K _ hN)
    ·
      refine a_callVi C (i := 0) kd_0 (hid 0 (by decide)) ⟨_, _, rfl⟩ (by decide) (S_X11_restore_0_t43_v0 (x1 := v615) hid hI.1 t0 t1 (by omega)) mi_X11_restore ml_RL_183 rfl rfl (Nat.le_of_ble_eq_true rfl) (Nat.le_of_ble_eq_true rfl) (Nat.le_of_ble_eq_true rfl) dL_law_1298 (fun r σ1 q1 => ?_)
      have hJ := hI.cls q1.1 q1.2.1 (by decide +kernel) (by decide +kernel)
      refine a_pop C dL_law_1301 rfl ?_
      refine a_aload_n C dL_law_1302 (i := 2) rfl rfl ?_
      refine a_aload_n C dL_law_1303 (i := 0) rfl rfl ?_
      refine a_iload_n C dL_law_1304 (i := 3) rfl rfl ?_
      refine s_iconst C dL_law_1305 (1) (by decide) (fun z631 h632 => ?_)
      refine s_iadd C dL_law_1306 (by omega) (fun z633 h634 => ?_)
      refine s_sld C X (by omega) (by omega) dL_law_1307 (fun v635 => ?_)
      refine a_callVi C (i := 236) kd_236 (hid 236 (by decide)) ⟨_, _, rfl⟩ (by decide) (S_X12_restore_236 (x1 := v635) hid hJ.2.2.1 hJ.2.2.2.1) mi_X12_restore ml_RL_186 rfl rfl (Nat.le_of_ble_eq_true rfl) (Nat.le_of_ble_eq_true rfl) (Nat.le_of_ble_eq_true rfl) dL_law_1308 (fun r2 σ2 q2 => ?_)
      have hN : LI (n + 1) σ2 := hJ.mod q2.1 q2.2.1 (q2.2.2.1.mono (by omega) (by omega)) (by decide) (by decide)
      refine a_pop C dL_law_1311 rfl ?_
      exact a_goto C dL_law_1312 (tgt := 1338) rfl (K _ hN)
  ·
    rcases hI.2.1 with ⟨t0, t1⟩ | ⟨t0, t1⟩
    ·
      refine a_callVi C (i := 0) kd_0 (hid 0 (by decide)) ⟨_, _, rfl⟩ (by decide) (S_X11_restore_0_t30_v1 (x1 := v615) hid hI.1 t0 t1 (by omega)) mi_X11_restore ml_RL_183 rfl rfl (Nat.le_of_ble_eq_true rfl) (Nat.le_of_ble_eq_true rfl) (Nat.le_of_ble_eq_true rfl) dL_law_1298 (fun r σ1 q1 => ?_)
      have hJ := hI.cls q1.1 q1.2.1 (by decide +kernel) (by decide +kernel)
      refine a_pop C dL_law_1301 rfl ?_
      refine a_aload_n C dL_law_1302 (i := 2) rfl rfl ?_
      refine a_aload_n C dL_law_1303 (i := 0) rfl rfl ?_
      refine a_iload_n C dL_law_1304 (i := 3) rfl rfl ?_
      refine s_iconst C dL_law_1305 (1) (by decide) (fun z636 h637 => ?_)
      refine s_iadd C dL_law_1306 (by omega) (fun z638 h639 => ?_)
      refine s_sld C X (by omega) (by omega) dL_law_1307 (fun v640 => ?_)
      refine a_callVi C (i := 236) kd_236 (hid 236 (by decide)) ⟨_, _, rfl⟩ (by decide) (S_X12_restore_236 (x1 := v640) hid hJ.2.2.1 hJ.2.2.2.1) mi_X12_restore ml_RL_186 rfl rfl (Nat.le_of_ble_eq_true rfl) (Nat.le_of_ble_eq_true rfl) (Nat.le_of_ble_eq_true rfl) dL_law_1308 (fun r2 σ2 q2 => ?_)
      have hN : LI (n + 1) σ2 := hJ.mod q2.1 q2.2.1 (q2.2.2.1.mono (by omega) (by omega)) (by decide) (by decide)
      refine a_pop C dL_law_1311 rfl ?_
      exact a_goto C dL_law_1312 (tgt := 1338) rfl (K _ hN)
    ·
      refine a_callVi C (i := 0) kd_0 (hid 0 (by decide)) ⟨_, _, rfl⟩ (by decide) (S_X11_restore_0_t43_v1 (x1 := v615) hid hI.1 t0 t1 (by omega)) mi_X11_restore ml_RL_183 rfl rfl (Nat.le_of_ble_eq_true rfl) (Nat.le_of_ble_eq_true rfl) (Nat.le_of_ble_eq_true rfl) dL_law_1298 (fun r σ1 q1 => ?_)
      have hJ := hI.cls q1.1 q1.2.1 (by decide +kernel) (by decide +kernel)
      refine a_pop C dL_law_1301 rfl ?_
      refine a_aload_n C dL_law_1302 (i := 2) rfl rfl ?_
      refine a_aload_n C dL_law_1303 (i := 0) rfl rfl ?_
      refine a_iload_n C dL_law_1304 (i := 3) rfl rfl ?_
      refine s_iconst C dL_law_1305 (1) (by decide) (fun z641 h642 => ?_)
      refine s_iadd C dL_law_1306 (by omega) (fun z643 h644 => ?_)
      refine s_sld C X (by omega) (by omega) dL_law_1307 (fun v645 => ?_)
      refine a_callVi C (i := 236) kd_236 (hid 236 (by decide)) ⟨_, _, rfl⟩ (by decide) (S_X12_restore_236 (x1 := v645) hid hJ.2.2.1 hJ.2.2.2.1) mi_X12_restore ml_RL_186 rfl rfl (Nat.le_of_ble_eq_true rfl) (Nat.le_of_ble_eq_true rfl) (Nat.le_of_ble_eq_true rfl) dL_law_1308 (fun r2 σ2 q2 => ?_)
      have hN : LI (n + 1) σ2 := hJ.mod q2.1 q2.2.1 (q2.2.2.1.mono (by omega) (by omega)) (by decide) (by decide)
      refine a_pop C dL_law_1311 rfl ?_
      exact a_goto C dL_law_1312 (tgt := 1338) rfl (K _ hN)
  ·
    rcases hI.2.1 with ⟨t0, t1⟩ | ⟨t0, t1⟩
    ·
      refine a_callVi C (i := 0) kd_0 (hid 0 (by decide)) ⟨_, _, rfl⟩ (by decide) (S_X11_restore_0_t30_v2 (x1 := v615) hid hI.1 t0 t1 (by omega)) mi_X11_restore ml_RL_183 rfl rfl (Nat.le_of_ble_eq_true rfl) (Nat.le_of_ble_eq_true rfl) (Nat.le_of_ble_eq_true rfl) dL_law_1298 (fun r σ1 q1 => ?_)
      have hJ := hI.cls q1.1 q1.2.1 (by decide +kernel) (by decide +kernel)
      refine a_pop C dL_law_1301 rfl ?_
      refine a_aload_n C dL_law_1302 (i := 2) rfl rfl ?_
      refine a_aload_n C dL_law_1303 (i := 0) rfl rfl ?_
      refine a_iload_n C dL_law_1304 (i := 3) rfl rfl ?_
      refine s_iconst C dL_law_1305 (1) (by decide) (fun z646 h647 => ?_)
      refine s_iadd C dL_law_1306 (by omega) (fun z648 h649 => ?_)
      refine s_sld C X (by omega) (by omega) dL_law_1307 (fun v650 => ?_)
      refine a_callVi C (i := 236) kd_236 (hid 236 (by decide)) ⟨_, _, rfl⟩ (by decide) (S_X12_restore_236 (x1 := v650) hid hJ.2.2.1 hJ.2.2.2.1) mi_X12_restore ml_RL_186 rfl rfl (Nat.le_of_ble_eq_true rfl) (Nat.le_of_ble_eq_true rfl) (Nat.le_of_ble_eq_true rfl) dL_law_1308 (fun r2 σ2 q2 => ?_)
      have hN : LI (n + 1) σ2 := hJ.mod q2.1 q2.2.1 (q2.2.2.1.mono (by omega) (by omega)) (by decide) (by decide)
      refine a_pop C dL_law_1311 rfl ?_
      exact a_goto C dL_law_1312 (tgt := 1338) rfl (K _ hN)
    ·
      refine a_callVi C (i := 0) kd_0 (hid 0 (by decide)) ⟨_, _, rfl⟩ (by decide) (S_X11_restore_0_t43_v2 (x1 := v615) hid hI.1 t0 t1 (by omega)) mi_X11_restore ml_RL_183 rfl rfl (Nat.le_of_ble_eq_true rfl) (Nat.le_of_ble_eq_true rfl) (Nat.le_of_ble_eq_true rfl) dL_law_1298 (fun r σ1 q1 => ?_)
      have hJ := hI.cls q1.1 q1.2.1 (by decide +kernel) (by decide +kernel)
      refine a_pop C dL_law_1301 rfl ?_
      refine a_aload_n C dL_law_1302 (i := 2) rfl rfl ?_
      refine a_aload_n C dL_law_1303 (i := 0) rfl rfl ?_
      refine a_iload_n C dL_law_1304 (i := 3) rfl rfl ?_
      refine s_iconst C dL_law_1305 (1) (by decide) (fun z651 h652 => ?_)
      refine s_iadd C dL_law_1306 (by omega) (fun z653 h654 => ?_)
      refine s_sld C X (by omega) (by omega) dL_law_1307 (fun v655 => ?_)
      refine a_callVi C (i := 236) kd_236 (hid 236 (by decide)) ⟨_, _, rfl⟩ (by decide) (S_X12_restore_236 (x1 := v655) hid hJ.2.2.1 hJ.2.2.2.1) mi_X12_restore ml_RL_186 rfl rfl (Nat.le_of_ble_eq_true rfl) (Nat.le_of_ble_eq_true rfl) (Nat.le_of_ble_eq_true rfl) dL_law_1308 (fun r2 σ2 q2 => ?_)
      have hN : LI (n + 1) σ2 := hJ.mod q2.1 q2.2.1 (q2.2.2.1.mono (by omega) (by omega)) (by decide) (by decide)
      refine a_pop C dL_law_1311 rfl ?_
      exact a_goto C dL_law_1312 (tgt := 1338) rfl (K _ hN)
  ·
    rcases hI.2.1 with ⟨t0, t1⟩ | ⟨t0, t1⟩
    ·
      refine a_callVi C (i := 0) kd_0 (hid 0 (by decide)) ⟨_, _, rfl⟩ (by decide) (S_X11_restore_0_t30_hi (x1 := v615) hid hI.1 t0 t1 (by omega)) mi_X11_restore ml_RL_183 rfl rfl (Nat.le_of_ble_eq_true rfl) (Nat.le_of_ble_eq_true rfl) (Nat.le_of_ble_eq_true rfl) dL_law_1298 (fun r σ1 q1 => ?_)
      obtain rfl : σ1 = σ := q1.1
      have hJ := hI
      refine a_pop C dL_law_1301 rfl ?_
      refine a_aload_n C dL_law_1302 (i := 2) rfl rfl ?_
      refine a_aload_n C dL_law_1303 (i := 0) rfl rfl ?_
      refine a_iload_n C dL_law_1304 (i := 3) rfl rfl ?_
      refine s_iconst C dL_law_1305 (1) (by decide) (fun z656 h657 => ?_)
      refine s_iadd C dL_law_1306 (by omega) (fun z658 h659 => ?_)
      refine s_sld C X (by omega) (by omega) dL_law_1307 (fun v660 => ?_)
      refine a_callVi C (i := 236) kd_236 (hid 236 (by decide)) ⟨_, _, rfl⟩ (by decide) (S_X12_restore_236 (x1 := v660) hid hJ.2.2.1 hJ.2.2.2.1) mi_X12_restore ml_RL_186 rfl rfl (Nat.le_of_ble_eq_true rfl) (Nat.le_of_ble_eq_true rfl) (Nat.le_of_ble_eq_true rfl) dL_law_1308 (fun r2 σ2 q2 => ?_)
      have hN : LI (n + 1) σ2 := hJ.mod q2.1 q2.2.1 (q2.2.2.1.mono (by omega) (by omega)) (by decide) (by decide)
      refine a_pop C dL_law_1311 rfl ?_
      exact a_goto C dL_law_1312 (tgt := 1338) rfl (K _ hN)
    ·
      refine a_callVi C (i := 0) kd_0 (hid 0 (by decide)) ⟨_, _, rfl⟩ (by decide) (S_X11_restore_0_t43_hi (x1 := v615) hid hI.1 t0 t1 (by omega)) mi_X11_restore ml_RL_183 rfl rfl (Nat.le_of_ble_eq_true rfl) (Nat.le_of_ble_eq_true rfl) (Nat.le_of_ble_eq_true rfl) dL_law_1298 (fun r σ1 q1 => ?_)
      obtain rfl : σ1 = σ := q1.1
      have hJ := hI
      refine a_pop C dL_law_1301 rfl ?_
      refine a_aload_n C dL_law_1302 (i := 2) rfl rfl ?_
      refine a_aload_n C dL_law_1303 (i := 0) rfl rfl ?_
      refine a_iload_n C dL_law_1304 (i := 3) rfl rfl ?_
      refine s_iconst C dL_law_1305 (1) (by decide) (fun z661 h662 => ?_)
      refine s_iadd C dL_law_1306 (by omega) (fun z663 h664 => ?_)
      refine s_sld C X (by omega) (by omega) dL_law_1307 (fun v665 => ?_)
      refine a_callVi C (i := 236) kd_236 (hid 236 (by decide)) ⟨_, _, rfl⟩ (by decide) (S_X12_restore_236 (x1 := v665) hid hJ.2.2.1 hJ.2.2.2.1) mi_X12_restore ml_RL_186 rfl rfl (Nat.le_of_ble_eq_true rfl) (Nat.le_of_ble_eq_true rfl) (Nat.le_of_ble_eq_true rfl) dL_law_1308 (fun r2 σ2 q2 => ?_)
      have hN : LI (n + 1) σ2 := hJ.mod q2.1 q2.2.1 (q2.2.2.1.mono (by omega) (by omega)) (by decide) (by decide)
      refine a_pop C dL_law_1311 rfl ?_
      exact a_goto C dL_law_1312 (tgt := 1338) rfl (K _ hN)
set_option maxHeartbeats 4000000 in
set_option maxRecDepth 100000 in
theorem la_41 {Γ : GT} {ids : List Nat} {ad : Nat → Nat} {ca : Nat → ClassId} {l0 : Launch} {D0 : va_G} {b L n : Nat} {i : Int32} {xs : Nat → Int32} {σ : HS} {K9 : (Nat → Nat) × (Nat → Nat)} (C : CT ids ad ca Γ code RL l0 D0 2048 84000 4) (X : SX Γ b L xs) (E9 : SG K9 Γ) (hid : ∀ i, i < 277 → i ∈ ids) (hi : i.toInt = 6 * (n : Int)) (hL : 6 * n + 6 ≤ L) (hLL : L ≤ 3072) (hI : LI n σ) (K : ∀ σ : HS, LI (n + 1) σ → AW ids ad ca Γ 1338 [some (.ref b), some (.ref (ad 0)), some (.ref (ad 236)), some (.int i)] [] σ) : AW ids ad ca Γ 1315 [some (.ref b), some (.ref (ad 0)), some (.ref (ad 236)), some (.int i)] [] σ := by
  refine a_aload_n C dL_law_1315 (i := 1) rfl rfl ?_
  refine a_aload_n C dL_law_1316 (i := 0) rfl rfl ?_
  refine a_iload_n C dL_law_1317 (i := 3) rfl rfl ?_
  refine s_iconst C dL_law_1318 (1) (by decide) (fun z666 h667 => ?_)
  refine s_iadd C dL_law_1319 (by omega) (fun z668 h669 => ?_)
  refine s_sld C X (by omega) (by omega) dL_law_1320 (fun v670 => ?_)
  refine a_callVi C (i := 0) kd_0 (hid 0 (by decide)) ⟨_, _, rfl⟩ (by decide) (c_count (x1 := v670) hid hI.1 hI.2.1) mi_X11_count ml_RL_187 rfl rfl (Nat.le_of_ble_eq_true rfl) (Nat.le_of_ble_eq_true rfl) (Nat.le_of_ble_eq_true rfl) dL_law_1321 (fun r σ1 q1 => ?_)
  obtain rfl : σ1 = σ := q1
  have hJ := hI
  refine a_pop C dL_law_1324 rfl ?_
  refine a_aload_n C dL_law_1325 (i := 2) rfl rfl ?_
  refine a_aload_n C dL_law_1326 (i := 0) rfl rfl ?_
  refine a_iload_n C dL_law_1327 (i := 3) rfl rfl ?_
  refine s_iconst C dL_law_1328 (1) (by decide) (fun z671 h672 => ?_)
  refine s_iadd C dL_law_1329 (by omega) (fun z673 h674 => ?_)
  refine s_sld C X (by omega) (by omega) dL_law_1330 (fun v675 => ?_)
  refine a_callVi C (i := 236) kd_236 (hid 236 (by decide)) ⟨_, _, rfl⟩ (by decide) (S_X12_count_236 (x1 := v675) hid hJ.2.2.1 hJ.2.2.2.1) mi_X12_count ml_RL_190 rfl rfl (Nat.le_of_ble_eq_true rfl) (Nat.le_of_ble_eq_true rfl) (Nat.le_of_ble_eq_true rfl) dL_law_1331 (fun r2 σ2 q2 => ?_)
  have hN : LI (n + 1) σ2 := hJ.mod q2.1 q2.2.1 (q2.2.2.mono (by omega) (by omega)) (by decide) (by decide)
  refine a_pop C dL_law_1334 rfl ?_
  exact a_goto C dL_law_1335 (tgt := 1338) rfl (K _ hN)
