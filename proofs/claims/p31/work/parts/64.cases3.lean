set_option maxHeartbeats 4000000 in
set_option maxRecDepth 100000 in
theorem la_28 {Γ : GT} {ids : List Nat} {ad : Nat → Nat} {ca : Nat → ClassId} {l0 : Launch} {D0 : va_G} {b L n : Nat} {i : Int32} {xs : Nat → Int32} {σ : HS} {K9 : (Nat → Nat) × (Nat → Nat)} (C : CT ids ad ca Γ code RL l0 D0 2048 84000 4) (X : SX Γ b L xs) (E9 : SG K9 Γ) (hid : ∀ i, i < 277 → i ∈ ids) (hi : i.toInt = 6 * (n : Int)) (hL : 6 * n + 6 ≤ L) (hLL : L ≤ 3072) (hI : LI n σ) (K : ∀ σ : HS, LI (n + 1) σ → AW ids ad ca Γ 1338 [some (.ref b), some (.ref (ad 0)), some (.ref (ad 236)), some (.int i)] [] σ) : AW ids ad ca Γ 940 [some (.ref b), some (.ref (ad 0)), some (.ref (ad 236)), some (.int i)] [] σ := by
  refine a_aload_n C dL_law_940 (i := 1) rfl rfl ?_
  refine a_aload_n C dL_law_941 (i := 0) rfl rfl ?_
  refine a_iload_n C dL_law_942 (i := 3) rfl rfl ?_
  refine s_iconst C dL_law_943 (1) (by decide) (fun z433 h434 => ?_)
  refine s_iadd C dL_law_944 (by omega) (fun z435 h436 => ?_)
  refine s_sld C X (by omega) (by omega) dL_law_945 (fun m437 h438 => ?_)
  refine a_callVi C (i := 0) kd_0 (hid 0 (by decide)) ⟨_, _, rfl⟩ (by decide) (c_order (x1 := (xs m437)) hid hI.1 hI.2.1) mi_X11_order ml_RL_133 rfl rfl (Nat.le_of_ble_eq_true rfl) (Nat.le_of_ble_eq_true rfl) (Nat.le_of_ble_eq_true rfl) dL_law_946 (fun r σ1 q1 => ?_)
  obtain rfl : σ1 = σ := q1
  have hJ := hI
  refine a_pop C dL_law_949 rfl ?_
  refine a_aload_n C dL_law_950 (i := 2) rfl rfl ?_
  refine a_aload_n C dL_law_951 (i := 0) rfl rfl ?_
  refine a_iload_n C dL_law_952 (i := 3) rfl rfl ?_
  refine s_iconst C dL_law_953 (1) (by decide) (fun z439 h440 => ?_)
  refine s_iadd C dL_law_954 (by omega) (fun z441 h442 => ?_)
  refine s_sld C X (by omega) (by omega) dL_law_955 (fun m443 h444 => ?_)
  obtain rfl : m443 = m437 := by omega
  refine a_callVi C (i := 236) kd_236 (hid 236 (by decide)) ⟨_, _, rfl⟩ (by decide) (S_X12_order_236 (x1 := (xs m443)) hid hJ.2.2.1 hJ.2.2.2.1) mi_X12_order ml_RL_136 rfl rfl (Nat.le_of_ble_eq_true rfl) (Nat.le_of_ble_eq_true rfl) (Nat.le_of_ble_eq_true rfl) dL_law_956 (fun r2 σ2 q2 => ?_)
  have hN : LI (n + 1) σ2 := hJ.mod q2.1 q2.2.1 (q2.2.2.mono (by omega) (by omega)) (by decide) (by decide)
  refine a_pop C dL_law_959 rfl ?_
  exact a_goto C dL_law_960 (tgt := 1338) rfl (K _ hN)
set_option maxHeartbeats 4000000 in
set_option maxRecDepth 100000 in
theorem la_29 {Γ : GT} {ids : List Nat} {ad : Nat → Nat} {ca : Nat → ClassId} {l0 : Launch} {D0 : va_G} {b L n : Nat} {i : Int32} {xs : Nat → Int32} {σ : HS} {K9 : (Nat → Nat) × (Nat → Nat)} (C : CT ids ad ca Γ code RL l0 D0 2048 84000 4) (X : SX Γ b L xs) (E9 : SG K9 Γ) (hid : ∀ i, i < 277 → i ∈ ids) (hi : i.toInt = 6 * (n : Int)) (hL : 6 * n + 6 ≤ L) (hLL : L ≤ 3072) (hI : LI n σ) (K : ∀ σ : HS, LI (n + 1) σ → AW ids ad ca Γ 1338 [some (.ref b), some (.ref (ad 0)), some (.ref (ad 236)), some (.int i)] [] σ) : AW ids ad ca Γ 963 [some (.ref b), some (.ref (ad 0)), some (.ref (ad 236)), some (.int i)] [] σ := by
  refine a_aload_n C dL_law_963 (i := 1) rfl rfl ?_
  refine a_aload_n C dL_law_964 (i := 0) rfl rfl ?_
  refine a_iload_n C dL_law_965 (i := 3) rfl rfl ?_
  refine s_iconst C dL_law_966 (1) (by decide) (fun z445 h446 => ?_)
  refine s_iadd C dL_law_967 (by omega) (fun z447 h448 => ?_)
  refine s_sld C X (by omega) (by omega) dL_law_968 (fun m449 h450 => ?_)
  refine a_aload_n C dL_law_969 (i := 0) rfl rfl ?_
  refine a_iload_n C dL_law_970 (i := 3) rfl rfl ?_
  refine s_iconst C dL_law_971 (2) (by decide) (fun z451 h452 => ?_)
  refine s_iadd C dL_law_972 (by omega) (fun z453 h454 => ?_)
  refine s_sld C X (by omega) (by omega) dL_law_973 (fun m455 h456 => ?_)
  refine a_aload_n C dL_law_974 (i := 0) rfl rfl ?_
  refine a_iload_n C dL_law_975 (i := 3) rfl rfl ?_
  refine s_iconst C dL_law_976 (3) (by decide) (fun z457 h458 => ?_)
  refine s_iadd C dL_law_977 (by omega) (fun z459 h460 => ?_)
  refine s_sld C X (by omega) (by omega) dL_law_978 (fun m461 h462 => ?_)
  refine a_aload_n C dL_law_979 (i := 0) rfl rfl ?_
  refine a_iload_n C dL_law_980 (i := 3) rfl rfl ?_
  refine s_iconst C dL_law_981 (4) (by decide) (fun z463 h464 => ?_)
  refine s_iadd C dL_law_982 (by omega) (fun z465 h466 => ?_)
  refine s_sld C X (by omega) (by omega) dL_law_983 (fun m467 h468 => ?_)
  obtain ⟨v9, hA, hB⟩ := w_ways (l := l0) (D := D0) (ad := ad) (ca := ca) (p0 := (xs m449)) (p1 := (xs m455)) (p2 := (xs m461)) (p3 := (xs m467)) hid
  refine a_callVi C (i := 0) kd_0 (hid 0 (by decide)) ⟨_, _, rfl⟩ (by decide) ((hA σ).and (c_ways (x1 := (xs m449)) (x2 := (xs m455)) (x3 := (xs m461)) (x4 := (xs m467)) hid hI.1 hI.2.1)) mi_X11_ways ml_RL_137 rfl rfl (Nat.le_of_ble_eq_true rfl) (Nat.le_of_ble_eq_true rfl) (Nat.le_of_ble_eq_true rfl) dL_law_984 (fun r σ1 q1 => ?_)
  obtain ⟨⟨w1, e1, _⟩, q1⟩ := q1
  have hJ := hI.cls q1.1 q1.2 (by decide +kernel) (by decide +kernel)
  refine a_aload_n C dL_law_987 (i := 2) rfl rfl ?_
  refine a_aload_n C dL_law_988 (i := 0) rfl rfl ?_
  refine a_iload_n C dL_law_989 (i := 3) rfl rfl ?_
  refine s_iconst C dL_law_990 (1) (by decide) (fun z469 h470 => ?_)
  refine s_iadd C dL_law_991 (by omega) (fun z471 h472 => ?_)
  refine s_sld C X (by omega) (by omega) dL_law_992 (fun m473 h474 => ?_)
  refine a_aload_n C dL_law_993 (i := 0) rfl rfl ?_
  refine a_iload_n C dL_law_994 (i := 3) rfl rfl ?_
  refine s_iconst C dL_law_995 (2) (by decide) (fun z475 h476 => ?_)
  refine s_iadd C dL_law_996 (by omega) (fun z477 h478 => ?_)
  refine s_sld C X (by omega) (by omega) dL_law_997 (fun m479 h480 => ?_)
  refine a_aload_n C dL_law_998 (i := 0) rfl rfl ?_
  refine a_iload_n C dL_law_999 (i := 3) rfl rfl ?_
  refine s_iconst C dL_law_1000 (3) (by decide) (fun z481 h482 => ?_)
  refine s_iadd C dL_law_1001 (by omega) (fun z483 h484 => ?_)
  refine s_sld C X (by omega) (by omega) dL_law_1002 (fun m485 h486 => ?_)
  refine a_aload_n C dL_law_1003 (i := 0) rfl rfl ?_
  refine a_iload_n C dL_law_1004 (i := 3) rfl rfl ?_
  refine s_iconst C dL_law_1005 (4) (by decide) (fun z487 h488 => ?_)
  refine s_iadd C dL_law_1006 (by omega) (fun z489 h490 => ?_)
  refine s_sld C X (by omega) (by omega) dL_law_1007 (fun m491 h492 => ?_)
  obtain rfl : m473 = m449 := by omega
  obtain rfl : m479 = m455 := by omega
  obtain rfl : m485 = m461 := by omega
  obtain rfl : m491 = m467 := by omega
  refine a_callVi C (i := 236) kd_236 (hid 236 (by decide)) ⟨_, _, rfl⟩ (by decide) ((hB σ1).and (S_X12_ways_236 (x1 := (xs m473)) (x2 := (xs m479)) (x3 := (xs m485)) (x4 := (xs m491)) hid hJ.2.2.1)) mi_X12_ways ml_RL_141 rfl rfl (Nat.le_of_ble_eq_true rfl) (Nat.le_of_ble_eq_true rfl) (Nat.le_of_ble_eq_true rfl) dL_law_1008 (fun r2 σ2 q2 => ?_)
  obtain ⟨⟨w2, e2⟩, q2⟩ := q2
  have hN : LI (n + 1) σ2 := hJ.mod q2.1 q2.2 ((hJ.2.2.2.1.ony q2.2 (by decide)).mono (by omega) (by omega)) (by decide) (by decide)
  refine a_ic_eq C dL_law_1011 (tgt := 1338) rfl (fun _ => K σ2 hN) (fun h => absurd (e1.trans e2.symm) h)
set_option maxHeartbeats 4000000 in
set_option maxRecDepth 100000 in
theorem la_30 {Γ : GT} {ids : List Nat} {ad : Nat → Nat} {ca : Nat → ClassId} {l0 : Launch} {D0 : va_G} {b L n : Nat} {i : Int32} {xs : Nat → Int32} {σ : HS} {K9 : (Nat → Nat) × (Nat → Nat)} (C : CT ids ad ca Γ code RL l0 D0 2048 84000 4) (X : SX Γ b L xs) (E9 : SG K9 Γ) (hid : ∀ i, i < 277 → i ∈ ids) (hi : i.toInt = 6 * (n : Int)) (hL : 6 * n + 6 ≤ L) (hLL : L ≤ 3072) (hI : LI n σ) (K : ∀ σ : HS, LI (n + 1) σ → AW ids ad ca Γ 1338 [some (.ref b), some (.ref (ad 0)), some (.ref (ad 236)), some (.int i)] [] σ) : AW ids ad ca Γ 1016 [some (.ref b), some (.ref (ad 0)), some (.ref (ad 236)), some (.int i)] [] σ := by
  refine a_aload_n C dL_law_1016 (i := 1) rfl rfl ?_
  refine a_aload_n C dL_law_1017 (i := 0) rfl rfl ?_
  refine a_iload_n C dL_law_1018 (i := 3) rfl rfl ?_
  refine s_iconst C dL_law_1019 (1) (by decide) (fun z493 h494 => ?_)
  refine s_iadd C dL_law_1020 (by omega) (fun z495 h496 => ?_)
  refine s_sld C X (by omega) (by omega) dL_law_1021 (fun m497 h498 => ?_)
  refine a_aload_n C dL_law_1022 (i := 0) rfl rfl ?_
  refine a_iload_n C dL_law_1023 (i := 3) rfl rfl ?_
  refine s_iconst C dL_law_1024 (2) (by decide) (fun z499 h500 => ?_)
  refine s_iadd C dL_law_1025 (by omega) (fun z501 h502 => ?_)
  refine s_sld C X (by omega) (by omega) dL_law_1026 (fun m503 h504 => ?_)
  refine a_callVi C (i := 0) kd_0 (hid 0 (by decide)) ⟨_, _, rfl⟩ (by decide) (c_light (x1 := (xs m497)) (x2 := (xs m503)) hid hI.1 hI.2.1) mi_X11_light ml_RL_142 rfl rfl (Nat.le_of_ble_eq_true rfl) (Nat.le_of_ble_eq_true rfl) (Nat.le_of_ble_eq_true rfl) dL_law_1027 (fun r σ1 q1 => ?_)
  have hJ := hI.cls q1.1 q1.2 (by decide +kernel) (by decide +kernel)
  refine a_pop C dL_law_1030 rfl ?_
  refine a_aload_n C dL_law_1031 (i := 2) rfl rfl ?_
  refine a_aload_n C dL_law_1032 (i := 0) rfl rfl ?_
  refine a_iload_n C dL_law_1033 (i := 3) rfl rfl ?_
  refine s_iconst C dL_law_1034 (1) (by decide) (fun z505 h506 => ?_)
  refine s_iadd C dL_law_1035 (by omega) (fun z507 h508 => ?_)
  refine s_sld C X (by omega) (by omega) dL_law_1036 (fun m509 h510 => ?_)
  refine a_aload_n C dL_law_1037 (i := 0) rfl rfl ?_
  refine a_iload_n C dL_law_1038 (i := 3) rfl rfl ?_
  refine s_iconst C dL_law_1039 (2) (by decide) (fun z511 h512 => ?_)
  refine s_iadd C dL_law_1040 (by omega) (fun z513 h514 => ?_)
  refine s_sld C X (by omega) (by omega) dL_law_1041 (fun m515 h516 => ?_)
  obtain rfl : m509 = m497 := by omega
  obtain rfl : m515 = m503 := by omega
  refine a_callVi C (i := 236) kd_236 (hid 236 (by decide)) ⟨_, _, rfl⟩ (by decide) (S_X12_light_236 (x1 := (xs m509)) (x2 := (xs m515)) hid hJ.2.2.1 hJ.2.2.2.1) mi_X12_light ml_RL_145 rfl rfl (Nat.le_of_ble_eq_true rfl) (Nat.le_of_ble_eq_true rfl) (Nat.le_of_ble_eq_true rfl) dL_law_1042 (fun r2 σ2 q2 => ?_)
  have hN : LI (n + 1) σ2 := hJ.mod q2.1 q2.2.1 (q2.2.2.mono (by omega) (by omega)) (by decide) (by decide)
  refine a_pop C dL_law_1045 rfl ?_
  exact a_goto C dL_law_1046 (tgt := 1338) rfl (K _ hN)
set_option maxHeartbeats 4000000 in
set_option maxRecDepth 100000 in
theorem la_31 {Γ : GT} {ids : List Nat} {ad : Nat → Nat} {ca : Nat → ClassId} {l0 : Launch} {D0 : va_G} {b L n : Nat} {i : Int32} {xs : Nat → Int32} {σ : HS} {K9 : (Nat → Nat) × (Nat → Nat)} (C : CT ids ad ca Γ code RL l0 D0 2048 84000 4) (X : SX Γ b L xs) (E9 : SG K9 Γ) (hid : ∀ i, i < 277 → i ∈ ids) (hi : i.toInt = 6 * (n : Int)) (hL : 6 * n + 6 ≤ L) (hLL : L ≤ 3072) (hI : LI n σ) (K : ∀ σ : HS, LI (n + 1) σ → AW ids ad ca Γ 1338 [some (.ref b), some (.ref (ad 0)), some (.ref (ad 236)), some (.int i)] [] σ) : AW ids ad ca Γ 1049 [some (.ref b), some (.ref (ad 0)), some (.ref (ad 236)), some (.int i)] [] σ := by
  refine a_aload_n C dL_law_1049 (i := 1) rfl rfl ?_
  refine a_aload_n C dL_law_1050 (i := 0) rfl rfl ?_
  refine a_iload_n C dL_law_1051 (i := 3) rfl rfl ?_
  refine s_iconst C dL_law_1052 (1) (by decide) (fun z517 h518 => ?_)
  refine s_iadd C dL_law_1053 (by omega) (fun z519 h520 => ?_)
  refine s_sld C X (by omega) (by omega) dL_law_1054 (fun m521 h522 => ?_)
  refine a_callVi C (i := 0) kd_0 (hid 0 (by decide)) ⟨_, _, rfl⟩ (by decide) (c_rule (x1 := (xs m521)) hid hI.1 hI.2.1) mi_X11_rule ml_RL_146 rfl rfl (Nat.le_of_ble_eq_true rfl) (Nat.le_of_ble_eq_true rfl) (Nat.le_of_ble_eq_true rfl) dL_law_1055 (fun r σ1 q1 => ?_)
  have hJ := hI.cls q1.1 q1.2 (by decide +kernel) (by decide +kernel)
  refine a_pop C dL_law_1058 rfl ?_
  refine a_aload_n C dL_law_1059 (i := 2) rfl rfl ?_
  refine a_aload_n C dL_law_1060 (i := 0) rfl rfl ?_
  refine a_iload_n C dL_law_1061 (i := 3) rfl rfl ?_
  refine s_iconst C dL_law_1062 (1) (by decide) (fun z523 h524 => ?_)
  refine s_iadd C dL_law_1063 (by omega) (fun z525 h526 => ?_)
  refine s_sld C X (by omega) (by omega) dL_law_1064 (fun m527 h528 => ?_)
  obtain rfl : m527 = m521 := by omega
  refine a_callVi C (i := 236) kd_236 (hid 236 (by decide)) ⟨_, _, rfl⟩ (by decide) (S_X12_rule_236 (x1 := (xs m527)) hid hJ.2.2.1 hJ.2.2.2.1) mi_X12_rule ml_RL_149 rfl rfl (Nat.le_of_ble_eq_true rfl) (Nat.le_of_ble_eq_true rfl) (Nat.le_of_ble_eq_true rfl) dL_law_1065 (fun r2 σ2 q2 => ?_)
  have hN : LI (n + 1) σ2 := hJ.mod q2.1 q2.2.1 (q2.2.2.mono (by omega) (by omega)) (by decide) (by decide)
  refine a_pop C dL_law_1068 rfl ?_
  exact a_goto C dL_law_1069 (tgt := 1338) rfl (K _ hN)
set_option maxHeartbeats 4000000 in
set_option maxRecDepth 100000 in
theorem la_32 {Γ : GT} {ids : List Nat} {ad : Nat → Nat} {ca : Nat → ClassId} {l0 : Launch} {D0 : va_G} {b L n : Nat} {i : Int32} {xs : Nat → Int32} {σ : HS} {K9 : (Nat → Nat) × (Nat → Nat)} (C : CT ids ad ca Γ code RL l0 D0 2048 84000 4) (X : SX Γ b L xs) (E9 : SG K9 Γ) (hid : ∀ i, i < 277 → i ∈ ids) (hi : i.toInt = 6 * (n : Int)) (hL : 6 * n + 6 ≤ L) (hLL : L ≤ 3072) (hI : LI n σ) (K : ∀ σ : HS, LI (n + 1) σ → AW ids ad ca Γ 1338 [some (.ref b), some (.ref (ad 0)), some (.ref (ad 236)), some (.int i)] [] σ) : AW ids ad ca Γ 1072 [some (.ref b), some (.ref (ad 0)), some (.ref (ad 236)), some (.int i)] [] σ := by
  refine a_aload_n C dL_law_1072 (i := 1) rfl rfl ?_
  refine a_callVi C (i := 0) kd_0 (hid 0 (by decide)) ⟨_, _, rfl⟩ (by decide) (c_down hid hI.1 hI.2.1) mi_X11_down ml_RL_150 rfl rfl (Nat.le_of_ble_eq_true rfl) (Nat.le_of_ble_eq_true rfl) (Nat.le_of_ble_eq_true rfl) dL_law_1073 (fun r σ1 q1 => ?_)
  have hJ := hI.cls q1.1 q1.2 (by decide +kernel) (by decide +kernel)
  refine a_pop C dL_law_1076 rfl ?_
  refine a_aload_n C dL_law_1077 (i := 2) rfl rfl ?_
  refine a_callVi C (i := 236) kd_236 (hid 236 (by decide)) ⟨_, _, rfl⟩ (by decide) (S_X12_down_236 hid hJ.2.2.1 hJ.2.2.2.1) mi_X12_down ml_RL_153 rfl rfl (Nat.le_of_ble_eq_true rfl) (Nat.le_of_ble_eq_true rfl) (Nat.le_of_ble_eq_true rfl) dL_law_1078 (fun r2 σ2 q2 => ?_)
  have hN : LI (n + 1) σ2 := hJ.mod q2.1 q2.2.1 (q2.2.2.mono (by omega) (by omega)) (by decide) (by decide)
  refine a_pop C dL_law_1081 rfl ?_
  exact a_goto C dL_law_1082 (tgt := 1338) rfl (K _ hN)
set_option maxHeartbeats 4000000 in
set_option maxRecDepth 100000 in
theorem la_33 {Γ : GT} {ids : List Nat} {ad : Nat → Nat} {ca : Nat → ClassId} {l0 : Launch} {D0 : va_G} {b L n : Nat} {i : Int32} {xs : Nat → Int32} {σ : HS} {K9 : (Nat → Nat) × (Nat → Nat)} (C : CT ids ad ca Γ code RL l0 D0 2048 84000 4) (X : SX Γ b L xs) (E9 : SG K9 Γ) (hid : ∀ i, i < 277 → i ∈ ids) (hi : i.toInt = 6 * (n : Int)) (hL : 6 * n + 6 ≤ L) (hLL : L ≤ 3072) (hI : LI n σ) (K : ∀ σ : HS, LI (n + 1) σ → AW ids ad ca Γ 1338 [some (.ref b), some (.ref (ad 0)), some (.ref (ad 236)), some (.int i)] [] σ) : AW ids ad ca Γ 1085 [some (.ref b), some (.ref (ad 0)), some (.ref (ad 236)), some (.int i)] [] σ := by
  refine a_aload_n C dL_law_1085 (i := 1) rfl rfl ?_
  refine a_aload_n C dL_law_1086 (i := 0) rfl rfl ?_
  refine a_iload_n C dL_law_1087 (i := 3) rfl rfl ?_
  refine s_iconst C dL_law_1088 (1) (by decide) (fun z529 h530 => ?_)
  refine s_iadd C dL_law_1089 (by omega) (fun z531 h532 => ?_)
  refine s_sld C X (by omega) (by omega) dL_law_1090 (fun m533 h534 => ?_)
  refine a_aload_n C dL_law_1091 (i := 0) rfl rfl ?_
  refine a_iload_n C dL_law_1092 (i := 3) rfl rfl ?_
  refine s_iconst C dL_law_1093 (2) (by decide) (fun z535 h536 => ?_)
  refine s_iadd C dL_law_1094 (by omega) (fun z537 h538 => ?_)
  refine s_sld C X (by omega) (by omega) dL_law_1095 (fun m539 h540 => ?_)
  refine a_callVi C (i := 0) kd_0 (hid 0 (by decide)) ⟨_, _, rfl⟩ (by decide) (c_then (x1 := (xs m533)) (x2 := (xs m539)) hid hI.1 hI.2.1) mi_X11_then ml_RL_154 rfl rfl (Nat.le_of_ble_eq_true rfl) (Nat.le_of_ble_eq_true rfl) (Nat.le_of_ble_eq_true rfl) dL_law_1096 (fun r σ1 q1 => ?_)
  have hJ := hI.cls q1.1 q1.2 (by decide +kernel) (by decide +kernel)
  refine a_pop C dL_law_1099 rfl ?_
  refine a_aload_n C dL_law_1100 (i := 2) rfl rfl ?_
  refine a_aload_n C dL_law_1101 (i := 0) rfl rfl ?_
  refine a_iload_n C dL_law_1102 (i := 3) rfl rfl ?_
  refine s_iconst C dL_law_1103 (1) (by decide) (fun z541 h542 => ?_)
  refine s_iadd C dL_law_1104 (by omega) (fun z543 h544 => ?_)
  refine s_sld C X (by omega) (by omega) dL_law_1105 (fun m545 h546 => ?_)
  refine a_aload_n C dL_law_1106 (i := 0) rfl rfl ?_
  refine a_iload_n C dL_law_1107 (i := 3) rfl rfl ?_
  refine s_iconst C dL_law_1108 (2) (by decide) (fun z547 h548 => ?_)
  refine s_iadd C dL_law_1109 (by omega) (fun z549 h550 => ?_)
  refine s_sld C X (by omega) (by omega) dL_law_1110 (fun m551 h552 => ?_)
  obtain rfl : m545 = m533 := by omega
  obtain rfl : m551 = m539 := by omega
  refine a_callVi C (i := 236) kd_236 (hid 236 (by decide)) ⟨_, _, rfl⟩ (by decide) (S_X12_then_236 (x1 := (xs m545)) (x2 := (xs m551)) hid hJ.2.2.1 hJ.2.2.2.1) mi_X12_then ml_RL_157 rfl rfl (Nat.le_of_ble_eq_true rfl) (Nat.le_of_ble_eq_true rfl) (Nat.le_of_ble_eq_true rfl) dL_law_1111 (fun r2 σ2 q2 => ?_)
  have hN : LI (n + 1) σ2 := hJ.mod q2.1 q2.2.1 (q2.2.2.mono (by omega) (by omega)) (by decide) (by decide)
  refine a_pop C dL_law_1114 rfl ?_
  exact a_goto C dL_law_1115 (tgt := 1338) rfl (K _ hN)
set_option maxHeartbeats 4000000 in
set_option maxRecDepth 100000 in
theorem la_34 {Γ : GT} {ids : List Nat} {ad : Nat → Nat} {ca : Nat → ClassId} {l0 : Launch} {D0 : va_G} {b L n : Nat} {i : Int32} {xs : Nat → Int32} {σ : HS} {K9 : (Nat → Nat) × (Nat → Nat)} (C : CT ids ad ca Γ code RL l0 D0 2048 84000 4) (X : SX Γ b L xs) (E9 : SG K9 Γ) (hid : ∀ i, i < 277 → i ∈ ids) (hi : i.toInt = 6 * (n : Int)) (hL : 6 * n + 6 ≤ L) (hLL : L ≤ 3072) (hI : LI n σ) (K : ∀ σ : HS, LI (n + 1) σ → AW ids ad ca Γ 1338 [some (.ref b), some (.ref (ad 0)), some (.ref (ad 236)), some (.int i)] [] σ) : AW ids ad ca Γ 1118 [some (.ref b), some (.ref (ad 0)), some (.ref (ad 236)), some (.int i)] [] σ := by
  refine a_aload_n C dL_law_1118 (i := 1) rfl rfl ?_
  refine a_aload_n C dL_law_1119 (i := 0) rfl rfl ?_
  refine a_iload_n C dL_law_1120 (i := 3) rfl rfl ?_
  refine s_iconst C dL_law_1121 (1) (by decide) (fun z553 h554 => ?_)
  refine s_iadd C dL_law_1122 (by omega) (fun z555 h556 => ?_)
  refine s_sld C X (by omega) (by omega) dL_law_1123 (fun m557 h558 => ?_)
  refine a_aload_n C dL_law_1124 (i := 0) rfl rfl ?_
  refine a_iload_n C dL_law_1125 (i := 3) rfl rfl ?_
  refine s_iconst C dL_law_1126 (2) (by decide) (fun z559 h560 => ?_)
  refine s_iadd C dL_law_1127 (by omega) (fun z561 h562 => ?_)
  refine s_sld C X (by omega) (by omega) dL_law_1128 (fun m563 h564 => ?_)
  refine a_callVi C (i := 0) kd_0 (hid 0 (by decide)) ⟨_, _, rfl⟩ (by decide) (c_year (x1 := (xs m557)) (x2 := (xs m563)) hid hI.1 hI.2.1) mi_X11_year ml_RL_158 rfl rfl (Nat.le_of_ble_eq_true rfl) (Nat.le_of_ble_eq_true rfl) (Nat.le_of_ble_eq_true rfl) dL_law_1129 (fun r σ1 q1 => ?_)
  have hJ := hI.cls q1.1 q1.2 (by decide +kernel) (by decide +kernel)
  refine a_pop C dL_law_1132 rfl ?_
  refine a_aload_n C dL_law_1133 (i := 2) rfl rfl ?_
  refine a_aload_n C dL_law_1134 (i := 0) rfl rfl ?_
  refine a_iload_n C dL_law_1135 (i := 3) rfl rfl ?_
  refine s_iconst C dL_law_1136 (1) (by decide) (fun z565 h566 => ?_)
  refine s_iadd C dL_law_1137 (by omega) (fun z567 h568 => ?_)
  refine s_sld C X (by omega) (by omega) dL_law_1138 (fun m569 h570 => ?_)
  refine a_aload_n C dL_law_1139 (i := 0) rfl rfl ?_
  refine a_iload_n C dL_law_1140 (i := 3) rfl rfl ?_
  refine s_iconst C dL_law_1141 (2) (by decide) (fun z571 h572 => ?_)
  refine s_iadd C dL_law_1142 (by omega) (fun z573 h574 => ?_)
  refine s_sld C X (by omega) (by omega) dL_law_1143 (fun m575 h576 => ?_)
  obtain rfl : m569 = m557 := by omega
  obtain rfl : m575 = m563 := by omega
  refine a_callVi C (i := 236) kd_236 (hid 236 (by decide)) ⟨_, _, rfl⟩ (by decide) (S_X12_year_236 (x1 := (xs m569)) (x2 := (xs m575)) hid hJ.2.2.1 hJ.2.2.2.1) mi_X12_year ml_RL_161 rfl rfl (Nat.le_of_ble_eq_true rfl) (Nat.le_of_ble_eq_true rfl) (Nat.le_of_ble_eq_true rfl) dL_law_1144 (fun r2 σ2 q2 => ?_)
  have hN : LI (n + 1) σ2 := hJ.mod q2.1 q2.2.1 (q2.2.2.mono (by omega) (by omega)) (by decide) (by decide)
  refine a_pop C dL_law_1147 rfl ?_
  exact a_goto C dL_law_1148 (tgt := 1338) rfl (K _ hN)
set_option maxHeartbeats 4000000 in
set_option maxRecDepth 100000 in
theorem la_35 {Γ : GT} {ids : List Nat} {ad : Nat → Nat} {ca : Nat → ClassId} {l0 : Launch} {D0 : va_G} {b L n : Nat} {i : Int32} {xs : Nat → Int32} {σ : HS} {K9 : (Nat → Nat) × (Nat → Nat)} (C : CT ids ad ca Γ code RL l0 D0 2048 84000 4) (X : SX Γ b L xs) (E9 : SG K9 Γ) (hid : ∀ i, i < 277 → i ∈ ids) (hi : i.toInt = 6 * (n : Int)) (hL : 6 * n + 6 ≤ L) (hLL : L ≤ 3072) (hI : LI n σ) (K : ∀ σ : HS, LI (n + 1) σ → AW ids ad ca Γ 1338 [some (.ref b), some (.ref (ad 0)), some (.ref (ad 236)), some (.int i)] [] σ) : AW ids ad ca Γ 1151 [some (.ref b), some (.ref (ad 0)), some (.ref (ad 236)), some (.int i)] [] σ := by
  refine a_aload_n C dL_law_1151 (i := 1) rfl rfl ?_
  refine a_aload_n C dL_law_1152 (i := 0) rfl rfl ?_
  refine a_iload_n C dL_law_1153 (i := 3) rfl rfl ?_
  refine s_iconst C dL_law_1154 (1) (by decide) (fun z577 h578 => ?_)
  refine s_iadd C dL_law_1155 (by omega) (fun z579 h580 => ?_)
  refine s_sld C X (by omega) (by omega) dL_law_1156 (fun m581 h582 => ?_)
  refine a_aload_n C dL_law_1157 (i := 0) rfl rfl ?_
  refine a_iload_n C dL_law_1158 (i := 3) rfl rfl ?_
  refine s_iconst C dL_law_1159 (2) (by decide) (fun z583 h584 => ?_)
  refine s_iadd C dL_law_1160 (by omega) (fun z585 h586 => ?_)
  refine s_sld C X (by omega) (by omega) dL_law_1161 (fun m587 h588 => ?_)
  refine s_if_eq C dL_law_1162 (tgt := 1169) rfl (fun hz589 => ?_) (fun hz589 => ?_)
  ·
    refine s_iconst C dL_law_1169 (0) (by decide) (fun z590 h591 => ?_)
    refine a_callVi C (i := 0) kd_0 (hid 0 (by decide)) ⟨_, _, rfl⟩ (by decide) (c_tell (x1 := (xs m581)) (x2 := z590) hid hI.1 hI.2.1 (by omega)) mi_X11_tell ml_RL_162 rfl rfl (Nat.le_of_ble_eq_true rfl) (Nat.le_of_ble_eq_true rfl) (Nat.le_of_ble_eq_true rfl) dL_law_1170 (fun r σ1 q1 => ?_)
    have hJ := hI.cls q1.1 q1.2 (by decide +kernel) (by decide +kernel)
    refine a_pop C dL_law_1173 rfl ?_
    refine a_aload_n C dL_law_1174 (i := 2) rfl rfl ?_
    refine a_aload_n C dL_law_1175 (i := 0) rfl rfl ?_
    refine a_iload_n C dL_law_1176 (i := 3) rfl rfl ?_
    refine s_iconst C dL_law_1177 (1) (by decide) (fun z592 h593 => ?_)
    refine s_iadd C dL_law_1178 (by omega) (fun z594 h595 => ?_)
    refine s_sld C X (by omega) (by omega) dL_law_1179 (fun m596 h597 => ?_)
    refine a_aload_n C dL_law_1180 (i := 0) rfl rfl ?_
    refine a_iload_n C dL_law_1181 (i := 3) rfl rfl ?_
    refine s_iconst C dL_law_1182 (2) (by decide) (fun z598 h599 => ?_)
    refine s_iadd C dL_law_1183 (by omega) (fun z600 h601 => ?_)
    refine s_sld C X (by omega) (by omega) dL_law_1184 (fun m602 h603 => ?_)
    refine s_if_eq C dL_law_1185 (tgt := 1192) rfl (fun hz604 => ?_) (fun hz604 => ?_)
    ·
      refine s_iconst C dL_law_1192 (0) (by decide) (fun z605 h606 => ?_)
      obtain rfl : m596 = m581 := by omega
      refine a_callVi C (i := 236) kd_236 (hid 236 (by decide)) ⟨_, _, rfl⟩ (by decide) (S_X12_tell_236 (x1 := (xs m596)) (x2 := z605) hid hJ.2.2.1 (by omega)) mi_X12_tell ml_RL_166 rfl rfl (Nat.le_of_ble_eq_true rfl) (Nat.le_of_ble_eq_true rfl) (Nat.le_of_ble_eq_true rfl) dL_law_1193 (fun r2 σ2 q2 => ?_)
      have hN : LI (n + 1) σ2 := hJ.mod q2.1 q2.2 ((hJ.2.2.2.1.ony q2.2 (by decide)).mono (by omega) (by omega)) (by decide) (by decide)
      refine a_pop C dL_law_1196 rfl ?_
      exact a_goto C dL_law_1197 (tgt := 1338) rfl (K _ hN)
    ·
      refine s_iconst C dL_law_1188 (1) (by decide) (fun z607 h608 => ?_)
      refine a_goto C dL_law_1189 (tgt := 1193) rfl ?_
      obtain rfl : m596 = m581 := by omega
      refine a_callVi C (i := 236) kd_236 (hid 236 (by decide)) ⟨_, _, rfl⟩ (by decide) (S_X12_tell_236 (x1 := (xs m596)) (x2 := z607) hid hJ.2.2.1 (by omega)) mi_X12_tell ml_RL_166 rfl rfl (Nat.le_of_ble_eq_true rfl) (Nat.le_of_ble_eq_true rfl) (Nat.le_of_ble_eq_true rfl) dL_law_1193 (fun r2 σ2 q2 => ?_)
      have hN : LI (n + 1) σ2 := hJ.mod q2.1 q2.2 ((hJ.2.2.2.1.ony q2.2 (by decide)).mono (by omega) (by omega)) (by decide) (by decide)
      refine a_pop C dL_law_1196 rfl ?_
      exact a_goto C dL_law_1197 (tgt := 1338) rfl (K _ hN)
  ·
    refine s_iconst C dL_law_1165 (1) (by decide) (fun z609 h610 => ?_)
    refine a_goto C dL_law_1166 (tgt := 1170) rfl ?_
    refine a_callVi C (i := 0) kd_0 (hid 0 (by decide)) ⟨_, _, rfl⟩ (by decide) (c_tell (x1 := (xs m581)) (x2 := z609) hid hI.1 hI.2.1 (by omega)) mi_X11_tell ml_RL_162 rfl rfl (Nat.le_of_ble_eq_true rfl) (Nat.le_of_ble_eq_true rfl) (Nat.le_of_ble_eq_true rfl) dL_law_1170 (fun r σ1 q1 => ?_)
    have hJ := hI.cls q1.1 q1.2 (by decide +kernel) (by decide +kernel)
    refine a_pop C dL_law_1173 rfl ?_
    refine a_aload_n C dL_law_1174 (i := 2) rfl rfl ?_
    refine a_aload_n C dL_law_1175 (i := 0) rfl rfl ?_
    refine a_iload_n C dL_law_1176 (i := 3) rfl rfl ?_
    refine s_iconst C dL_law_1177 (1) (by decide) (fun z611 h612 => ?_)
    refine s_iadd C dL_law_1178 (by omega) (fun z613 h614 => ?_)
    refine s_sld C X (by omega) (by omega) dL_law_1179 (fun m615 h616 => ?_)
    refine a_aload_n C dL_law_1180 (i := 0) rfl rfl ?_
    refine a_iload_n C dL_law_1181 (i := 3) rfl rfl ?_
    refine s_iconst C dL_law_1182 (2) (by decide) (fun z617 h618 => ?_)
    refine s_iadd C dL_law_1183 (by omega) (fun z619 h620 => ?_)
    refine s_sld C X (by omega) (by omega) dL_law_1184 (fun m621 h622 => ?_)
    refine s_if_eq C dL_law_1185 (tgt := 1192) rfl (fun hz623 => ?_) (fun hz623 => ?_)
    ·
      refine s_iconst C dL_law_1192 (0) (by decide) (fun z624 h625 => ?_)
      obtain rfl : m615 = m581 := by omega
      refine a_callVi C (i := 236) kd_236 (hid 236 (by decide)) ⟨_, _, rfl⟩ (by decide) (S_X12_tell_236 (x1 := (xs m615)) (x2 := z624) hid hJ.2.2.1 (by omega)) mi_X12_tell ml_RL_166 rfl rfl (Nat.le_of_ble_eq_true rfl) (Nat.le_of_ble_eq_true rfl) (Nat.le_of_ble_eq_true rfl) dL_law_1193 (fun r2 σ2 q2 => ?_)
      have hN : LI (n + 1) σ2 := hJ.mod q2.1 q2.2 ((hJ.2.2.2.1.ony q2.2 (by decide)).mono (by omega) (by omega)) (by decide) (by decide)
      refine a_pop C dL_law_1196 rfl ?_
      exact a_goto C dL_law_1197 (tgt := 1338) rfl (K _ hN)
    ·
      refine s_iconst C dL_law_1188 (1) (by decide) (fun z626 h627 => ?_)
      refine a_goto C dL_law_1189 (tgt := 1193) rfl ?_
      obtain rfl : m615 = m581 := by omega
      refine a_callVi C (i := 236) kd_236 (hid 236 (by decide)) ⟨_, _, rfl⟩ (by decide) (S_X12_tell_236 (x1 := (xs m615)) (x2 := z626) hid hJ.2.2.1 (by omega)) mi_X12_tell ml_RL_166 rfl rfl (Nat.le_of_ble_eq_true rfl) (Nat.le_of_ble_eq_true rfl) (Nat.le_of_ble_eq_true rfl) dL_law_1193 (fun r2 σ2 q2 => ?_)
      have hN : LI (n + 1) σ2 := hJ.mod q2.1 q2.2 ((hJ.2.2.2.1.ony q2.2 (by decide)).mono (by omega) (by omega)) (by decide) (by decide)
      refine a_pop C dL_law_1196 rfl ?_
      exact a_goto C dL_law_1197 (tgt := 1338) rfl (K _ hN)
set_option maxHeartbeats 4000000 in
set_option maxRecDepth 100000 in
theorem la_36 {Γ : GT} {ids : List Nat} {ad : Nat → Nat} {ca : Nat → ClassId} {l0 : Launch} {D0 : va_G} {b L n : Nat} {i : Int32} {xs : Nat → Int32} {σ : HS} {K9 : (Nat → Nat) × (Nat → Nat)} (C : CT ids ad ca Γ code RL l0 D0 2048 84000 4) (X : SX Γ b L xs) (E9 : SG K9 Γ) (hid : ∀ i, i < 277 → i ∈ ids) (hi : i.toInt = 6 * (n : Int)) (hL : 6 * n + 6 ≤ L) (hLL : L ≤ 3072) (hI : LI n σ) (K : ∀ σ : HS, LI (n + 1) σ → AW ids ad ca Γ 1338 [some (.ref b), some (.ref (ad 0)), some (.ref (ad 236)), some (.int i)] [] σ) : AW ids ad ca Γ 1200 [some (.ref b), some (.ref (ad 0)), some (.ref (ad 236)), some (.int i)] [] σ := by
  refine a_aload_n C dL_law_1200 (i := 1) rfl rfl ?_
  refine a_callVi C (i := 0) kd_0 (hid 0 (by decide)) ⟨_, _, rfl⟩ (by decide) (c_forget hid hI.1 hI.2.1) mi_X11_forget ml_RL_167 rfl rfl (Nat.le_of_ble_eq_true rfl) (Nat.le_of_ble_eq_true rfl) (Nat.le_of_ble_eq_true rfl) dL_law_1201 (fun r σ1 q1 => ?_)
  have hJ := hI.cls q1.1 q1.2 (by decide +kernel) (by decide +kernel)
  refine a_pop C dL_law_1204 rfl ?_
  refine a_aload_n C dL_law_1205 (i := 2) rfl rfl ?_
  refine a_callVi C (i := 236) kd_236 (hid 236 (by decide)) ⟨_, _, rfl⟩ (by decide) (S_X12_forget_236 hid hJ.2.2.1) mi_X12_forget ml_RL_170 rfl rfl (Nat.le_of_ble_eq_true rfl) (Nat.le_of_ble_eq_true rfl) (Nat.le_of_ble_eq_true rfl) dL_law_1206 (fun r2 σ2 q2 => ?_)
  have hN : LI (n + 1) σ2 := hJ.mod q2.1 q2.2 ((hJ.2.2.2.1.ony q2.2 (by decide)).mono (by omega) (by omega)) (by decide) (by decide)
  refine a_pop C dL_law_1209 rfl ?_
  exact a_goto C dL_law_1210 (tgt := 1338) rfl (K _ hN)
set_option maxHeartbeats 4000000 in
set_option maxRecDepth 100000 in
theorem la_37 {Γ : GT} {ids : List Nat} {ad : Nat → Nat} {ca : Nat → ClassId} {l0 : Launch} {D0 : va_G} {b L n : Nat} {i : Int32} {xs : Nat → Int32} {σ : HS} {K9 : (Nat → Nat) × (Nat → Nat)} (C : CT ids ad ca Γ code RL l0 D0 2048 84000 4) (X : SX Γ b L xs) (E9 : SG K9 Γ) (hid : ∀ i, i < 277 → i ∈ ids) (hi : i.toInt = 6 * (n : Int)) (hL : 6 * n + 6 ≤ L) (hLL : L ≤ 3072) (hI : LI n σ) (K : ∀ σ : HS, LI (n + 1) σ → AW ids ad ca Γ 1338 [some (.ref b), some (.ref (ad 0)), some (.ref (ad 236)), some (.int i)] [] σ) : AW ids ad ca Γ 1213 [some (.ref b), some (.ref (ad 0)), some (.ref (ad 236)), some (.int i)] [] σ := by
  refine a_aload_n C dL_law_1213 (i := 1) rfl rfl ?_
  refine a_aload_n C dL_law_1214 (i := 0) rfl rfl ?_
  refine a_iload_n C dL_law_1215 (i := 3) rfl rfl ?_
  refine s_iconst C dL_law_1216 (1) (by decide) (fun z628 h629 => ?_)
  refine s_iadd C dL_law_1217 (by omega) (fun z630 h631 => ?_)
  refine s_sld C X (by omega) (by omega) dL_law_1218 (fun m632 h633 => ?_)
  refine a_aload_n C dL_law_1219 (i := 0) rfl rfl ?_
  refine a_iload_n C dL_law_1220 (i := 3) rfl rfl ?_
  refine s_iconst C dL_law_1221 (2) (by decide) (fun z634 h635 => ?_)
  refine s_iadd C dL_law_1222 (by omega) (fun z636 h637 => ?_)
  refine s_sld C X (by omega) (by omega) dL_law_1223 (fun m638 h639 => ?_)
  refine a_callVi C (i := 0) kd_0 (hid 0 (by decide)) ⟨_, _, rfl⟩ (by decide) (c_glitters (x1 := (xs m632)) (x2 := (xs m638)) hid hI.1 hI.2.1) mi_X11_glitters ml_RL_171 rfl rfl (Nat.le_of_ble_eq_true rfl) (Nat.le_of_ble_eq_true rfl) (Nat.le_of_ble_eq_true rfl) dL_law_1224 (fun r σ1 q1 => ?_)
  have hJ := hI.cls q1.1 q1.2 (by decide +kernel) (by decide +kernel)
  refine a_pop C dL_law_1227 rfl ?_
  refine a_aload_n C dL_law_1228 (i := 2) rfl rfl ?_
  refine a_aload_n C dL_law_1229 (i := 0) rfl rfl ?_
  refine a_iload_n C dL_law_1230 (i := 3) rfl rfl ?_
  refine s_iconst C dL_law_1231 (1) (by decide) (fun z640 h641 => ?_)
  refine s_iadd C dL_law_1232 (by omega) (fun z642 h643 => ?_)
  refine s_sld C X (by omega) (by omega) dL_law_1233 (fun m644 h645 => ?_)
  refine a_aload_n C dL_law_1234 (i := 0) rfl rfl ?_
  refine a_iload_n C dL_law_1235 (i := 3) rfl rfl ?_
  refine s_iconst C dL_law_1236 (2) (by decide) (fun z646 h647 => ?_)
  refine s_iadd C dL_law_1237 (by omega) (fun z648 h649 => ?_)
  refine s_sld C X (by omega) (by omega) dL_law_1238 (fun m650 h651 => ?_)
  obtain rfl : m644 = m632 := by omega
  obtain rfl : m650 = m638 := by omega
  refine a_callVi C (i := 236) kd_236 (hid 236 (by decide)) ⟨_, _, rfl⟩ (by decide) (S_X12_glitters_236 (x1 := (xs m644)) (x2 := (xs m650)) hid hJ.2.2.1 hJ.2.2.2.1) mi_X12_glitters ml_RL_174 rfl rfl (Nat.le_of_ble_eq_true rfl) (Nat.le_of_ble_eq_true rfl) (Nat.le_of_ble_eq_true rfl) dL_law_1239 (fun r2 σ2 q2 => ?_)
  have hN : LI (n + 1) σ2 := hJ.mod q2.1 q2.2.1 (q2.2.2.mono (by omega) (by omega)) (by decide) (by decide)
  refine a_pop C dL_law_1242 rfl ?_
  exact a_goto C dL_law_1243 (tgt := 1338) rfl (K _ hN)
set_option maxHeartbeats 4000000 in
set_option maxRecDepth 100000 in
theorem la_38 {Γ : GT} {ids : List Nat} {ad : Nat → Nat} {ca : Nat → ClassId} {l0 : Launch} {D0 : va_G} {b L n : Nat} {i : Int32} {xs : Nat → Int32} {σ : HS} {K9 : (Nat → Nat) × (Nat → Nat)} (C : CT ids ad ca Γ code RL l0 D0 2048 84000 4) (X : SX Γ b L xs) (E9 : SG K9 Γ) (hid : ∀ i, i < 277 → i ∈ ids) (hi : i.toInt = 6 * (n : Int)) (hL : 6 * n + 6 ≤ L) (hLL : L ≤ 3072) (hI : LI n σ) (K : ∀ σ : HS, LI (n + 1) σ → AW ids ad ca Γ 1338 [some (.ref b), some (.ref (ad 0)), some (.ref (ad 236)), some (.int i)] [] σ) : AW ids ad ca Γ 1246 [some (.ref b), some (.ref (ad 0)), some (.ref (ad 236)), some (.int i)] [] σ := by
  refine a_aload_n C dL_law_1246 (i := 1) rfl rfl ?_
  refine a_aload_n C dL_law_1247 (i := 0) rfl rfl ?_
  refine a_iload_n C dL_law_1248 (i := 3) rfl rfl ?_
  refine s_iconst C dL_law_1249 (1) (by decide) (fun z652 h653 => ?_)
  refine s_iadd C dL_law_1250 (by omega) (fun z654 h655 => ?_)
  refine s_sld C X (by omega) (by omega) dL_law_1251 (fun m656 h657 => ?_)
  refine a_callVi C (i := 0) kd_0 (hid 0 (by decide)) ⟨_, _, rfl⟩ (by decide) (c_watch (x1 := (xs m656)) hid hI.1 hI.2.1) mi_X11_watch ml_RL_175 rfl rfl (Nat.le_of_ble_eq_true rfl) (Nat.le_of_ble_eq_true rfl) (Nat.le_of_ble_eq_true rfl) dL_law_1252 (fun r σ1 q1 => ?_)
  have hJ := hI.cls q1.1 q1.2 (by decide +kernel) (by decide +kernel)
  refine a_pop C dL_law_1255 rfl ?_
  refine a_aload_n C dL_law_1256 (i := 2) rfl rfl ?_
  refine a_aload_n C dL_law_1257 (i := 0) rfl rfl ?_
  refine a_iload_n C dL_law_1258 (i := 3) rfl rfl ?_
  refine s_iconst C dL_law_1259 (1) (by decide) (fun z658 h659 => ?_)
  refine s_iadd C dL_law_1260 (by omega) (fun z660 h661 => ?_)
  refine s_sld C X (by omega) (by omega) dL_law_1261 (fun m662 h663 => ?_)
  obtain rfl : m662 = m656 := by omega
  refine a_callVi C (i := 236) kd_236 (hid 236 (by decide)) ⟨_, _, rfl⟩ (by decide) (S_X12_watch_236 (x1 := (xs m662)) hid hJ.2.2.1 hJ.2.2.2.1) mi_X12_watch ml_RL_178 rfl rfl (Nat.le_of_ble_eq_true rfl) (Nat.le_of_ble_eq_true rfl) (Nat.le_of_ble_eq_true rfl) dL_law_1262 (fun r2 σ2 q2 => ?_)
  have hN : LI (n + 1) σ2 := hJ.mod q2.1 q2.2.1 (q2.2.2.mono (by omega) (by omega)) (by decide) (by decide)
  refine a_pop C dL_law_1265 rfl ?_
  exact a_goto C dL_law_1266 (tgt := 1338) rfl (K _ hN)
set_option maxHeartbeats 4000000 in
set_option maxRecDepth 100000 in
theorem la_39 {Γ : GT} {ids : List Nat} {ad : Nat → Nat} {ca : Nat → ClassId} {l0 : Launch} {D0 : va_G} {b L n : Nat} {i : Int32} {xs : Nat → Int32} {σ : HS} {K9 : (Nat → Nat) × (Nat → Nat)} (C : CT ids ad ca Γ code RL l0 D0 2048 84000 4) (X : SX Γ b L xs) (E9 : SG K9 Γ) (hid : ∀ i, i < 277 → i ∈ ids) (hi : i.toInt = 6 * (n : Int)) (hL : 6 * n + 6 ≤ L) (hLL : L ≤ 3072) (hI : LI n σ) (K : ∀ σ : HS, LI (n + 1) σ → AW ids ad ca Γ 1338 [some (.ref b), some (.ref (ad 0)), some (.ref (ad 236)), some (.int i)] [] σ) : AW ids ad ca Γ 1269 [some (.ref b), some (.ref (ad 0)), some (.ref (ad 236)), some (.int i)] [] σ := by
  refine a_aload_n C dL_law_1269 (i := 1) rfl rfl ?_
  refine a_aload_n C dL_law_1270 (i := 0) rfl rfl ?_
  refine a_iload_n C dL_law_1271 (i := 3) rfl rfl ?_
  refine s_iconst C dL_law_1272 (1) (by decide) (fun z664 h665 => ?_)
  refine s_iadd C dL_law_1273 (by omega) (fun z666 h667 => ?_)
  refine s_sld C X (by omega) (by omega) dL_law_1274 (fun m668 h669 => ?_)
  rcases (show (xs m668).toInt < 0 ∨ (xs m668).toInt = 0 ∨ (xs m668).toInt = 1 ∨ (xs m668).toInt = 2 ∨ 2 < (xs m668).toInt by omega) with hv | hv | hv | hv | hv
  ·
    rcases hI.2.1 with ⟨t0, t1⟩ | ⟨t0, t1⟩
    ·
      refine a_callVi C (i := 0) kd_0 (hid 0 (by decide)) ⟨_, _, rfl⟩ (by decide) (S_X11_hold_0_t30_lo (x1 := (xs m668)) hid hI.1 t0 t1 (by omega)) mi_X11_hold ml_RL_179 rfl rfl (Nat.le_of_ble_eq_true rfl) (Nat.le_of_ble_eq_true rfl) (Nat.le_of_ble_eq_true rfl) dL_law_1275 (fun r σ1 q1 => ?_)
      obtain rfl : σ1 = σ := q1.1
      have hJ := hI
      refine a_pop C dL_law_1278 rfl ?_
      refine a_aload_n C dL_law_1279 (i := 2) rfl rfl ?_
      refine a_aload_n C dL_law_1280 (i := 0) rfl rfl ?_
      refine a_iload_n C dL_law_1281 (i := 3) rfl rfl ?_
      refine s_iconst C dL_law_1282 (1) (by decide) (fun z670 h671 => ?_)
      refine s_iadd C dL_law_1283 (by omega) (fun z672 h673 => ?_)
      refine s_sld C X (by omega) (by omega) dL_law_1284 (fun m674 h675 => ?_)
      obtain rfl : m674 = m668 := by omega
      refine a_callVi C (i := 236) kd_236 (hid 236 (by decide)) ⟨_, _, rfl⟩ (by decide) (S_X12_hold_236 (x1 := (xs m674)) hid hJ.2.2.1 hJ.2.2.2.1) mi_X12_hold ml_RL_182 rfl rfl (Nat.le_of_ble_eq_true rfl) (Nat.le_of_ble_eq_true rfl) (Nat.le_of_ble_eq_true rfl) dL_law_1285 (fun r2 σ2 q2 => ?_)
      have hN : LI (n + 1) σ2 := hJ.mod q2.1 q2.2.1 (q2.2.2.1.mono (by omega) (by omega)) (by decide) (by decide)
      refine a_pop C dL_law_1288 rfl ?_
      exact a_goto C dL_law_1289 (tgt := 1338) rfl (K _ hN)
    ·
      refine a_callVi C (i := 0) kd_0 (hid 0 (by decide)) ⟨_, _, rfl⟩ (by decide) (S_X11_hold_0_t43_lo (x1 := (xs m668)) hid hI.1 t0 t1 (by omega)) mi_X11_hold ml_RL_179 rfl rfl (Nat.le_of_ble_eq_true rfl) (Nat.le_of_ble_eq_true rfl) (Nat.le_of_ble_eq_true rfl) dL_law_1275 (fun r σ1 q1 => ?_)
      obtain rfl : σ1 = σ := q1.1
      have hJ := hI
      refine a_pop C dL_law_1278 rfl ?_
      refine a_aload_n C dL_law_1279 (i := 2) rfl rfl ?_
      refine a_aload_n C dL_law_1280 (i := 0) rfl rfl ?_
      refine a_iload_n C dL_law_1281 (i := 3) rfl rfl ?_
      refine s_iconst C dL_law_1282 (1) (by decide) (fun z676 h677 => ?_)
      refine s_iadd C dL_law_1283 (by omega) (fun z678 h679 => ?_)
      refine s_sld C X (by omega) (by omega) dL_law_1284 (fun m680 h681 => ?_)
      obtain rfl : m680 = m668 := by omega
      refine a_callVi C (i := 236) kd_236 (hid 236 (by decide)) ⟨_, _, rfl⟩ (by decide) (S_X12_hold_236 (x1 := (xs m680)) hid hJ.2.2.1 hJ.2.2.2.1) mi_X12_hold ml_RL_182 rfl rfl (Nat.le_of_ble_eq_true rfl) (Nat.le_of_ble_eq_true rfl) (Nat.le_of_ble_eq_true rfl) dL_law_1285 (fun r2 σ2 q2 => ?_)
      have hN : LI (n + 1) σ2 := hJ.mod q2.1 q2.2.1 (q2.2.2.1.mono (by omega) (by omega)) (by decide) (by decide)
      refine a_pop C dL_law_1288 rfl ?_
      exact a_goto C dL_law_1289 (tgt := 1338) rfl (K _ hN)
  ·
    rcases hI.2.1 with ⟨t0, t1⟩ | ⟨t0, t1⟩
    ·
      refine a_callVi C (i := 0) kd_0 (hid 0 (by decide)) ⟨_, _, rfl⟩ (by decide) (S_X11_hold_0_t30_v0 (x1 := (xs m668)) hid hI.1 t0 t1 (by omega)) mi_X11_hold ml_RL_179 rfl rfl (Nat.le_of_ble_eq_true rfl) (Nat.le_of_ble_eq_true rfl) (Nat.le_of_ble_eq_true rfl) dL_law_1275 (fun r σ1 q1 => ?_)
      have hJ := hI.cls q1.1 q1.2.1 (by decide +kernel) (by decide +kernel)
      refine a_pop C dL_law_1278 rfl ?_
      refine a_aload_n C dL_law_1279 (i := 2) rfl rfl ?_
      refine a_aload_n C dL_law_1280 (i := 0) rfl rfl ?_
      refine a_iload_n C dL_law_1281 (i := 3) rfl rfl ?_
      refine s_iconst C dL_law_1282 (1) (by decide) (fun z682 h683 => ?_)
      refine s_iadd C dL_law_1283 (by omega) (fun z684 h685 => ?_)
      refine s_sld C X (by omega) (by omega) dL_law_1284 (fun m686 h687 => ?_)
      obtain rfl : m686 = m668 := by omega
      refine a_callVi C (i := 236) kd_236 (hid 236 (by decide)) ⟨_, _, rfl⟩ (by decide) (S_X12_hold_236 (x1 := (xs m686)) hid hJ.2.2.1 hJ.2.2.2.1) mi_X12_hold ml_RL_182 rfl rfl (Nat.le_of_ble_eq_true rfl) (Nat.le_of_ble_eq_true rfl) (Nat.le_of_ble_eq_true rfl) dL_law_1285 (fun r2 σ2 q2 => ?_)
      have hN : LI (n + 1) σ2 := hJ.mod q2.1 q2.2.1 (q2.2.2.1.mono (by omega) (by omega)) (by decide) (by decide)
      refine a_pop C dL_law_1288 rfl ?_
      exact a_goto C dL_law_1289 (tgt := 1338) rfl (K _ hN)
    ·
      refine a_callVi C (i := 0) kd_0 (hid 0 (by decide)) ⟨_, _, rfl⟩ (by decide) (S_X11_hold_0_t43_v0 (x1 := (xs m668)) hid hI.1 t0 t1 (by omega)) mi_X11_hold ml_RL_179 rfl rfl (Nat.le_of_ble_eq_true rfl) (Nat.le_of_ble_eq_true rfl) (Nat.le_of_ble_eq_true rfl) dL_law_1275 (fun r σ1 q1 => ?_)
      have hJ := hI.cls q1.1 q1.2.1 (by decide +kernel) (by decide +kernel)
      refine a_pop C dL_law_1278 rfl ?_
      refine a_aload_n C dL_law_1279 (i := 2) rfl rfl ?_
      refine a_aload_n C dL_law_1280 (i := 0) rfl rfl ?_
      refine a_iload_n C dL_law_1281 (i := 3) rfl rfl ?_
      refine s_iconst C dL_law_1282 (1) (by decide) (fun z688 h689 => ?_)
      refine s_iadd C dL_law_1283 (by omega) (fun z690 h691 => ?_)
      refine s_sld C X (by omega) (by omega) dL_law_1284 (fun m692 h693 => ?_)
      obtain rfl : m692 = m668 := by omega
      refine a_callVi C (i := 236) kd_236 (hid 236 (by decide)) ⟨_, _, rfl⟩ (by decide) (S_X12_hold_236 (x1 := (xs m692)) hid hJ.2.2.1 hJ.2.2.2.1) mi_X12_hold ml_RL_182 rfl rfl (Nat.le_of_ble_eq_true rfl) (Nat.le_of_ble_eq_true rfl) (Nat.le_of_ble_eq_true rfl) dL_law_1285 (fun r2 σ2 q2 => ?_)
      have hN : LI (n + 1) σ2 := hJ.mod q2.1 q2.2.1 (q2.2.2.1.mono (by omega) (by omega)) (by decide) (by decide)
      refine a_pop C dL_law_1288 rfl ?_
      exact a_goto C dL_law_1289 (tgt := 1338) rfl (K _ hN)
  ·
    rcases hI.2.1 with ⟨t0, t1⟩ | ⟨t0, t1⟩
    ·
      refine a_callVi C (i := 0) kd_0 (hid 0 (by decide)) ⟨_, _, rfl⟩ (by decide) (S_X11_hold_0_t30_v1 (x1 := (xs m668)) hid hI.1 t0 t1 (by omega)) mi_X11_hold ml_RL_179 rfl rfl (Nat.le_of_ble_eq_true rfl) (Nat.le_of_ble_eq_true rfl) (Nat.le_of_ble_eq_true rfl) dL_law_1275 (fun r σ1 q1 => ?_)
      have hJ := hI.cls q1.1 q1.2.1 (by decide +kernel) (by decide +kernel)
      refine a_pop C dL_law_1278 rfl ?_
      refine a_aload_n C dL_law_1279 (i := 2) rfl rfl ?_
      refine a_aload_n C dL_law_1280 (i := 0) rfl rfl ?_
      refine a_iload_n C dL_law_1281 (i := 3) rfl rfl ?_
      refine s_iconst C dL_law_1282 (1) (by decide) (fun z694 h695 => ?_)
      refine s_iadd C dL_law_1283 (by omega) (fun z696 h697 => ?_)
      refine s_sld C X (by omega) (by omega) dL_law_1284 (fun m698 h699 => ?_)
      obtain rfl : m698 = m668 := by omega
      refine a_callVi C (i := 236) kd_236 (hid 236 (by decide)) ⟨_, _, rfl⟩ (by decide) (S_X12_hold_236 (x1 := (xs m698)) hid hJ.2.2.1 hJ.2.2.2.1) mi_X12_hold ml_RL_182 rfl rfl (Nat.le_of_ble_eq_true rfl) (Nat.le_of_ble_eq_true rfl) (Nat.le_of_ble_eq_true rfl) dL_law_1285 (fun r2 σ2 q2 => ?_)
      have hN : LI (n + 1) σ2 := hJ.mod q2.1 q2.2.1 (q2.2.2.1.mono (by omega) (by omega)) (by decide) (by decide)
      refine a_pop C dL_law_1288 rfl ?_
      exact a_goto C dL_law_1289 (tgt := 1338) rfl (K _ hN)
    ·
      refine a_callVi C (i := 0) kd_0 (hid 0 (by decide)) ⟨_, _, rfl⟩ (by decide) (S_X11_hold_0_t43_v1 (x1 := (xs m668)) hid hI.1 t0 t1 (by omega)) mi_X11_hold ml_RL_179 rfl rfl (Nat.le_of_ble_eq_true rfl) (Nat.le_of_ble_eq_true rfl) (Nat.le_of_ble_eq_true rfl) dL_law_1275 (fun r σ1 q1 => ?_)
      have hJ := hI.cls q1.1 q1.2.1 (by decide +kernel) (by decide +kernel)
      refine a_pop C dL_law_1278 rfl ?_
      refine a_aload_n C dL_law_1279 (i := 2) rfl rfl ?_
      refine a_aload_n C dL_law_1280 (i := 0) rfl rfl ?_
      refine a_iload_n C dL_law_1281 (i := 3) rfl rfl ?_
      refine s_iconst C dL_law_1282 (1) (by decide) (fun z700 h701 => ?_)
      refine s_iadd C dL_law_1283 (by omega) (fun z702 h703 => ?_)
      refine s_sld C X (by omega) (by omega) dL_law_1284 (fun m704 h705 => ?_)
      obtain rfl : m704 = m668 := by omega
      refine a_callVi C (i := 236) kd_236 (hid 236 (by decide)) ⟨_, _, rfl⟩ (by decide) (S_X12_hold_236 (x1 := (xs m704)) hid hJ.2.2.1 hJ.2.2.2.1) mi_X12_hold ml_RL_182 rfl rfl (Nat.le_of_ble_eq_true rfl) (Nat.le_of_ble_eq_true rfl) (Nat.le_of_ble_eq_true rfl) dL_law_1285 (fun r2 σ2 q2 => ?_)
      have hN : LI (n + 1) σ2 := hJ.mod q2.1 q2.2.1 (q2.2.2.1.mono (by omega) (by omega)) (by decide) (by decide)
      refine a_pop C dL_law_1288 rfl ?_
      exact a_goto C dL_law_1289 (tgt := 1338) rfl (K _ hN)
  ·
    rcases hI.2.1 with ⟨t0, t1⟩ | ⟨t0, t1⟩
    ·
      refine a_callVi C (i := 0) kd_0 (hid 0 (by decide)) ⟨_, _, rfl⟩ (by decide) (S_X11_hold_0_t30_v2 (x1 := (xs m668)) hid hI.1 t0 t1 (by omega)) mi_X11_hold ml_RL_179 rfl rfl (Nat.le_of_ble_eq_true rfl) (Nat.le_of_ble_eq_true rfl) (Nat.le_of_ble_eq_true rfl) dL_law_1275 (fun r σ1 q1 => ?_)
      have hJ := hI.cls q1.1 q1.2.1 (by decide +kernel) (by decide +kernel)
      refine a_pop C dL_law_1278 rfl ?_
      refine a_aload_n C dL_law_1279 (i := 2) rfl rfl ?_
      refine a_aload_n C dL_law_1280 (i := 0) rfl rfl ?_
      refine a_iload_n C dL_law_1281 (i := 3) rfl rfl ?_
      refine s_iconst C dL_law_1282 (1) (by decide) (fun z706 h707 => ?_)
      refine s_iadd C dL_law_1283 (by omega) (fun z708 h709 => ?_)
      refine s_sld C X (by omega) (by omega) dL_law_1284 (fun m710 h711 => ?_)
      obtain rfl : m710 = m668 := by omega
      refine a_callVi C (i := 236) kd_236 (hid 236 (by decide)) ⟨_, _, rfl⟩ (by decide) (S_X12_hold_236 (x1 := (xs m710)) hid hJ.2.2.1 hJ.2.2.2.1) mi_X12_hold ml_RL_182 rfl rfl (Nat.le_of_ble_eq_true rfl) (Nat.le_of_ble_eq_true rfl) (Nat.le_of_ble_eq_true rfl) dL_law_1285 (fun r2 σ2 q2 => ?_)
      have hN : LI (n + 1) σ2 := hJ.mod q2.1 q2.2.1 (q2.2.2.1.mono (by omega) (by omega)) (by decide) (by decide)
      refine a_pop C dL_law_1288 rfl ?_
      exact a_goto C dL_law_1289 (tgt := 1338) rfl (K _ hN)
    ·
      refine a_callVi C (i := 0) kd_0 (hid 0 (by decide)) ⟨_, _, rfl⟩ (by decide) (S_X11_hold_0_t43_v2 (x1 := (xs m668)) hid hI.1 t0 t1 (by omega)) mi_X11_hold ml_RL_179 rfl rfl (Nat.le_of_ble_eq_true rfl) (Nat.le_of_ble_eq_true rfl) (Nat.le_of_ble_eq_true rfl) dL_law_1275 (fun r σ1 q1 => ?_)
      have hJ := hI.cls q1.1 q1.2.1 (by decide +kernel) (by decide +kernel)
      refine a_pop C dL_law_1278 rfl ?_
      refine a_aload_n C dL_law_1279 (i := 2) rfl rfl ?_
      refine a_aload_n C dL_law_1280 (i := 0) rfl rfl ?_
      refine a_iload_n C dL_law_1281 (i := 3) rfl rfl ?_
      refine s_iconst C dL_law_1282 (1) (by decide) (fun z712 h713 => ?_)
      refine s_iadd C dL_law_1283 (by omega) (fun z714 h715 => ?_)
      refine s_sld C X (by omega) (by omega) dL_law_1284 (fun m716 h717 => ?_)
      obtain rfl : m716 = m668 := by omega
      refine a_callVi C (i := 236) kd_236 (hid 236 (by decide)) ⟨_, _, rfl⟩ (by decide) (S_X12_hold_236 (x1 := (xs m716)) hid hJ.2.2.1 hJ.2.2.2.1) mi_X12_hold ml_RL_182 rfl rfl (Nat.le_of_ble_eq_true rfl) (Nat.le_of_ble_eq_true rfl) (Nat.le_of_ble_eq_true rfl) dL_law_1285 (fun r2 σ2 q2 => ?_)
      have hN : LI (n + 1) σ2 := hJ.mod q2.1 q2.2.1 (q2.2.2.1.mono (by omega) (by omega)) (by decide) (by decide)
      refine a_pop C dL_law_1288 rfl ?_
      exact a_goto C dL_law_1289 (tgt := 1338) rfl (K _ hN)
  ·
    rcases hI.2.1 with ⟨t0, t1⟩ | ⟨t0, t1⟩
    ·
      refine a_callVi C (i := 0) kd_0 (hid 0 (by decide)) ⟨_, _, rfl⟩ (by decide) (S_X11_hold_0_t30_hi (x1 := (xs m668)) hid hI.1 t0 t1 (by omega)) mi_X11_hold ml_RL_179 rfl rfl (Nat.le_of_ble_eq_true rfl) (Nat.le_of_ble_eq_true rfl) (Nat.le_of_ble_eq_true rfl) dL_law_1275 (fun r σ1 q1 => ?_)
      obtain rfl : σ1 = σ := q1.1
      have hJ := hI
      refine a_pop C dL_law_1278 rfl ?_
      refine a_aload_n C dL_law_1279 (i := 2) rfl rfl ?_
      refine a_aload_n C dL_law_1280 (i := 0) rfl rfl ?_
      refine a_iload_n C dL_law_1281 (i := 3) rfl rfl ?_
      refine s_iconst C dL_law_1282 (1) (by decide) (fun z718 h719 => ?_)
      refine s_iadd C dL_law_1283 (by omega) (fun z720 h721 => ?_)
      refine s_sld C X (by omega) (by omega) dL_law_1284 (fun m722 h723 => ?_)
      obtain rfl : m722 = m668 := by omega
      refine a_callVi C (i := 236) kd_236 (hid 236 (by decide)) ⟨_, _, rfl⟩ (by decide) (S_X12_hold_236 (x1 := (xs m722)) hid hJ.2.2.1 hJ.2.2.2.1) mi_X12_hold ml_RL_182 rfl rfl (Nat.le_of_ble_eq_true rfl) (Nat.le_of_ble_eq_true rfl) (Nat.le_of_ble_eq_true rfl) dL_law_1285 (fun r2 σ2 q2 => ?_)
      have hN : LI (n + 1) σ2 := hJ.mod q2.1 q2.2.1 (q2.2.2.1.mono (by omega) (by omega)) (by decide) (by decide)
      refine a_pop C dL_law_1288 rfl ?_
      exact a_goto C dL_law_1289 (tgt := 1338) rfl (K _ hN)
    ·
      refine a_callVi C (i := 0) kd_0 (hid 0 (by decide)) ⟨_, _, rfl⟩ (by decide) (S_X11_hold_0_t43_hi (x1 := (xs m668)) hid hI.1 t0 t1 (by omega)) mi_X11_hold ml_RL_179 rfl rfl (Nat.le_of_ble_eq_true rfl) (Nat.le_of_ble_eq_true rfl) (Nat.le_of_ble_eq_true rfl) dL_law_1275 (fun r σ1 q1 => ?_)
      obtain rfl : σ1 = σ := q1.1
      have hJ := hI
      refine a_pop C dL_law_1278 rfl ?_
      refine a_aload_n C dL_law_1279 (i := 2) rfl rfl ?_
      refine a_aload_n C dL_law_1280 (i := 0) rfl rfl ?_
      refine a_iload_n C dL_law_1281 (i := 3) rfl rfl ?_
      refine s_iconst C dL_law_1282 (1) (by decide) (fun z724 h725 => ?_)
      refine s_iadd C dL_law_1283 (by omega) (fun z726 h727 => ?_)
      refine s_sld C X (by omega) (by omega) dL_law_1284 (fun m728 h729 => ?_)
      obtain rfl : m728 = m668 := by omega
      refine a_callVi C (i := 236) kd_236 (hid 236 (by decide)) ⟨_, _, rfl⟩ (by decide) (S_X12_hold_236 (x1 := (xs m728)) hid hJ.2.2.1 hJ.2.2.2.1) mi_X12_hold ml_RL_182 rfl rfl (Nat.le_of_ble_eq_true rfl) (Nat.le_of_ble_eq_true rfl) (Nat.le_of_ble_eq_true rfl) dL_law_1285 (fun r2 σ2 q2 => ?_)
      have hN : LI (n + 1) σ2 := hJ.mod q2.1 q2.2.1 (q2.2.2.1.mono (by omega) (by omega)) (by decide) (by decide)
      refine a_pop C dL_law_1288 rfl ?_
      exact a_goto C dL_law_1289 (tgt := 1338) rfl (K _ hN)
set_option maxHeartbeats 4000000 in
set_option maxRecDepth 100000 in
theorem la_40 {Γ : GT} {ids : List Nat} {ad : Nat → Nat} {ca : Nat → ClassId} {l0 : Launch} {D0 : va_G} {b L n : Nat} {i : Int32} {xs : Nat → Int32} {σ : HS} {K9 : (Nat → Nat) × (Nat → Nat)} (C : CT ids ad ca Γ code RL l0 D0 2048 84000 4) (X : SX Γ b L xs) (E9 : SG K9 Γ) (hid : ∀ i, i < 277 → i ∈ ids) (hi : i.toInt = 6 * (n : Int)) (hL : 6 * n + 6 ≤ L) (hLL : L ≤ 3072) (hI : LI n σ) (K : ∀ σ : HS, LI (n + 1) σ → AW ids ad ca Γ 1338 [some (.ref b), some (.ref (ad 0)), some (.ref (ad 236)), some (.int i)] [] σ) : AW ids ad ca Γ 1292 [some (.ref b), some (.ref (ad 0)), some (.ref (ad 236)), some (.int i)] [] σ := by
  refine a_aload_n C dL_law_1292 (i := 1) rfl rfl ?_
  refine a_aload_n C dL_law_1293 (i := 0) rfl rfl ?_
  refine a_iload_n C dL_law_1294 (i := 3) rfl rfl ?_
  refine s_iconst C dL_law_1295 (1) (by decide) (fun z730 h731 => ?_)
  refine s_iadd C dL_law_1296 (by omega) (fun z732 h733 => ?_)
  refine s_sld C X (by omega) (by omega) dL_law_1297 (fun m734 h735 => ?_)
  rcases (show (xs m734).toInt < 0 ∨ (xs m734).toInt = 0 ∨ (xs m734).toInt = 1 ∨ (xs m734).toInt = 2 ∨ 2 < (xs m734).toInt by omega) with hv | hv | hv | hv | hv
  ·
    rcases hI.2.1 with ⟨t0, t1⟩ | ⟨t0, t1⟩
    ·
      refine a_callVi C (i := 0) kd_0 (hid 0 (by decide)) ⟨_, _, rfl⟩ (by decide) (S_X11_restore_0_t30_lo (x1 := (xs m734)) hid hI.1 t0 t1 (by omega)) mi_X11_restore ml_RL_183 rfl rfl (Nat.le_of_ble_eq_true rfl) (Nat.le_of_ble_eq_true rfl) (Nat.le_of_ble_eq_true rfl) dL_law_1298 (fun r σ1 q1 => ?_)
      obtain rfl : σ1 = σ := q1.1
      have hJ := hI
      refine a_pop C dL_law_1301 rfl ?_
      refine a_aload_n C dL_law_1302 (i := 2) rfl rfl ?_
      refine a_aload_n C dL_law_1303 (i := 0) rfl rfl ?_
      refine a_iload_n C dL_law_1304 (i := 3) rfl rfl ?_
      refine s_iconst C dL_law_1305 (1) (by decide) (fun z736 h737 => ?_)
      refine s_iadd C dL_law_1306 (by omega) (fun z738 h739 => ?_)
      refine s_sld C X (by omega) (by omega) dL_law_1307 (fun m740 h741 => ?_)
      obtain rfl : m740 = m734 := by omega
      refine a_callVi C (i := 236) kd_236 (hid 236 (by decide)) ⟨_, _, rfl⟩ (by decide) (S_X12_restore_236 (x1 := (xs m740)) hid hJ.2.2.1 hJ.2.2.2.1) mi_X12_restore ml_RL_186 rfl rfl (Nat.le_of_ble_eq_true rfl) (Nat.le_of_ble_eq_true rfl) (Nat.le_of_ble_eq_true rfl) dL_law_1308 (fun r2 σ2 q2 => ?_)
      have hN : LI (n + 1) σ2 := hJ.mod q2.1 q2.2.1 (q2.2.2.1.mono (by omega) (by omega)) (by decide) (by decide)
      refine a_pop C dL_law_1311 rfl ?_
      exact a_goto C dL_law_1312 (tgt := 1338) rfl (K _ hN)
    ·
      refine a_callVi C (i := 0) kd_0 (hid 0 (by decide)) ⟨_, _, rfl⟩ (by decide) (S_X11_restore_0_t43_lo (x1 := (xs m734)) hid hI.1 t0 t1 (by omega)) mi_X11_restore ml_RL_183 rfl rfl (Nat.le_of_ble_eq_true rfl) (Nat.le_of_ble_eq_true rfl) (Nat.le_of_ble_eq_true rfl) dL_law_1298 (fun r σ1 q1 => ?_)
      obtain rfl : σ1 = σ := q1.1
      have hJ := hI
      refine a_pop C dL_law_1301 rfl ?_
      refine a_aload_n C dL_law_1302 (i := 2) rfl rfl ?_
      refine a_aload_n C dL_law_1303 (i := 0) rfl rfl ?_
      refine a_iload_n C dL_law_1304 (i := 3) rfl rfl ?_
      refine s_iconst C dL_law_1305 (1) (by decide) (fun z742 h743 => ?_)
      refine s_iadd C dL_law_1306 (by omega) (fun z744 h745 => ?_)
      refine s_sld C X (by omega) (by omega) dL_law_1307 (fun m746 h747 => ?_)
      obtain rfl : m746 = m734 := by omega
      refine a_callVi C (i := 236) kd_236 (hid 236 (by decide)) ⟨_, _, rfl⟩ (by decide) (S_X12_restore_236 (x1 := (xs m746)) hid hJ.2.2.1 hJ.2.2.2.1) mi_X12_restore ml_RL_186 rfl rfl (Nat.le_of_ble_eq_true rfl) (Nat.le_of_ble_eq_true rfl) (Nat.le_of_ble_eq_true rfl) dL_law_1308 (fun r2 σ2 q2 => ?_)
      have hN : LI (n + 1) σ2 := hJ.mod q2.1 q2.2.1 (q2.2.2.1.mono (by omega) (by omega)) (by decide) (by decide)
      refine a_pop C dL_law_1311 rfl ?_
      exact a_goto C dL_law_1312 (tgt := 1338) rfl (K _ hN)
  ·
    rcases hI.2.1 with ⟨t0, t1⟩ | ⟨t0, t1⟩
    ·
      refine a_callVi C (i := 0) kd_0 (hid 0 (by decide)) ⟨_, _, rfl⟩ (by decide) (S_X11_restore_0_t30_v0 (x1 := (xs m734)) hid hI.1 t0 t1 (by omega)) mi_X11_restore ml_RL_183 rfl rfl (Nat.le_of_ble_eq_true rfl) (Nat.le_of_ble_eq_true rfl) (Nat.le_of_ble_eq_true rfl) dL_law_1298 (fun r σ1 q1 => ?_)
      have hJ := hI.cls q1.1 q1.2.1 (by decide +kernel) (by decide +kernel)
      refine a_pop C dL_law_1301 rfl ?_
      refine a_aload_n C dL_law_1302 (i := 2) rfl rfl ?_
      refine a_aload_n C dL_law_1303 (i := 0) rfl rfl ?_
      refine a_iload_n C dL_law_1304 (i := 3) rfl rfl ?_
      refine s_iconst C dL_law_1305 (1) (by decide) (fun z748 h749 => ?_)
      refine s_iadd C dL_law_1306 (by omega) (fun z750 h751 => ?_)
      refine s_sld C X (by omega) (by omega) dL_law_1307 (fun m752 h753 => ?_)
      obtain rfl : m752 = m734 := by omega
      refine a_callVi C (i := 236) kd_236 (hid 236 (by decide)) ⟨_, _, rfl⟩ (by decide) (S_X12_restore_236 (x1 := (xs m752)) hid hJ.2.2.1 hJ.2.2.2.1) mi_X12_restore ml_RL_186 rfl rfl (Nat.le_of_ble_eq_true rfl) (Nat.le_of_ble_eq_true rfl) (Nat.le_of_ble_eq_true rfl) dL_law_1308 (fun r2 σ2 q2 => ?_)
      have hN : LI (n + 1) σ2 := hJ.mod q2.1 q2.2.1 (q2.2.2.1.mono (by omega) (by omega)) (by decide) (by decide)
      refine a_pop C dL_law_1311 rfl ?_
      exact a_goto C dL_law_1312 (tgt := 1338) rfl (K _ hN)
    ·
      refine a_callVi C (i := 0) kd_0 (hid 0 (by decide)) ⟨_, _, rfl⟩ (by decide) (S_X11_restore_0_t43_v0 (x1 := (xs m734)) hid hI.1 t0 t1 (by omega)) mi_X11_restore ml_RL_183 rfl rfl (Nat.le_of_ble_eq_true rfl) (Nat.le_of_ble_eq_true rfl) (Nat.le_of_ble_eq_true rfl) dL_law_1298 (fun r σ1 q1 => ?_)
      have hJ := hI.cls q1.1 q1.2.1 (by decide +kernel) (by decide +kernel)
      refine a_pop C dL_law_1301 rfl ?_
      refine a_aload_n C dL_law_1302 (i := 2) rfl rfl ?_
      refine a_aload_n C dL_law_1303 (i := 0) rfl rfl ?_
      refine a_iload_n C dL_law_1304 (i := 3) rfl rfl ?_
      refine s_iconst C dL_law_1305 (1) (by decide) (fun z754 h755 => ?_)
      refine s_iadd C dL_law_1306 (by omega) (fun z756 h757 => ?_)
      refine s_sld C X (by omega) (by omega) dL_law_1307 (fun m758 h759 => ?_)
      obtain rfl : m758 = m734 := by omega
      refine a_callVi C (i := 236) kd_236 (hid 236 (by decide)) ⟨_, _, rfl⟩ (by decide) (S_X12_restore_236 (x1 := (xs m758)) hid hJ.2.2.1 hJ.2.2.2.1) mi_X12_restore ml_RL_186 rfl rfl (Nat.le_of_ble_eq_true rfl) (Nat.le_of_ble_eq_true rfl) (Nat.le_of_ble_eq_true rfl) dL_law_1308 (fun r2 σ2 q2 => ?_)
      have hN : LI (n + 1) σ2 := hJ.mod q2.1 q2.2.1 (q2.2.2.1.mono (by omega) (by omega)) (by decide) (by decide)
      refine a_pop C dL_law_1311 rfl ?_
      exact a_goto C dL_law_1312 (tgt := 1338) rfl (K _ hN)
  ·
    rcases hI.2.1 with ⟨t0, t1⟩ | ⟨t0, t1⟩
    ·
      refine a_callVi C (i := 0) kd_0 (hid 0 (by decide)) ⟨_, _, rfl⟩ (by decide) (S_X11_restore_0_t30_v1 (x1 := (xs m734)) hid hI.1 t0 t1 (by omega)) mi_X11_restore ml_RL_183 rfl rfl (Nat.le_of_ble_eq_true rfl) (Nat.le_of_ble_eq_true rfl) (Nat.le_of_ble_eq_true rfl) dL_law_1298 (fun r σ1 q1 => ?_)
      have hJ := hI.cls q1.1 q1.2.1 (by decide +kernel) (by decide +kernel)
      refine a_pop C dL_law_1301 rfl ?_
      refine a_aload_n C dL_law_1302 (i := 2) rfl rfl ?_
      refine a_aload_n C dL_law_1303 (i := 0) rfl rfl ?_
      refine a_iload_n C dL_law_1304 (i := 3) rfl rfl ?_
      refine s_iconst C dL_law_1305 (1) (by decide) (fun z760 h761 => ?_)
      refine s_iadd C dL_law_1306 (by omega) (fun z762 h763 => ?_)
      refine s_sld C X (by omega) (by omega) dL_law_1307 (fun m764 h765 => ?_)
      obtain rfl : m764 = m734 := by omega
      refine a_callVi C (i := 236) kd_236 (hid 236 (by decide)) ⟨_, _, rfl⟩ (by decide) (S_X12_restore_236 (x1 := (xs m764)) hid hJ.2.2.1 hJ.2.2.2.1) mi_X12_restore ml_RL_186 rfl rfl (Nat.le_of_ble_eq_true rfl) (Nat.le_of_ble_eq_true rfl) (Nat.le_of_ble_eq_true rfl) dL_law_1308 (fun r2 σ2 q2 => ?_)
      have hN : LI (n + 1) σ2 := hJ.mod q2.1 q2.2.1 (q2.2.2.1.mono (by omega) (by omega)) (by decide) (by decide)
      refine a_pop C dL_law_1311 rfl ?_
      exact a_goto C dL_law_1312 (tgt := 1338) rfl (K _ hN)
    ·
      refine a_callVi C (i := 0) kd_0 (hid 0 (by decide)) ⟨_, _, rfl⟩ (by decide) (S_X11_restore_0_t43_v1 (x1 := (xs m734)) hid hI.1 t0 t1 (by omega)) mi_X11_restore ml_RL_183 rfl rfl (Nat.le_of_ble_eq_true rfl) (Nat.le_of_ble_eq_true rfl) (Nat.le_of_ble_eq_true rfl) dL_law_1298 (fun r σ1 q1 => ?_)
      have hJ := hI.cls q1.1 q1.2.1 (by decide +kernel) (by decide +kernel)
      refine a_pop C dL_law_1301 rfl ?_
      refine a_aload_n C dL_law_1302 (i := 2) rfl rfl ?_
      refine a_aload_n C dL_law_1303 (i := 0) rfl rfl ?_
      refine a_iload_n C dL_law_1304 (i := 3) rfl rfl ?_
      refine s_iconst C dL_law_1305 (1) (by decide) (fun z766 h767 => ?_)
      refine s_iadd C dL_law_1306 (by omega) (fun z768 h769 => ?_)
      refine s_sld C X (by omega) (by omega) dL_law_1307 (fun m770 h771 => ?_)
      obtain rfl : m770 = m734 := by omega
      refine a_callVi C (i := 236) kd_236 (hid 236 (by decide)) ⟨_, _, rfl⟩ (by decide) (S_X12_restore_236 (x1 := (xs m770)) hid hJ.2.2.1 hJ.2.2.2.1) mi_X12_restore ml_RL_186 rfl rfl (Nat.le_of_ble_eq_true rfl) (Nat.le_of_ble_eq_true rfl) (Nat.le_of_ble_eq_true rfl) dL_law_1308 (fun r2 σ2 q2 => ?_)
      have hN : LI (n + 1) σ2 := hJ.mod q2.1 q2.2.1 (q2.2.2.1.mono (by omega) (by omega)) (by decide) (by decide)
      refine a_pop C dL_law_1311 rfl ?_
      exact a_goto C dL_law_1312 (tgt := 1338) rfl (K _ hN)
  ·
    rcases hI.2.1 with ⟨t0, t1⟩ | ⟨t0, t1⟩
    ·
      refine a_callVi C (i := 0) kd_0 (hid 0 (by decide)) ⟨_, _, rfl⟩ (by decide) (S_X11_restore_0_t30_v2 (x1 := (xs m734)) hid hI.1 t0 t1 (by omega)) mi_X11_restore ml_RL_183 rfl rfl (Nat.le_of_ble_eq_true rfl) (Nat.le_of_ble_eq_true rfl) (Nat.le_of_ble_eq_true rfl) dL_law_1298 (fun r σ1 q1 => ?_)
      have hJ := hI.cls q1.1 q1.2.1 (by decide +kernel) (by decide +kernel)
      refine a_pop C dL_law_1301 rfl ?_
      refine a_aload_n C dL_law_1302 (i := 2) rfl rfl ?_
      refine a_aload_n C dL_law_1303 (i := 0) rfl rfl ?_
      refine a_iload_n C dL_law_1304 (i := 3) rfl rfl ?_
      refine s_iconst C dL_law_1305 (1) (by decide) (fun z772 h773 => ?_)
      refine s_iadd C dL_law_1306 (by omega) (fun z774 h775 => ?_)
      refine s_sld C X (by omega) (by omega) dL_law_1307 (fun m776 h777 => ?_)
      obtain rfl : m776 = m734 := by omega
      refine a_callVi C (i := 236) kd_236 (hid 236 (by decide)) ⟨_, _, rfl⟩ (by decide) (S_X12_restore_236 (x1 := (xs m776)) hid hJ.2.2.1 hJ.2.2.2.1) mi_X12_restore ml_RL_186 rfl rfl (Nat.le_of_ble_eq_true rfl) (Nat.le_of_ble_eq_true rfl) (Nat.le_of_ble_eq_true rfl) dL_law_1308 (fun r2 σ2 q2 => ?_)
      have hN : LI (n + 1) σ2 := hJ.mod q2.1 q2.2.1 (q2.2.2.1.mono (by omega) (by omega)) (by decide) (by decide)
      refine a_pop C dL_law_1311 rfl ?_
      exact a_goto C dL_law_1312 (tgt := 1338) rfl (K _ hN)
    ·
      refine a_callVi C (i := 0) kd_0 (hid 0 (by decide)) ⟨_, _, rfl⟩ (by decide) (S_X11_restore_0_t43_v2 (x1 := (xs m734)) hid hI.1 t0 t1 (by omega)) mi_X11_restore ml_RL_183 rfl rfl (Nat.le_of_ble_eq_true rfl) (Nat.le_of_ble_eq_true rfl) (Nat.le_of_ble_eq_true rfl) dL_law_1298 (fun r σ1 q1 => ?_)
      have hJ := hI.cls q1.1 q1.2.1 (by decide +kernel) (by decide +kernel)
      refine a_pop C dL_law_1301 rfl ?_
      refine a_aload_n C dL_law_1302 (i := 2) rfl rfl ?_
      refine a_aload_n C dL_law_1303 (i := 0) rfl rfl ?_
      refine a_iload_n C dL_law_1304 (i := 3) rfl rfl ?_
      refine s_iconst C dL_law_1305 (1) (by decide) (fun z778 h779 => ?_)
      refine s_iadd C dL_law_1306 (by omega) (fun z780 h781 => ?_)
      refine s_sld C X (by omega) (by omega) dL_law_1307 (fun m782 h783 => ?_)
      obtain rfl : m782 = m734 := by omega
      refine a_callVi C (i := 236) kd_236 (hid 236 (by decide)) ⟨_, _, rfl⟩ (by decide) (S_X12_restore_236 (x1 := (xs m782)) hid hJ.2.2.1 hJ.2.2.2.1) mi_X12_restore ml_RL_186 rfl rfl (Nat.le_of_ble_eq_true rfl) (Nat.le_of_ble_eq_true rfl) (Nat.le_of_ble_eq_true rfl) dL_law_1308 (fun r2 σ2 q2 => ?_)
      have hN : LI (n + 1) σ2 := hJ.mod q2.1 q2.2.1 (q2.2.2.1.mono (by omega) (by omega)) (by decide) (by decide)
      refine a_pop C dL_law_1311 rfl ?_
      exact a_goto C dL_law_1312 (tgt := 1338) rfl (K _ hN)
  ·
    rcases hI.2.1 with ⟨t0, t1⟩ | ⟨t0, t1⟩
    ·
      refine a_callVi C (i := 0) kd_0 (hid 0 (by decide)) ⟨_, _, rfl⟩ (by decide) (S_X11_restore_0_t30_hi (x1 := (xs m734)) hid hI.1 t0 t1 (by omega)) mi_X11_restore ml_RL_183 rfl rfl (Nat.le_of_ble_eq_true rfl) (Nat.le_of_ble_eq_true rfl) (Nat.le_of_ble_eq_true rfl) dL_law_1298 (fun r σ1 q1 => ?_)
      obtain rfl : σ1 = σ := q1.1
      have hJ := hI
      refine a_pop C dL_law_1301 rfl ?_
      refine a_aload_n C dL_law_1302 (i := 2) rfl rfl ?_
      refine a_aload_n C dL_law_1303 (i := 0) rfl rfl ?_
      refine a_iload_n C dL_law_1304 (i := 3) rfl rfl ?_
      refine s_iconst C dL_law_1305 (1) (by decide) (fun z784 h785 => ?_)
      refine s_iadd C dL_law_1306 (by omega) (fun z786 h787 => ?_)
      refine s_sld C X (by omega) (by omega) dL_law_1307 (fun m788 h789 => ?_)
      obtain rfl : m788 = m734 := by omega
      refine a_callVi C (i := 236) kd_236 (hid 236 (by decide)) ⟨_, _, rfl⟩ (by decide) (S_X12_restore_236 (x1 := (xs m788)) hid hJ.2.2.1 hJ.2.2.2.1) mi_X12_restore ml_RL_186 rfl rfl (Nat.le_of_ble_eq_true rfl) (Nat.le_of_ble_eq_true rfl) (Nat.le_of_ble_eq_true rfl) dL_law_1308 (fun r2 σ2 q2 => ?_)
      have hN : LI (n + 1) σ2 := hJ.mod q2.1 q2.2.1 (q2.2.2.1.mono (by omega) (by omega)) (by decide) (by decide)
      refine a_pop C dL_law_1311 rfl ?_
      exact a_goto C dL_law_1312 (tgt := 1338) rfl (K _ hN)
    ·
      refine a_callVi C (i := 0) kd_0 (hid 0 (by decide)) ⟨_, _, rfl⟩ (by decide) (S_X11_restore_0_t43_hi (x1 := (xs m734)) hid hI.1 t0 t1 (by omega)) mi_X11_restore ml_RL_183 rfl rfl (Nat.le_of_ble_eq_true rfl) (Nat.le_of_ble_eq_true rfl) (Nat.le_of_ble_eq_true rfl) dL_law_1298 (fun r σ1 q1 => ?_)
      obtain rfl : σ1 = σ := q1.1
      have hJ := hI
      refine a_pop C dL_law_1301 rfl ?_
      refine a_aload_n C dL_law_1302 (i := 2) rfl rfl ?_
      refine a_aload_n C dL_law_1303 (i := 0) rfl rfl ?_
      refine a_iload_n C dL_law_1304 (i := 3) rfl rfl ?_
      refine s_iconst C dL_law_1305 (1) (by decide) (fun z790 h791 => ?_)
      refine s_iadd C dL_law_1306 (by omega) (fun z792 h793 => ?_)
      refine s_sld C X (by omega) (by omega) dL_law_1307 (fun m794 h795 => ?_)
      obtain rfl : m794 = m734 := by omega
      refine a_callVi C (i := 236) kd_236 (hid 236 (by decide)) ⟨_, _, rfl⟩ (by decide) (S_X12_restore_236 (x1 := (xs m794)) hid hJ.2.2.1 hJ.2.2.2.1) mi_X12_restore ml_RL_186 rfl rfl (Nat.le_of_ble_eq_true rfl) (Nat.le_of_ble_eq_true rfl) (Nat.le_of_ble_eq_true rfl) dL_law_1308 (fun r2 σ2 q2 => ?_)
      have hN : LI (n + 1) σ2 := hJ.mod q2.1 q2.2.1 (q2.2.2.1.mono (by omega) (by omega)) (by decide) (by decide)
      refine a_pop C dL_law_1311 rfl ?_
      exact a_goto C dL_law_1312 (tgt := 1338) rfl (K _ hN)
set_option maxHeartbeats 4000000 in
set_option maxRecDepth 100000 in
theorem la_41 {Γ : GT} {ids : List Nat} {ad : Nat → Nat} {ca : Nat → ClassId} {l0 : Launch} {D0 : va_G} {b L n : Nat} {i : Int32} {xs : Nat → Int32} {σ : HS} {K9 : (Nat → Nat) × (Nat → Nat)} (C : CT ids ad ca Γ code RL l0 D0 2048 84000 4) (X : SX Γ b L xs) (E9 : SG K9 Γ) (hid : ∀ i, i < 277 → i ∈ ids) (hi : i.toInt = 6 * (n : Int)) (hL : 6 * n + 6 ≤ L) (hLL : L ≤ 3072) (hI : LI n σ) (K : ∀ σ : HS, LI (n + 1) σ → AW ids ad ca Γ 1338 [some (.ref b), some (.ref (ad 0)), some (.ref (ad 236)), some (.int i)] [] σ) : AW ids ad ca Γ 1315 [some (.ref b), some (.ref (ad 0)), some (.ref (ad 236)), some (.int i)] [] σ := by
  refine a_aload_n C dL_law_1315 (i := 1) rfl rfl ?_
  refine a_aload_n C dL_law_1316 (i := 0) rfl rfl ?_
  refine a_iload_n C dL_law_1317 (i := 3) rfl rfl ?_
  refine s_iconst C dL_law_1318 (1) (by decide) (fun z796 h797 => ?_)
  refine s_iadd C dL_law_1319 (by omega) (fun z798 h799 => ?_)
  refine s_sld C X (by omega) (by omega) dL_law_1320 (fun m800 h801 => ?_)
  refine a_callVi C (i := 0) kd_0 (hid 0 (by decide)) ⟨_, _, rfl⟩ (by decide) (c_count (x1 := (xs m800)) hid hI.1 hI.2.1) mi_X11_count ml_RL_187 rfl rfl (Nat.le_of_ble_eq_true rfl) (Nat.le_of_ble_eq_true rfl) (Nat.le_of_ble_eq_true rfl) dL_law_1321 (fun r σ1 q1 => ?_)
  obtain rfl : σ1 = σ := q1
  have hJ := hI
  refine a_pop C dL_law_1324 rfl ?_
  refine a_aload_n C dL_law_1325 (i := 2) rfl rfl ?_
  refine a_aload_n C dL_law_1326 (i := 0) rfl rfl ?_
  refine a_iload_n C dL_law_1327 (i := 3) rfl rfl ?_
  refine s_iconst C dL_law_1328 (1) (by decide) (fun z802 h803 => ?_)
  refine s_iadd C dL_law_1329 (by omega) (fun z804 h805 => ?_)
  refine s_sld C X (by omega) (by omega) dL_law_1330 (fun m806 h807 => ?_)
  obtain rfl : m806 = m800 := by omega
  refine a_callVi C (i := 236) kd_236 (hid 236 (by decide)) ⟨_, _, rfl⟩ (by decide) (S_X12_count_236 (x1 := (xs m806)) hid hJ.2.2.1 hJ.2.2.2.1) mi_X12_count ml_RL_190 rfl rfl (Nat.le_of_ble_eq_true rfl) (Nat.le_of_ble_eq_true rfl) (Nat.le_of_ble_eq_true rfl) dL_law_1331 (fun r2 σ2 q2 => ?_)
  have hN : LI (n + 1) σ2 := hJ.mod q2.1 q2.2.1 (q2.2.2.mono (by omega) (by omega)) (by decide) (by decide)
  refine a_pop C dL_law_1334 rfl ?_
  exact a_goto C dL_law_1335 (tgt := 1338) rfl (K _ hN)
