set_option maxRecDepth 100000 in
theorem la_28 {Γ : GT} {ids : List Nat} {ad : Nat → Nat} {ca : Nat → ClassId} {l0 : Launch} {D0 : va_G} {b : Nat} {xs : Nat → Int32} (C : CT ids ad ca Γ code RL l0 D0 2048 84000 4) (X : SX Γ b 6 xs) (hid : ∀ i, i < 277 → i ∈ ids) (K : ∀ σ : HS, AW ids ad ca Γ 1338 [some (.ref b), some (.ref (ad 0)), some (.ref (ad 236)), some (.int 0)] [] σ) : AW ids ad ca Γ 940 [some (.ref b), some (.ref (ad 0)), some (.ref (ad 236)), some (.int 0)] [] s0 := by
  refine a_aload_n C dL_law_940 (i := 1) rfl rfl ?_
  refine a_aload_n C dL_law_941 (i := 0) rfl rfl ?_
  refine a_iload_n C dL_law_942 (i := 3) rfl rfl ?_
  refine a_iconst C dL_law_943 (v := 1) rfl ?_
  refine a_iadd C dL_law_944 ?_
  refine a_sld C X 1 rfl (by decide) (by decide) dL_law_945 ?_
  obtain ⟨v, ⟨fr, lo, hf, hl, hM⟩, hR⟩ := b_order (l := l0) (D := D0) (ad := ad) (ca := ca) (p0 := (xs 1)) hid
  refine a_callVi C (i := 0) kd_0 (hid 0 (by decide)) ⟨_, _, rfl⟩ (by decide) hM mi_X11_order ml_RL_133 rfl rfl (by omega) (by omega) (Nat.le_of_ble_eq_true rfl) dL_law_946 (fun r σ1 q1 => ?_)
  obtain ⟨rfl, hk⟩ := q1
  obtain ⟨fr2, lo2, hf2, hl2, hM2⟩ := hR σ1 hk
  refine a_aload_n C dL_law_949 (i := 2) rfl rfl ?_
  refine a_aload_n C dL_law_950 (i := 0) rfl rfl ?_
  refine a_iload_n C dL_law_951 (i := 3) rfl rfl ?_
  refine a_iconst C dL_law_952 (v := 1) rfl ?_
  refine a_iadd C dL_law_953 ?_
  refine a_sld C X 1 rfl (by decide) (by decide) dL_law_954 ?_
  refine a_callVi C (i := 236) kd_236 (hid 236 (by decide)) ⟨_, _, rfl⟩ (by decide) hM2 mi_X12_order ml_RL_136 rfl rfl (by omega) (by omega) (Nat.le_of_ble_eq_true rfl) dL_law_955 (fun r2 σ2 q2 => ?_)
  refine a_ic_eq C dL_law_958 (tgt := 1338) rfl (fun _ => K σ2) (fun h => absurd q2.symm h)
set_option maxRecDepth 100000 in
theorem la_29 {Γ : GT} {ids : List Nat} {ad : Nat → Nat} {ca : Nat → ClassId} {l0 : Launch} {D0 : va_G} {b : Nat} {xs : Nat → Int32} (C : CT ids ad ca Γ code RL l0 D0 2048 84000 4) (X : SX Γ b 6 xs) (hid : ∀ i, i < 277 → i ∈ ids) (K : ∀ σ : HS, AW ids ad ca Γ 1338 [some (.ref b), some (.ref (ad 0)), some (.ref (ad 236)), some (.int 0)] [] σ) : AW ids ad ca Γ 963 [some (.ref b), some (.ref (ad 0)), some (.ref (ad 236)), some (.int 0)] [] s0 := by
  refine a_aload_n C dL_law_963 (i := 1) rfl rfl ?_
  refine a_aload_n C dL_law_964 (i := 0) rfl rfl ?_
  refine a_iload_n C dL_law_965 (i := 3) rfl rfl ?_
  refine a_iconst C dL_law_966 (v := 1) rfl ?_
  refine a_iadd C dL_law_967 ?_
  refine a_sld C X 1 rfl (by decide) (by decide) dL_law_968 ?_
  refine a_aload_n C dL_law_969 (i := 0) rfl rfl ?_
  refine a_iload_n C dL_law_970 (i := 3) rfl rfl ?_
  refine a_iconst C dL_law_971 (v := 2) rfl ?_
  refine a_iadd C dL_law_972 ?_
  refine a_sld C X 2 rfl (by decide) (by decide) dL_law_973 ?_
  refine a_aload_n C dL_law_974 (i := 0) rfl rfl ?_
  refine a_iload_n C dL_law_975 (i := 3) rfl rfl ?_
  refine a_iconst C dL_law_976 (v := 3) rfl ?_
  refine a_iadd C dL_law_977 ?_
  refine a_sld C X 3 rfl (by decide) (by decide) dL_law_978 ?_
  refine a_aload_n C dL_law_979 (i := 0) rfl rfl ?_
  refine a_iload_n C dL_law_980 (i := 3) rfl rfl ?_
  refine a_iconst C dL_law_981 (v := 4) rfl ?_
  refine a_iadd C dL_law_982 ?_
  refine a_sld C X 4 rfl (by decide) (by decide) dL_law_983 ?_
  obtain ⟨v, ⟨fr, lo, hf, hl, hM⟩, hR⟩ := b_ways (l := l0) (D := D0) (ad := ad) (ca := ca) (p0 := (xs 1)) (p1 := (xs 2)) (p2 := (xs 3)) (p3 := (xs 4)) hid
  refine a_callVi C (i := 0) kd_0 (hid 0 (by decide)) ⟨_, _, rfl⟩ (by decide) hM mi_X11_ways ml_RL_137 rfl rfl (by omega) (by omega) (Nat.le_of_ble_eq_true rfl) dL_law_984 (fun r σ1 q1 => ?_)
  obtain ⟨rfl, hk⟩ := q1
  obtain ⟨fr2, lo2, hf2, hl2, hM2⟩ := hR σ1 hk
  refine a_aload_n C dL_law_987 (i := 2) rfl rfl ?_
  refine a_aload_n C dL_law_988 (i := 0) rfl rfl ?_
  refine a_iload_n C dL_law_989 (i := 3) rfl rfl ?_
  refine a_iconst C dL_law_990 (v := 1) rfl ?_
  refine a_iadd C dL_law_991 ?_
  refine a_sld C X 1 rfl (by decide) (by decide) dL_law_992 ?_
  refine a_aload_n C dL_law_993 (i := 0) rfl rfl ?_
  refine a_iload_n C dL_law_994 (i := 3) rfl rfl ?_
  refine a_iconst C dL_law_995 (v := 2) rfl ?_
  refine a_iadd C dL_law_996 ?_
  refine a_sld C X 2 rfl (by decide) (by decide) dL_law_997 ?_
  refine a_aload_n C dL_law_998 (i := 0) rfl rfl ?_
  refine a_iload_n C dL_law_999 (i := 3) rfl rfl ?_
  refine a_iconst C dL_law_1000 (v := 3) rfl ?_
  refine a_iadd C dL_law_1001 ?_
  refine a_sld C X 3 rfl (by decide) (by decide) dL_law_1002 ?_
  refine a_aload_n C dL_law_1003 (i := 0) rfl rfl ?_
  refine a_iload_n C dL_law_1004 (i := 3) rfl rfl ?_
  refine a_iconst C dL_law_1005 (v := 4) rfl ?_
  refine a_iadd C dL_law_1006 ?_
  refine a_sld C X 4 rfl (by decide) (by decide) dL_law_1007 ?_
  refine a_callVi C (i := 236) kd_236 (hid 236 (by decide)) ⟨_, _, rfl⟩ (by decide) hM2 mi_X12_ways ml_RL_141 rfl rfl (by omega) (by omega) (Nat.le_of_ble_eq_true rfl) dL_law_1008 (fun r2 σ2 q2 => ?_)
  refine a_ic_eq C dL_law_1011 (tgt := 1338) rfl (fun _ => K σ2) (fun h => absurd q2.symm h)
set_option maxRecDepth 100000 in
theorem la_30 {Γ : GT} {ids : List Nat} {ad : Nat → Nat} {ca : Nat → ClassId} {l0 : Launch} {D0 : va_G} {b : Nat} {xs : Nat → Int32} (C : CT ids ad ca Γ code RL l0 D0 2048 84000 4) (X : SX Γ b 6 xs) (hid : ∀ i, i < 277 → i ∈ ids) (K : ∀ σ : HS, AW ids ad ca Γ 1338 [some (.ref b), some (.ref (ad 0)), some (.ref (ad 236)), some (.int 0)] [] σ) : AW ids ad ca Γ 1016 [some (.ref b), some (.ref (ad 0)), some (.ref (ad 236)), some (.int 0)] [] s0 := by
  refine a_aload_n C dL_law_1016 (i := 1) rfl rfl ?_
  refine a_aload_n C dL_law_1017 (i := 0) rfl rfl ?_
  refine a_iload_n C dL_law_1018 (i := 3) rfl rfl ?_
  refine a_iconst C dL_law_1019 (v := 1) rfl ?_
  refine a_iadd C dL_law_1020 ?_
  refine a_sld C X 1 rfl (by decide) (by decide) dL_law_1021 ?_
  refine a_aload_n C dL_law_1022 (i := 0) rfl rfl ?_
  refine a_iload_n C dL_law_1023 (i := 3) rfl rfl ?_
  refine a_iconst C dL_law_1024 (v := 2) rfl ?_
  refine a_iadd C dL_law_1025 ?_
  refine a_sld C X 2 rfl (by decide) (by decide) dL_law_1026 ?_
  obtain ⟨v, ⟨fr, lo, hf, hl, hM⟩, hR⟩ := b_light (l := l0) (D := D0) (ad := ad) (ca := ca) (p0 := (xs 1)) (p1 := (xs 2)) hid
  refine a_callVi C (i := 0) kd_0 (hid 0 (by decide)) ⟨_, _, rfl⟩ (by decide) hM mi_X11_light ml_RL_142 rfl rfl (by omega) (by omega) (Nat.le_of_ble_eq_true rfl) dL_law_1027 (fun r σ1 q1 => ?_)
  obtain ⟨rfl, hk⟩ := q1
  obtain ⟨fr2, lo2, hf2, hl2, hM2⟩ := hR σ1 hk
  refine a_aload_n C dL_law_1030 (i := 2) rfl rfl ?_
  refine a_aload_n C dL_law_1031 (i := 0) rfl rfl ?_
  refine a_iload_n C dL_law_1032 (i := 3) rfl rfl ?_
  refine a_iconst C dL_law_1033 (v := 1) rfl ?_
  refine a_iadd C dL_law_1034 ?_
  refine a_sld C X 1 rfl (by decide) (by decide) dL_law_1035 ?_
  refine a_aload_n C dL_law_1036 (i := 0) rfl rfl ?_
  refine a_iload_n C dL_law_1037 (i := 3) rfl rfl ?_
  refine a_iconst C dL_law_1038 (v := 2) rfl ?_
  refine a_iadd C dL_law_1039 ?_
  refine a_sld C X 2 rfl (by decide) (by decide) dL_law_1040 ?_
  refine a_callVi C (i := 236) kd_236 (hid 236 (by decide)) ⟨_, _, rfl⟩ (by decide) hM2 mi_X12_light ml_RL_145 rfl rfl (by omega) (by omega) (Nat.le_of_ble_eq_true rfl) dL_law_1041 (fun r2 σ2 q2 => ?_)
  refine a_ic_eq C dL_law_1044 (tgt := 1338) rfl (fun _ => K σ2) (fun h => absurd q2.symm h)
set_option maxRecDepth 100000 in
theorem la_31 {Γ : GT} {ids : List Nat} {ad : Nat → Nat} {ca : Nat → ClassId} {l0 : Launch} {D0 : va_G} {b : Nat} {xs : Nat → Int32} (C : CT ids ad ca Γ code RL l0 D0 2048 84000 4) (X : SX Γ b 6 xs) (hid : ∀ i, i < 277 → i ∈ ids) (K : ∀ σ : HS, AW ids ad ca Γ 1338 [some (.ref b), some (.ref (ad 0)), some (.ref (ad 236)), some (.int 0)] [] σ) : AW ids ad ca Γ 1049 [some (.ref b), some (.ref (ad 0)), some (.ref (ad 236)), some (.int 0)] [] s0 := by
  refine a_aload_n C dL_law_1049 (i := 1) rfl rfl ?_
  refine a_aload_n C dL_law_1050 (i := 0) rfl rfl ?_
  refine a_iload_n C dL_law_1051 (i := 3) rfl rfl ?_
  refine a_iconst C dL_law_1052 (v := 1) rfl ?_
  refine a_iadd C dL_law_1053 ?_
  refine a_sld C X 1 rfl (by decide) (by decide) dL_law_1054 ?_
  obtain ⟨v, ⟨fr, lo, hf, hl, hM⟩, hR⟩ := b_rule (l := l0) (D := D0) (ad := ad) (ca := ca) (p0 := (xs 1)) hid
  refine a_callVi C (i := 0) kd_0 (hid 0 (by decide)) ⟨_, _, rfl⟩ (by decide) hM mi_X11_rule ml_RL_146 rfl rfl (by omega) (by omega) (Nat.le_of_ble_eq_true rfl) dL_law_1055 (fun r σ1 q1 => ?_)
  obtain ⟨rfl, hk⟩ := q1
  obtain ⟨fr2, lo2, hf2, hl2, hM2⟩ := hR σ1 hk
  refine a_aload_n C dL_law_1058 (i := 2) rfl rfl ?_
  refine a_aload_n C dL_law_1059 (i := 0) rfl rfl ?_
  refine a_iload_n C dL_law_1060 (i := 3) rfl rfl ?_
  refine a_iconst C dL_law_1061 (v := 1) rfl ?_
  refine a_iadd C dL_law_1062 ?_
  refine a_sld C X 1 rfl (by decide) (by decide) dL_law_1063 ?_
  refine a_callVi C (i := 236) kd_236 (hid 236 (by decide)) ⟨_, _, rfl⟩ (by decide) hM2 mi_X12_rule ml_RL_149 rfl rfl (by omega) (by omega) (Nat.le_of_ble_eq_true rfl) dL_law_1064 (fun r2 σ2 q2 => ?_)
  refine a_ic_eq C dL_law_1067 (tgt := 1338) rfl (fun _ => K σ2) (fun h => absurd q2.symm h)
set_option maxRecDepth 100000 in
theorem la_32 {Γ : GT} {ids : List Nat} {ad : Nat → Nat} {ca : Nat → ClassId} {l0 : Launch} {D0 : va_G} {b : Nat} {xs : Nat → Int32} (C : CT ids ad ca Γ code RL l0 D0 2048 84000 4) (X : SX Γ b 6 xs) (hid : ∀ i, i < 277 → i ∈ ids) (K : ∀ σ : HS, AW ids ad ca Γ 1338 [some (.ref b), some (.ref (ad 0)), some (.ref (ad 236)), some (.int 0)] [] σ) : AW ids ad ca Γ 1072 [some (.ref b), some (.ref (ad 0)), some (.ref (ad 236)), some (.int 0)] [] s0 := by
  refine a_aload_n C dL_law_1072 (i := 1) rfl rfl ?_
  obtain ⟨v, ⟨fr, lo, hf, hl, hM⟩, hR⟩ := b_down (l := l0) (D := D0) (ad := ad) (ca := ca) hid
  refine a_callVi C (i := 0) kd_0 (hid 0 (by decide)) ⟨_, _, rfl⟩ (by decide) hM mi_X11_down ml_RL_150 rfl rfl (by omega) (by omega) (Nat.le_of_ble_eq_true rfl) dL_law_1073 (fun r σ1 q1 => ?_)
  obtain ⟨rfl, hk⟩ := q1
  obtain ⟨fr2, lo2, hf2, hl2, hM2⟩ := hR σ1 hk
  refine a_aload_n C dL_law_1076 (i := 2) rfl rfl ?_
  refine a_callVi C (i := 236) kd_236 (hid 236 (by decide)) ⟨_, _, rfl⟩ (by decide) hM2 mi_X12_down ml_RL_153 rfl rfl (by omega) (by omega) (Nat.le_of_ble_eq_true rfl) dL_law_1077 (fun r2 σ2 q2 => ?_)
  refine a_ic_eq C dL_law_1080 (tgt := 1338) rfl (fun _ => K σ2) (fun h => absurd q2.symm h)
set_option maxRecDepth 100000 in
theorem la_33 {Γ : GT} {ids : List Nat} {ad : Nat → Nat} {ca : Nat → ClassId} {l0 : Launch} {D0 : va_G} {b : Nat} {xs : Nat → Int32} (C : CT ids ad ca Γ code RL l0 D0 2048 84000 4) (X : SX Γ b 6 xs) (hid : ∀ i, i < 277 → i ∈ ids) (K : ∀ σ : HS, AW ids ad ca Γ 1338 [some (.ref b), some (.ref (ad 0)), some (.ref (ad 236)), some (.int 0)] [] σ) : AW ids ad ca Γ 1085 [some (.ref b), some (.ref (ad 0)), some (.ref (ad 236)), some (.int 0)] [] s0 := by
  refine a_aload_n C dL_law_1085 (i := 1) rfl rfl ?_
  refine a_aload_n C dL_law_1086 (i := 0) rfl rfl ?_
  refine a_iload_n C dL_law_1087 (i := 3) rfl rfl ?_
  refine a_iconst C dL_law_1088 (v := 1) rfl ?_
  refine a_iadd C dL_law_1089 ?_
  refine a_sld C X 1 rfl (by decide) (by decide) dL_law_1090 ?_
  refine a_aload_n C dL_law_1091 (i := 0) rfl rfl ?_
  refine a_iload_n C dL_law_1092 (i := 3) rfl rfl ?_
  refine a_iconst C dL_law_1093 (v := 2) rfl ?_
  refine a_iadd C dL_law_1094 ?_
  refine a_sld C X 2 rfl (by decide) (by decide) dL_law_1095 ?_
  obtain ⟨v, ⟨fr, lo, hf, hl, hM⟩, hR⟩ := b_then (l := l0) (D := D0) (ad := ad) (ca := ca) (p0 := (xs 1)) (p1 := (xs 2)) hid
  refine a_callVi C (i := 0) kd_0 (hid 0 (by decide)) ⟨_, _, rfl⟩ (by decide) hM mi_X11_then ml_RL_154 rfl rfl (by omega) (by omega) (Nat.le_of_ble_eq_true rfl) dL_law_1096 (fun r σ1 q1 => ?_)
  obtain ⟨rfl, hk⟩ := q1
  obtain ⟨fr2, lo2, hf2, hl2, hM2⟩ := hR σ1 hk
  refine a_aload_n C dL_law_1099 (i := 2) rfl rfl ?_
  refine a_aload_n C dL_law_1100 (i := 0) rfl rfl ?_
  refine a_iload_n C dL_law_1101 (i := 3) rfl rfl ?_
  refine a_iconst C dL_law_1102 (v := 1) rfl ?_
  refine a_iadd C dL_law_1103 ?_
  refine a_sld C X 1 rfl (by decide) (by decide) dL_law_1104 ?_
  refine a_aload_n C dL_law_1105 (i := 0) rfl rfl ?_
  refine a_iload_n C dL_law_1106 (i := 3) rfl rfl ?_
  refine a_iconst C dL_law_1107 (v := 2) rfl ?_
  refine a_iadd C dL_law_1108 ?_
  refine a_sld C X 2 rfl (by decide) (by decide) dL_law_1109 ?_
  refine a_callVi C (i := 236) kd_236 (hid 236 (by decide)) ⟨_, _, rfl⟩ (by decide) hM2 mi_X12_then ml_RL_157 rfl rfl (by omega) (by omega) (Nat.le_of_ble_eq_true rfl) dL_law_1110 (fun r2 σ2 q2 => ?_)
  refine a_ic_eq C dL_law_1113 (tgt := 1338) rfl (fun _ => K σ2) (fun h => absurd q2.symm h)
set_option maxRecDepth 100000 in
theorem la_34 {Γ : GT} {ids : List Nat} {ad : Nat → Nat} {ca : Nat → ClassId} {l0 : Launch} {D0 : va_G} {b : Nat} {xs : Nat → Int32} (C : CT ids ad ca Γ code RL l0 D0 2048 84000 4) (X : SX Γ b 6 xs) (hid : ∀ i, i < 277 → i ∈ ids) (K : ∀ σ : HS, AW ids ad ca Γ 1338 [some (.ref b), some (.ref (ad 0)), some (.ref (ad 236)), some (.int 0)] [] σ) : AW ids ad ca Γ 1118 [some (.ref b), some (.ref (ad 0)), some (.ref (ad 236)), some (.int 0)] [] s0 := by
  refine a_aload_n C dL_law_1118 (i := 1) rfl rfl ?_
  refine a_aload_n C dL_law_1119 (i := 0) rfl rfl ?_
  refine a_iload_n C dL_law_1120 (i := 3) rfl rfl ?_
  refine a_iconst C dL_law_1121 (v := 1) rfl ?_
  refine a_iadd C dL_law_1122 ?_
  refine a_sld C X 1 rfl (by decide) (by decide) dL_law_1123 ?_
  refine a_aload_n C dL_law_1124 (i := 0) rfl rfl ?_
  refine a_iload_n C dL_law_1125 (i := 3) rfl rfl ?_
  refine a_iconst C dL_law_1126 (v := 2) rfl ?_
  refine a_iadd C dL_law_1127 ?_
  refine a_sld C X 2 rfl (by decide) (by decide) dL_law_1128 ?_
  obtain ⟨v, ⟨fr, lo, hf, hl, hM⟩, hR⟩ := b_year (l := l0) (D := D0) (ad := ad) (ca := ca) (p0 := (xs 1)) (p1 := (xs 2)) hid
  refine a_callVi C (i := 0) kd_0 (hid 0 (by decide)) ⟨_, _, rfl⟩ (by decide) hM mi_X11_year ml_RL_158 rfl rfl (by omega) (by omega) (Nat.le_of_ble_eq_true rfl) dL_law_1129 (fun r σ1 q1 => ?_)
  obtain ⟨rfl, hk⟩ := q1
  obtain ⟨fr2, lo2, hf2, hl2, hM2⟩ := hR σ1 hk
  refine a_aload_n C dL_law_1132 (i := 2) rfl rfl ?_
  refine a_aload_n C dL_law_1133 (i := 0) rfl rfl ?_
  refine a_iload_n C dL_law_1134 (i := 3) rfl rfl ?_
  refine a_iconst C dL_law_1135 (v := 1) rfl ?_
  refine a_iadd C dL_law_1136 ?_
  refine a_sld C X 1 rfl (by decide) (by decide) dL_law_1137 ?_
  refine a_aload_n C dL_law_1138 (i := 0) rfl rfl ?_
  refine a_iload_n C dL_law_1139 (i := 3) rfl rfl ?_
  refine a_iconst C dL_law_1140 (v := 2) rfl ?_
  refine a_iadd C dL_law_1141 ?_
  refine a_sld C X 2 rfl (by decide) (by decide) dL_law_1142 ?_
  refine a_callVi C (i := 236) kd_236 (hid 236 (by decide)) ⟨_, _, rfl⟩ (by decide) hM2 mi_X12_year ml_RL_161 rfl rfl (by omega) (by omega) (Nat.le_of_ble_eq_true rfl) dL_law_1143 (fun r2 σ2 q2 => ?_)
  refine a_ic_eq C dL_law_1146 (tgt := 1338) rfl (fun _ => K σ2) (fun h => absurd q2.symm h)
set_option maxRecDepth 100000 in
theorem la_35 {Γ : GT} {ids : List Nat} {ad : Nat → Nat} {ca : Nat → ClassId} {l0 : Launch} {D0 : va_G} {b : Nat} {xs : Nat → Int32} (C : CT ids ad ca Γ code RL l0 D0 2048 84000 4) (X : SX Γ b 6 xs) (hid : ∀ i, i < 277 → i ∈ ids) (K : ∀ σ : HS, AW ids ad ca Γ 1338 [some (.ref b), some (.ref (ad 0)), some (.ref (ad 236)), some (.int 0)] [] σ) : AW ids ad ca Γ 1151 [some (.ref b), some (.ref (ad 0)), some (.ref (ad 236)), some (.int 0)] [] s0 := by
  refine a_aload_n C dL_law_1151 (i := 1) rfl rfl ?_
  refine a_aload_n C dL_law_1152 (i := 0) rfl rfl ?_
  refine a_iload_n C dL_law_1153 (i := 3) rfl rfl ?_
  refine a_iconst C dL_law_1154 (v := 1) rfl ?_
  refine a_iadd C dL_law_1155 ?_
  refine a_sld C X 1 rfl (by decide) (by decide) dL_law_1156 ?_
  refine a_aload_n C dL_law_1157 (i := 0) rfl rfl ?_
  refine a_iload_n C dL_law_1158 (i := 3) rfl rfl ?_
  refine a_iconst C dL_law_1159 (v := 2) rfl ?_
  refine a_iadd C dL_law_1160 ?_
  refine a_sld C X 2 rfl (by decide) (by decide) dL_law_1161 ?_
  refine a_if_eq C dL_law_1162 (tgt := 1169) rfl (fun hz0 => ?_) (fun hz0 => ?_)
  ·
    refine a_iconst C dL_law_1169 (v := 0) rfl ?_
    obtain ⟨v, ⟨fr, lo, hf, hl, hM⟩, hR⟩ := b_tell (l := l0) (D := D0) (ad := ad) (ca := ca) (p0 := (xs 1)) (p1 := 0) hid rfl
    refine a_callVi C (i := 0) kd_0 (hid 0 (by decide)) ⟨_, _, rfl⟩ (by decide) hM mi_X11_tell ml_RL_162 rfl rfl (by omega) (by omega) (Nat.le_of_ble_eq_true rfl) dL_law_1170 (fun r σ1 q1 => ?_)
    obtain ⟨rfl, hk⟩ := q1
    obtain ⟨fr2, lo2, hf2, hl2, hM2⟩ := hR σ1 hk
    refine a_aload_n C dL_law_1173 (i := 2) rfl rfl ?_
    refine a_aload_n C dL_law_1174 (i := 0) rfl rfl ?_
    refine a_iload_n C dL_law_1175 (i := 3) rfl rfl ?_
    refine a_iconst C dL_law_1176 (v := 1) rfl ?_
    refine a_iadd C dL_law_1177 ?_
    refine a_sld C X 1 rfl (by decide) (by decide) dL_law_1178 ?_
    refine a_aload_n C dL_law_1179 (i := 0) rfl rfl ?_
    refine a_iload_n C dL_law_1180 (i := 3) rfl rfl ?_
    refine a_iconst C dL_law_1181 (v := 2) rfl ?_
    refine a_iadd C dL_law_1182 ?_
    refine a_sld C X 2 rfl (by decide) (by decide) dL_law_1183 ?_
    refine a_if_eq C dL_law_1184 (tgt := 1191) rfl (fun _ => ?_) (fun h => absurd hz0 h)
    refine a_iconst C dL_law_1191 (v := 0) rfl ?_
    refine a_callVi C (i := 236) kd_236 (hid 236 (by decide)) ⟨_, _, rfl⟩ (by decide) hM2 mi_X12_tell ml_RL_166 rfl rfl (by omega) (by omega) (Nat.le_of_ble_eq_true rfl) dL_law_1192 (fun r2 σ2 q2 => ?_)
    refine a_ic_eq C dL_law_1195 (tgt := 1338) rfl (fun _ => K σ2) (fun h => absurd q2.symm h)
  ·
    refine a_iconst C dL_law_1165 (v := 1) rfl ?_
    refine a_goto C dL_law_1166 (tgt := 1170) rfl ?_
    obtain ⟨v, ⟨fr, lo, hf, hl, hM⟩, hR⟩ := b_tell (l := l0) (D := D0) (ad := ad) (ca := ca) (p0 := (xs 1)) (p1 := 1) hid rfl
    refine a_callVi C (i := 0) kd_0 (hid 0 (by decide)) ⟨_, _, rfl⟩ (by decide) hM mi_X11_tell ml_RL_162 rfl rfl (by omega) (by omega) (Nat.le_of_ble_eq_true rfl) dL_law_1170 (fun r σ1 q1 => ?_)
    obtain ⟨rfl, hk⟩ := q1
    obtain ⟨fr2, lo2, hf2, hl2, hM2⟩ := hR σ1 hk
    refine a_aload_n C dL_law_1173 (i := 2) rfl rfl ?_
    refine a_aload_n C dL_law_1174 (i := 0) rfl rfl ?_
    refine a_iload_n C dL_law_1175 (i := 3) rfl rfl ?_
    refine a_iconst C dL_law_1176 (v := 1) rfl ?_
    refine a_iadd C dL_law_1177 ?_
    refine a_sld C X 1 rfl (by decide) (by decide) dL_law_1178 ?_
    refine a_aload_n C dL_law_1179 (i := 0) rfl rfl ?_
    refine a_iload_n C dL_law_1180 (i := 3) rfl rfl ?_
    refine a_iconst C dL_law_1181 (v := 2) rfl ?_
    refine a_iadd C dL_law_1182 ?_
    refine a_sld C X 2 rfl (by decide) (by decide) dL_law_1183 ?_
    refine a_if_eq C dL_law_1184 (tgt := 1191) rfl (fun h => absurd h hz0) (fun _ => ?_)
    refine a_iconst C dL_law_1187 (v := 1) rfl ?_
    refine a_goto C dL_law_1188 (tgt := 1192) rfl ?_
    refine a_callVi C (i := 236) kd_236 (hid 236 (by decide)) ⟨_, _, rfl⟩ (by decide) hM2 mi_X12_tell ml_RL_166 rfl rfl (by omega) (by omega) (Nat.le_of_ble_eq_true rfl) dL_law_1192 (fun r2 σ2 q2 => ?_)
    refine a_ic_eq C dL_law_1195 (tgt := 1338) rfl (fun _ => K σ2) (fun h => absurd q2.symm h)
set_option maxRecDepth 100000 in
theorem la_36 {Γ : GT} {ids : List Nat} {ad : Nat → Nat} {ca : Nat → ClassId} {l0 : Launch} {D0 : va_G} {b : Nat} {xs : Nat → Int32} (C : CT ids ad ca Γ code RL l0 D0 2048 84000 4) (X : SX Γ b 6 xs) (hid : ∀ i, i < 277 → i ∈ ids) (K : ∀ σ : HS, AW ids ad ca Γ 1338 [some (.ref b), some (.ref (ad 0)), some (.ref (ad 236)), some (.int 0)] [] σ) : AW ids ad ca Γ 1200 [some (.ref b), some (.ref (ad 0)), some (.ref (ad 236)), some (.int 0)] [] s0 := by
  refine a_aload_n C dL_law_1200 (i := 1) rfl rfl ?_
  obtain ⟨v, ⟨fr, lo, hf, hl, hM⟩, hR⟩ := b_forget (l := l0) (D := D0) (ad := ad) (ca := ca) hid
  refine a_callVi C (i := 0) kd_0 (hid 0 (by decide)) ⟨_, _, rfl⟩ (by decide) hM mi_X11_forget ml_RL_167 rfl rfl (by omega) (by omega) (Nat.le_of_ble_eq_true rfl) dL_law_1201 (fun r σ1 q1 => ?_)
  obtain ⟨rfl, hk⟩ := q1
  obtain ⟨fr2, lo2, hf2, hl2, hM2⟩ := hR σ1 hk
  refine a_aload_n C dL_law_1204 (i := 2) rfl rfl ?_
  refine a_callVi C (i := 236) kd_236 (hid 236 (by decide)) ⟨_, _, rfl⟩ (by decide) hM2 mi_X12_forget ml_RL_170 rfl rfl (by omega) (by omega) (Nat.le_of_ble_eq_true rfl) dL_law_1205 (fun r2 σ2 q2 => ?_)
  refine a_ic_eq C dL_law_1208 (tgt := 1338) rfl (fun _ => K σ2) (fun h => absurd q2.symm h)
set_option maxRecDepth 100000 in
theorem la_37 {Γ : GT} {ids : List Nat} {ad : Nat → Nat} {ca : Nat → ClassId} {l0 : Launch} {D0 : va_G} {b : Nat} {xs : Nat → Int32} (C : CT ids ad ca Γ code RL l0 D0 2048 84000 4) (X : SX Γ b 6 xs) (hid : ∀ i, i < 277 → i ∈ ids) (K : ∀ σ : HS, AW ids ad ca Γ 1338 [some (.ref b), some (.ref (ad 0)), some (.ref (ad 236)), some (.int 0)] [] σ) : AW ids ad ca Γ 1213 [some (.ref b), some (.ref (ad 0)), some (.ref (ad 236)), some (.int 0)] [] s0 := by
  refine a_aload_n C dL_law_1213 (i := 1) rfl rfl ?_
  refine a_aload_n C dL_law_1214 (i := 0) rfl rfl ?_
  refine a_iload_n C dL_law_1215 (i := 3) rfl rfl ?_
  refine a_iconst C dL_law_1216 (v := 1) rfl ?_
  refine a_iadd C dL_law_1217 ?_
  refine a_sld C X 1 rfl (by decide) (by decide) dL_law_1218 ?_
  refine a_aload_n C dL_law_1219 (i := 0) rfl rfl ?_
  refine a_iload_n C dL_law_1220 (i := 3) rfl rfl ?_
  refine a_iconst C dL_law_1221 (v := 2) rfl ?_
  refine a_iadd C dL_law_1222 ?_
  refine a_sld C X 2 rfl (by decide) (by decide) dL_law_1223 ?_
  obtain ⟨v, ⟨fr, lo, hf, hl, hM⟩, hR⟩ := b_glitters (l := l0) (D := D0) (ad := ad) (ca := ca) (p0 := (xs 1)) (p1 := (xs 2)) hid
  refine a_callVi C (i := 0) kd_0 (hid 0 (by decide)) ⟨_, _, rfl⟩ (by decide) hM mi_X11_glitters ml_RL_171 rfl rfl (by omega) (by omega) (Nat.le_of_ble_eq_true rfl) dL_law_1224 (fun r σ1 q1 => ?_)
  obtain ⟨rfl, hk⟩ := q1
  obtain ⟨fr2, lo2, hf2, hl2, hM2⟩ := hR σ1 hk
  refine a_aload_n C dL_law_1227 (i := 2) rfl rfl ?_
  refine a_aload_n C dL_law_1228 (i := 0) rfl rfl ?_
  refine a_iload_n C dL_law_1229 (i := 3) rfl rfl ?_
  refine a_iconst C dL_law_1230 (v := 1) rfl ?_
  refine a_iadd C dL_law_1231 ?_
  refine a_sld C X 1 rfl (by decide) (by decide) dL_law_1232 ?_
  refine a_aload_n C dL_law_1233 (i := 0) rfl rfl ?_
  refine a_iload_n C dL_law_1234 (i := 3) rfl rfl ?_
  refine a_iconst C dL_law_1235 (v := 2) rfl ?_
  refine a_iadd C dL_law_1236 ?_
  refine a_sld C X 2 rfl (by decide) (by decide) dL_law_1237 ?_
  refine a_callVi C (i := 236) kd_236 (hid 236 (by decide)) ⟨_, _, rfl⟩ (by decide) hM2 mi_X12_glitters ml_RL_174 rfl rfl (by omega) (by omega) (Nat.le_of_ble_eq_true rfl) dL_law_1238 (fun r2 σ2 q2 => ?_)
  refine a_ic_eq C dL_law_1241 (tgt := 1338) rfl (fun _ => K σ2) (fun h => absurd q2.symm h)
set_option maxRecDepth 100000 in
theorem la_38 {Γ : GT} {ids : List Nat} {ad : Nat → Nat} {ca : Nat → ClassId} {l0 : Launch} {D0 : va_G} {b : Nat} {xs : Nat → Int32} (C : CT ids ad ca Γ code RL l0 D0 2048 84000 4) (X : SX Γ b 6 xs) (hid : ∀ i, i < 277 → i ∈ ids) (K : ∀ σ : HS, AW ids ad ca Γ 1338 [some (.ref b), some (.ref (ad 0)), some (.ref (ad 236)), some (.int 0)] [] σ) : AW ids ad ca Γ 1246 [some (.ref b), some (.ref (ad 0)), some (.ref (ad 236)), some (.int 0)] [] s0 := by
  refine a_aload_n C dL_law_1246 (i := 1) rfl rfl ?_
  refine a_aload_n C dL_law_1247 (i := 0) rfl rfl ?_
  refine a_iload_n C dL_law_1248 (i := 3) rfl rfl ?_
  refine a_iconst C dL_law_1249 (v := 1) rfl ?_
  refine a_iadd C dL_law_1250 ?_
  refine a_sld C X 1 rfl (by decide) (by decide) dL_law_1251 ?_
  obtain ⟨v, ⟨fr, lo, hf, hl, hM⟩, hR⟩ := b_watch (l := l0) (D := D0) (ad := ad) (ca := ca) (p0 := (xs 1)) hid
  refine a_callVi C (i := 0) kd_0 (hid 0 (by decide)) ⟨_, _, rfl⟩ (by decide) hM mi_X11_watch ml_RL_175 rfl rfl (by omega) (by omega) (Nat.le_of_ble_eq_true rfl) dL_law_1252 (fun r σ1 q1 => ?_)
  obtain ⟨rfl, hk⟩ := q1
  obtain ⟨fr2, lo2, hf2, hl2, hM2⟩ := hR σ1 hk
  refine a_aload_n C dL_law_1255 (i := 2) rfl rfl ?_
  refine a_aload_n C dL_law_1256 (i := 0) rfl rfl ?_
  refine a_iload_n C dL_law_1257 (i := 3) rfl rfl ?_
  refine a_iconst C dL_law_1258 (v := 1) rfl ?_
  refine a_iadd C dL_law_1259 ?_
  refine a_sld C X 1 rfl (by decide) (by decide) dL_law_1260 ?_
  refine a_callVi C (i := 236) kd_236 (hid 236 (by decide)) ⟨_, _, rfl⟩ (by decide) hM2 mi_X12_watch ml_RL_178 rfl rfl (by omega) (by omega) (Nat.le_of_ble_eq_true rfl) dL_law_1261 (fun r2 σ2 q2 => ?_)
  refine a_ic_eq C dL_law_1264 (tgt := 1338) rfl (fun _ => K σ2) (fun h => absurd q2.symm h)
set_option maxRecDepth 100000 in
theorem la_39 {Γ : GT} {ids : List Nat} {ad : Nat → Nat} {ca : Nat → ClassId} {l0 : Launch} {D0 : va_G} {b : Nat} {xs : Nat → Int32} (C : CT ids ad ca Γ code RL l0 D0 2048 84000 4) (X : SX Γ b 6 xs) (hid : ∀ i, i < 277 → i ∈ ids) (K : ∀ σ : HS, AW ids ad ca Γ 1338 [some (.ref b), some (.ref (ad 0)), some (.ref (ad 236)), some (.int 0)] [] σ) : AW ids ad ca Γ 1269 [some (.ref b), some (.ref (ad 0)), some (.ref (ad 236)), some (.int 0)] [] s0 := by
  refine a_aload_n C dL_law_1269 (i := 1) rfl rfl ?_
  refine a_aload_n C dL_law_1270 (i := 0) rfl rfl ?_
  refine a_iload_n C dL_law_1271 (i := 3) rfl rfl ?_
  refine a_iconst C dL_law_1272 (v := 1) rfl ?_
  refine a_iadd C dL_law_1273 ?_
  refine a_sld C X 1 rfl (by decide) (by decide) dL_law_1274 ?_
  obtain ⟨v, ⟨fr, lo, hf, hl, hM⟩, hR⟩ := b_hold (l := l0) (D := D0) (ad := ad) (ca := ca) (p0 := (xs 1)) hid
  refine a_callVi C (i := 0) kd_0 (hid 0 (by decide)) ⟨_, _, rfl⟩ (by decide) hM mi_X11_hold ml_RL_179 rfl rfl (by omega) (by omega) (Nat.le_of_ble_eq_true rfl) dL_law_1275 (fun r σ1 q1 => ?_)
  obtain ⟨rfl, hk⟩ := q1
  obtain ⟨fr2, lo2, hf2, hl2, hM2⟩ := hR σ1 hk
  refine a_aload_n C dL_law_1278 (i := 2) rfl rfl ?_
  refine a_aload_n C dL_law_1279 (i := 0) rfl rfl ?_
  refine a_iload_n C dL_law_1280 (i := 3) rfl rfl ?_
  refine a_iconst C dL_law_1281 (v := 1) rfl ?_
  refine a_iadd C dL_law_1282 ?_
  refine a_sld C X 1 rfl (by decide) (by decide) dL_law_1283 ?_
  refine a_callVi C (i := 236) kd_236 (hid 236 (by decide)) ⟨_, _, rfl⟩ (by decide) hM2 mi_X12_hold ml_RL_182 rfl rfl (by omega) (by omega) (Nat.le_of_ble_eq_true rfl) dL_law_1284 (fun r2 σ2 q2 => ?_)
  refine a_ic_eq C dL_law_1287 (tgt := 1338) rfl (fun _ => K σ2) (fun h => absurd q2.symm h)
set_option maxRecDepth 100000 in
theorem la_40 {Γ : GT} {ids : List Nat} {ad : Nat → Nat} {ca : Nat → ClassId} {l0 : Launch} {D0 : va_G} {b : Nat} {xs : Nat → Int32} (C : CT ids ad ca Γ code RL l0 D0 2048 84000 4) (X : SX Γ b 6 xs) (hid : ∀ i, i < 277 → i ∈ ids) (K : ∀ σ : HS, AW ids ad ca Γ 1338 [some (.ref b), some (.ref (ad 0)), some (.ref (ad 236)), some (.int 0)] [] σ) : AW ids ad ca Γ 1292 [some (.ref b), some (.ref (ad 0)), some (.ref (ad 236)), some (.int 0)] [] s0 := by
  refine a_aload_n C dL_law_1292 (i := 1) rfl rfl ?_
  refine a_aload_n C dL_law_1293 (i := 0) rfl rfl ?_
  refine a_iload_n C dL_law_1294 (i := 3) rfl rfl ?_
  refine a_iconst C dL_law_1295 (v := 1) rfl ?_
  refine a_iadd C dL_law_1296 ?_
  refine a_sld C X 1 rfl (by decide) (by decide) dL_law_1297 ?_
  obtain ⟨v, ⟨fr, lo, hf, hl, hM⟩, hR⟩ := b_restore (l := l0) (D := D0) (ad := ad) (ca := ca) (p0 := (xs 1)) hid
  refine a_callVi C (i := 0) kd_0 (hid 0 (by decide)) ⟨_, _, rfl⟩ (by decide) hM mi_X11_restore ml_RL_183 rfl rfl (by omega) (by omega) (Nat.le_of_ble_eq_true rfl) dL_law_1298 (fun r σ1 q1 => ?_)
  obtain ⟨rfl, hk⟩ := q1
  obtain ⟨fr2, lo2, hf2, hl2, hM2⟩ := hR σ1 hk
  refine a_aload_n C dL_law_1301 (i := 2) rfl rfl ?_
  refine a_aload_n C dL_law_1302 (i := 0) rfl rfl ?_
  refine a_iload_n C dL_law_1303 (i := 3) rfl rfl ?_
  refine a_iconst C dL_law_1304 (v := 1) rfl ?_
  refine a_iadd C dL_law_1305 ?_
  refine a_sld C X 1 rfl (by decide) (by decide) dL_law_1306 ?_
  refine a_callVi C (i := 236) kd_236 (hid 236 (by decide)) ⟨_, _, rfl⟩ (by decide) hM2 mi_X12_restore ml_RL_186 rfl rfl (by omega) (by omega) (Nat.le_of_ble_eq_true rfl) dL_law_1307 (fun r2 σ2 q2 => ?_)
  refine a_ic_eq C dL_law_1310 (tgt := 1338) rfl (fun _ => K σ2) (fun h => absurd q2.symm h)
set_option maxRecDepth 100000 in
theorem la_41 {Γ : GT} {ids : List Nat} {ad : Nat → Nat} {ca : Nat → ClassId} {l0 : Launch} {D0 : va_G} {b : Nat} {xs : Nat → Int32} (C : CT ids ad ca Γ code RL l0 D0 2048 84000 4) (X : SX Γ b 6 xs) (hid : ∀ i, i < 277 → i ∈ ids) (K : ∀ σ : HS, AW ids ad ca Γ 1338 [some (.ref b), some (.ref (ad 0)), some (.ref (ad 236)), some (.int 0)] [] σ) : AW ids ad ca Γ 1315 [some (.ref b), some (.ref (ad 0)), some (.ref (ad 236)), some (.int 0)] [] s0 := by
  refine a_aload_n C dL_law_1315 (i := 1) rfl rfl ?_
  refine a_aload_n C dL_law_1316 (i := 0) rfl rfl ?_
  refine a_iload_n C dL_law_1317 (i := 3) rfl rfl ?_
  refine a_iconst C dL_law_1318 (v := 1) rfl ?_
  refine a_iadd C dL_law_1319 ?_
  refine a_sld C X 1 rfl (by decide) (by decide) dL_law_1320 ?_
  obtain ⟨v, ⟨fr, lo, hf, hl, hM⟩, hR⟩ := b_count (l := l0) (D := D0) (ad := ad) (ca := ca) (p0 := (xs 1)) hid
  refine a_callVi C (i := 0) kd_0 (hid 0 (by decide)) ⟨_, _, rfl⟩ (by decide) hM mi_X11_count ml_RL_187 rfl rfl (by omega) (by omega) (Nat.le_of_ble_eq_true rfl) dL_law_1321 (fun r σ1 q1 => ?_)
  obtain ⟨rfl, hk⟩ := q1
  obtain ⟨fr2, lo2, hf2, hl2, hM2⟩ := hR σ1 hk
  refine a_aload_n C dL_law_1324 (i := 2) rfl rfl ?_
  refine a_aload_n C dL_law_1325 (i := 0) rfl rfl ?_
  refine a_iload_n C dL_law_1326 (i := 3) rfl rfl ?_
  refine a_iconst C dL_law_1327 (v := 1) rfl ?_
  refine a_iadd C dL_law_1328 ?_
  refine a_sld C X 1 rfl (by decide) (by decide) dL_law_1329 ?_
  refine a_callVi C (i := 236) kd_236 (hid 236 (by decide)) ⟨_, _, rfl⟩ (by decide) hM2 mi_X12_count ml_RL_190 rfl rfl (by omega) (by omega) (Nat.le_of_ble_eq_true rfl) dL_law_1330 (fun r2 σ2 q2 => ?_)
  refine a_ic_eq C dL_law_1333 (tgt := 1338) rfl (fun _ => K σ2) (fun h => absurd q2.symm h)
