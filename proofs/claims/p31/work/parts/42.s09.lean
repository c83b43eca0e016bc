set_option maxHeartbeats 4000000 in
set_option maxRecDepth 100000 in
theorem S_X6_tellingPattern_1_43 {l : Launch} {D : va_G} {ids : List Nat} {ad : Nat → Nat} {ca : Nat → ClassId} {σ : HS} (hid : ∀ i, i < 277 → i ∈ ids) (hG : GIc σ) (hR : RK σ) : Ki l D ids ad ca yX6_tellingPattern cX6_tellingPattern 4 .boolean 3 66 [.ref (ad 1), .ref (ad 43)] σ (fun r σ1 => (GIc σ1) ∧ (ony [1, 7, 43, 48, 49, 50, 51, 52, 53] σ σ1) ∧ (RK σ1) ∧ (0 ≤ r.toInt ∧ r.toInt ≤ 1)) := by
  refine Ki.of (by decide) (Nat.le_of_ble_eq_true rfl) 2 (fun Γ C Rt => ?_)
  show AW ids ad ca Γ 0 [some (.ref (ad 1)), some (.ref (ad 43)), none, none] [] σ
  have j102 : ∀ (σq102 : HS) (y102_2 : Int32) (y102_3 : Int32), GIc σq102 → ony [1, 7, 43, 48, 49, 50, 51, 52, 53] σ σq102 → RK σq102 → 0 ≤ y102_2.toInt ∧ y102_2.toInt ≤ 4 → 1 ≤ y102_3.toInt ∧ y102_3.toInt ≤ 8 → (σq102.1 43 4).toInt = y102_2.toInt → AW ids ad ca Γ 102 [some (.ref (ad 1)), some (.ref (ad 43)), some (.int y102_2), some (.int y102_3)] [] σq102 := by
    intro σq102 y102_2 y102_3 hGq102 hoq102 hRq102 hx102_0 hx102_1 hx102_2
    refine a_aload_n C dX6_tellingPattern_102 (i := 0) rfl rfl ?_
    refine a_get C fl_RX6_53 (i := 1) kd_1 (hid 1 (by decide)) (v := .int (σq102.1 1 6)) rfl dX6_tellingPattern_103 ?_
    refine s_bipush C dX6_tellingPattern_106 (21) (by decide) (fun z1 h2 => ?_)
    refine s_ic_ne C dX6_tellingPattern_108 (tgt := 117) rfl (fun c3 => ?_) (fun c3 => ?_)
    ·
      refine a_aload_n C dX6_tellingPattern_117 (i := 1) rfl rfl ?_
      refine a_get C fl_RX6_123 (i := 43) kd_43 (hid 43 (by decide)) (v := .ref (ad 53)) rfl dX6_tellingPattern_118 ?_
      refine a_iload_n C dX6_tellingPattern_121 (i := 2) rfl rfl ?_
      refine a_iload_n C dX6_tellingPattern_122 (i := 3) rfl rfl ?_
      refine s_iast C (i := 53) kd_53 (hid 53 (by decide)) al_53 (by omega) (by omega) dX6_tellingPattern_123 (fun n4 h5 => ?_)
      have hG6 := wA_53 (v := y102_3) (j := n4) hGq102 (by omega) (by omega)
      have hR7 := RK.I (i := 53) (k := n4) (v := y102_3) hRq102 (by decide) (fun e => absurd e (by decide))
      refine a_aload_n C dX6_tellingPattern_124 (i := 1) rfl rfl ?_
      refine a_dup C dX6_tellingPattern_125 rfl ?_
      have g8 := bF_43_4 hGq102
      refine a_get C fl_RX6_116 (i := 43) kd_43 (hid 43 (by decide)) (v := .int (σq102.1 43 4)) rfl dX6_tellingPattern_126 ?_
      refine s_iconst C dX6_tellingPattern_129 (1) (by decide) (fun z9 h10 => ?_)
      refine s_iadd C dX6_tellingPattern_130 (by omega) (fun z11 h12 => ?_)
      refine a_put C fp_RX6_116 (i := 43) kd_43 (hid 43 (by decide)) rfl rfl dX6_tellingPattern_131 ?_
      have hG13 := wF_43_4 (v := z11) hG6 (by omega) (by omega)
      have hR14 := RK.I (i := 43) (k := 4) (v := z11) hR7 (by decide) (fun e => absurd e (by decide))
      refine a_aload_n C dX6_tellingPattern_134 (i := 0) rfl rfl ?_
      refine s_bipush C dX6_tellingPattern_135 (59) (by decide) (fun z15 h16 => ?_)
      refine a_callVi C (i := 1) kd_1 (hid 1 (by decide)) ⟨_, _, rfl⟩ (by decide) (S_X6_take_1 (x1 := z15) hid hG13 hR14) mi_X6_take ml_RX6_77 rfl rfl (Nat.le_of_ble_eq_true rfl) (Nat.le_of_ble_eq_true rfl) (Nat.le_of_ble_eq_true rfl) dX6_tellingPattern_137 (fun z17 σ18 q19 => ?_)
      obtain ⟨hG20, ho21, hR22, w23, w24, w25⟩ := q19
      exact a_iret Rt dX6_tellingPattern_140 (nar_z (by omega)).1 (⟨hG20, (ony.tr (ony.I (ony.I hoq102 (by decide)) (by decide)) (ony.mono ho21 (by decide))), hR22, (show 0 ≤ z17.toInt ∧ z17.toInt ≤ 1 by intros; omega)⟩)
    ·
      refine a_aload_n C dX6_tellingPattern_111 (i := 0) rfl rfl ?_
      refine s_iconst C dX6_tellingPattern_112 (2) (by decide) (fun z26 h27 => ?_)
      refine a_callVi C (i := 1) kd_1 (hid 1 (by decide)) ⟨_, _, rfl⟩ (by decide) (S_X6_refuse_1 (x1 := z26) hid hGq102 hRq102) mi_X6_refuse ml_RX6_60 rfl rfl (Nat.le_of_ble_eq_true rfl) (Nat.le_of_ble_eq_true rfl) (Nat.le_of_ble_eq_true rfl) dX6_tellingPattern_113 (fun z28 σ29 q30 => ?_)
      obtain ⟨hG31, ho32, hR33, w34⟩ := q30
      exact a_iret Rt dX6_tellingPattern_116 (nar_z (by omega)).1 (⟨hG31, (ony.tr hoq102 (ony.mono ho32 (by decide))), hR33, (show 0 ≤ z28.toInt ∧ z28.toInt ≤ 1 by intros; omega)⟩)
  have j57 : ∀ (d57 : Nat) (σq57 : HS) (y57_2 : Int32) (y57_3 : Int32), 8 - y57_3.toInt < d57 → GIc σq57 → ony [1, 7, 43, 48, 49, 50, 51, 52, 53] σ σq57 → RK σq57 → 0 ≤ y57_2.toInt ∧ y57_2.toInt ≤ 4 → 1 ≤ y57_3.toInt ∧ y57_3.toInt ≤ 8 → (σq57.1 43 4).toInt = y57_2.toInt → AW ids ad ca Γ 57 [some (.ref (ad 1)), some (.ref (ad 43)), some (.int y57_2), some (.int y57_3)] [] σq57 := by
    intro d57
    induction d57 with
    | zero =>
      intro σq57 y57_2 y57_3 hd57 hGq57 hoq57 hRq57 hx57_0 hx57_1 hx57_2
      exfalso
      omega
    | succ d57 ih57 =>
      intro σq57 y57_2 y57_3 hd57 hGq57 hoq57 hRq57 hx57_0 hx57_1 hx57_2
      refine a_aload_n C dX6_tellingPattern_57 (i := 0) rfl rfl ?_
      refine a_get C fl_RX6_53 (i := 1) kd_1 (hid 1 (by decide)) (v := .int (σq57.1 1 6)) rfl dX6_tellingPattern_58 ?_
      refine s_bipush C dX6_tellingPattern_61 (21) (by decide) (fun z35 h36 => ?_)
      refine s_ic_ne C dX6_tellingPattern_63 (tgt := 102) rfl (fun c37 => ?_) (fun c37 => ?_)
      ·
        have g38 := bF_43_4 hGq57
        exact j102 _ y57_2 y57_3 hGq57 hoq57 hRq57 (by omega) (by omega) (show (σq57.1 43 4).toInt = y57_2.toInt by omega)
      ·
        refine a_iload_n C dX6_tellingPattern_66 (i := 3) rfl rfl ?_
        refine s_bipush C dX6_tellingPattern_67 (8) (by decide) (fun z39 h40 => ?_)
        refine s_ic_ge C dX6_tellingPattern_69 (tgt := 102) rfl (fun c41 => ?_) (fun c41 => ?_)
        ·
          have g42 := bF_43_4 hGq57
          exact j102 _ y57_2 y57_3 hGq57 hoq57 hRq57 (by omega) (by omega) (show (σq57.1 43 4).toInt = y57_2.toInt by omega)
        ·
          refine a_aload_n C dX6_tellingPattern_72 (i := 0) rfl rfl ?_
          refine s_iconst C dX6_tellingPattern_73 (0) (by decide) (fun z43 h44 => ?_)
          refine s_bipush C dX6_tellingPattern_74 (9) (by decide) (fun z45 h46 => ?_)
          refine a_callVi C (i := 1) kd_1 (hid 1 (by decide)) ⟨_, _, rfl⟩ (by decide) (S_X6_takeNumber_1 (x1 := z43) (x2 := z45) hid hGq57 hRq57) mi_X6_takeNumber ml_RX6_90 rfl rfl (Nat.le_of_ble_eq_true rfl) (Nat.le_of_ble_eq_true rfl) (Nat.le_of_ble_eq_true rfl) dX6_tellingPattern_76 (fun z47 σ48 q49 => ?_)
          obtain ⟨hG50, ho51, hR52, w53, w54⟩ := q49
          refine s_if_ne C dX6_tellingPattern_79 (tgt := 84) rfl (fun c55 => ?_) (fun c55 => ?_)
          ·
            refine a_aload_n C dX6_tellingPattern_84 (i := 1) rfl rfl ?_
            refine a_get C fl_RX6_119 (i := 43) kd_43 (hid 43 (by decide)) (v := .ref (ad 47)) rfl dX6_tellingPattern_85 ?_
            refine a_iload_n C dX6_tellingPattern_88 (i := 2) rfl rfl ?_
            refine s_aaldH C (i := 47) kd_47 (hid 47 (by decide)) al_47 (by omega) (by omega) dX6_tellingPattern_89 (fun n56 h57 h58 => ?_)
            refine a_iload_n C dX6_tellingPattern_90 (i := 3) rfl rfl ?_
            refine a_aload_n C dX6_tellingPattern_91 (i := 0) rfl rfl ?_
            refine a_get C fl_RX6_67 (i := 1) kd_1 (hid 1 (by decide)) (v := .int (σ48.1 1 7)) rfl dX6_tellingPattern_92 ?_
            refine s_iast C (i := (47 + 1 + n56)) (kdH_47 n56 h58).1 (hid _ (kdH_47 n56 h58).2.2) (kdH_47 n56 h58).2.1 (by omega) (by omega) dX6_tellingPattern_95 (fun n62 h63 => ?_)
            refine s_gen2 (wH_47 (n := n56) (j := n62) hG50 h58 (by omega) (by omega)) (fun σ59 hG60 ho61 => ?_)
            have hR64 := RK.ony hR52 ho61 (by decide) (by decide)
            refine s_iinc C dX6_tellingPattern_96 rfl (1) (by decide) (by omega) (by decide) rfl (fun z65 h66 => ?_)
            show AW ids ad ca Γ 99 [some (.ref (ad 1)), some (.ref (ad 43)), some (.int y57_2), some (.int z65)] _ _
            refine a_goto C dX6_tellingPattern_99 (tgt := 57) rfl ?_
            have g67 := bF_43_4 hG60
            have g68 := bF_43_4 hG50
            have g69 := bF_43_4 hGq57
            have g70 : (σ48.1 43 4).toInt = (σq57.1 43 4).toInt := congrArg Int32.toInt (congrFun (ho51.1 43 (by decide)).1 4)
            have g71 : (σ59.1 43 4).toInt = (σ48.1 43 4).toInt := congrArg Int32.toInt (congrFun (ho61.1 43 (by decide)).1 4)
            exact ih57 _ y57_2 z65 (by omega) hG60 (ony.tr (ony.tr hoq57 (ony.mono ho51 (by decide))) (ony.mono ho61 (by decide))) hR64 (by omega) (by omega) (show (σ59.1 43 4).toInt = y57_2.toInt by omega)
          ·
            refine s_iconst C dX6_tellingPattern_82 (0) (by decide) (fun z72 h73 => ?_)
            exact a_iret Rt dX6_tellingPattern_83 (nar_z (by omega)).1 (⟨hG50, (ony.tr hoq57 (ony.mono ho51 (by decide))), hR52, (show 0 ≤ z72.toInt ∧ z72.toInt ≤ 1 by intros; omega)⟩)
  refine a_aload_n C dX6_tellingPattern_0 (i := 1) rfl rfl ?_
  have g74 := bF_43_4 hG
  refine a_get C fl_RX6_116 (i := 43) kd_43 (hid 43 (by decide)) (v := .int (σ.1 43 4)) rfl dX6_tellingPattern_1 ?_
  refine a_istore_n C dX6_tellingPattern_4 (i := 2) rfl (by decide) rfl (vs1 := [some (.ref (ad 1)), some (.ref (ad 43)), some (.int (σ.1 43 4)), none]) rfl ?_
  refine a_iload_n C dX6_tellingPattern_5 (i := 2) rfl rfl ?_
  refine s_iconst C dX6_tellingPattern_6 (5) (by decide) (fun z75 h76 => ?_)
  refine s_ic_lt C dX6_tellingPattern_7 (tgt := 16) rfl (fun c77 => ?_) (fun c77 => ?_)
  ·
    refine a_aload_n C dX6_tellingPattern_16 (i := 0) rfl rfl ?_
    refine s_iconst C dX6_tellingPattern_17 (1) (by decide) (fun z78 h79 => ?_)
    refine a_callVi C (i := 1) kd_1 (hid 1 (by decide)) ⟨_, _, rfl⟩ (by decide) (S_X6_take_1 (x1 := z78) hid hG hR) mi_X6_take ml_RX6_77 rfl rfl (Nat.le_of_ble_eq_true rfl) (Nat.le_of_ble_eq_true rfl) (Nat.le_of_ble_eq_true rfl) dX6_tellingPattern_18 (fun z80 σ81 q82 => ?_)
    obtain ⟨hG83, ho84, hR85, w86, w87, w88⟩ := q82
    refine s_if_eq C dX6_tellingPattern_21 (tgt := 41) rfl (fun c89 => ?_) (fun c89 => ?_)
    ·
      refine s_iconst C dX6_tellingPattern_41 (0) (by decide) (fun z90 h91 => ?_)
      exact a_iret Rt dX6_tellingPattern_42 (nar_z (by omega)).1 (⟨hG83, (ony.tr ony.rf (ony.mono ho84 (by decide))), hR85, (show 0 ≤ z90.toInt ∧ z90.toInt ≤ 1 by intros; omega)⟩)
    ·
      refine a_aload_n C dX6_tellingPattern_24 (i := 0) rfl rfl ?_
      refine a_callVi C (i := 1) kd_1 (hid 1 (by decide)) ⟨_, _, rfl⟩ (by decide) (S_X6_takeName_1 hid hG83 hR85) mi_X6_takeName ml_RX6_103 rfl rfl (Nat.le_of_ble_eq_true rfl) (Nat.le_of_ble_eq_true rfl) (Nat.le_of_ble_eq_true rfl) dX6_tellingPattern_25 (fun z92 σ93 q94 => ?_)
      obtain ⟨hG95, ho96, hR97, w98⟩ := q94
      refine s_if_eq C dX6_tellingPattern_28 (tgt := 41) rfl (fun c99 => ?_) (fun c99 => ?_)
      ·
        refine s_iconst C dX6_tellingPattern_41 (0) (by decide) (fun z100 h101 => ?_)
        exact a_iret Rt dX6_tellingPattern_42 (nar_z (by omega)).1 (⟨hG95, (ony.tr (ony.tr ony.rf (ony.mono ho84 (by decide))) (ony.mono ho96 (by decide))), hR97, (show 0 ≤ z100.toInt ∧ z100.toInt ≤ 1 by intros; omega)⟩)
      ·
        refine a_aload_n C dX6_tellingPattern_31 (i := 0) rfl rfl ?_
        refine s_iconst C dX6_tellingPattern_32 (0) (by decide) (fun z102 h103 => ?_)
        refine s_bipush C dX6_tellingPattern_33 (9) (by decide) (fun z104 h105 => ?_)
        refine a_callVi C (i := 1) kd_1 (hid 1 (by decide)) ⟨_, _, rfl⟩ (by decide) (S_X6_takeNumber_1 (x1 := z102) (x2 := z104) hid hG95 hR97) mi_X6_takeNumber ml_RX6_90 rfl rfl (Nat.le_of_ble_eq_true rfl) (Nat.le_of_ble_eq_true rfl) (Nat.le_of_ble_eq_true rfl) dX6_tellingPattern_35 (fun z106 σ107 q108 => ?_)
        obtain ⟨hG109, ho110, hR111, w112, w113⟩ := q108
        refine s_if_ne C dX6_tellingPattern_38 (tgt := 43) rfl (fun c114 => ?_) (fun c114 => ?_)
        ·
          refine a_aload_n C dX6_tellingPattern_43 (i := 1) rfl rfl ?_
          refine a_get C fl_RX6_119 (i := 43) kd_43 (hid 43 (by decide)) (v := .ref (ad 47)) rfl dX6_tellingPattern_44 ?_
          refine a_iload_n C dX6_tellingPattern_47 (i := 2) rfl rfl ?_
          refine s_aaldH C (i := 47) kd_47 (hid 47 (by decide)) al_47 (by omega) (by omega) dX6_tellingPattern_48 (fun n115 h116 h117 => ?_)
          refine s_iconst C dX6_tellingPattern_49 (0) (by decide) (fun z118 h119 => ?_)
          refine a_aload_n C dX6_tellingPattern_50 (i := 0) rfl rfl ?_
          refine a_get C fl_RX6_67 (i := 1) kd_1 (hid 1 (by decide)) (v := .int (σ107.1 1 7)) rfl dX6_tellingPattern_51 ?_
          refine s_iast C (i := (47 + 1 + n115)) (kdH_47 n115 h117).1 (hid _ (kdH_47 n115 h117).2.2) (kdH_47 n115 h117).2.1 (by omega) (by omega) dX6_tellingPattern_54 (fun n123 h124 => ?_)
          refine s_gen2 (wH_47 (n := n115) (j := n123) hG109 h117 (by omega) (by omega)) (fun σ120 hG121 ho122 => ?_)
          have hR125 := RK.ony hR111 ho122 (by decide) (by decide)
          refine s_iconst C dX6_tellingPattern_55 (1) (by decide) (fun z126 h127 => ?_)
          refine a_istore_n C dX6_tellingPattern_56 (i := 3) rfl (by decide) rfl (vs1 := [some (.ref (ad 1)), some (.ref (ad 43)), some (.int (σ.1 43 4)), some (.int z126)]) rfl ?_
          have g128 := bF_43_4 hG121
          have g129 := bF_43_4 hG109
          have g130 := bF_43_4 hG95
          have g131 := bF_43_4 hG83
          have g132 := bF_43_4 hG
          have g133 : (σ81.1 43 4).toInt = (σ.1 43 4).toInt := congrArg Int32.toInt (congrFun (ho84.1 43 (by decide)).1 4)
          have g134 : (σ93.1 43 4).toInt = (σ81.1 43 4).toInt := congrArg Int32.toInt (congrFun (ho96.1 43 (by decide)).1 4)
          have g135 : (σ107.1 43 4).toInt = (σ93.1 43 4).toInt := congrArg Int32.toInt (congrFun (ho110.1 43 (by decide)).1 4)
          have g136 : (σ120.1 43 4).toInt = (σ107.1 43 4).toInt := congrArg Int32.toInt (congrFun (ho122.1 43 (by decide)).1 4)
          exact j57 100000 _ (σ.1 43 4) z126 (by omega) hG121 (ony.tr (ony.tr (ony.tr (ony.tr ony.rf (ony.mono ho84 (by decide))) (ony.mono ho96 (by decide))) (ony.mono ho110 (by decide))) (ony.mono ho122 (by decide))) hR125 (by omega) (by omega) (show (σ120.1 43 4).toInt = (σ.1 43 4).toInt by omega)
        ·
          refine s_iconst C dX6_tellingPattern_41 (0) (by decide) (fun z137 h138 => ?_)
          exact a_iret Rt dX6_tellingPattern_42 (nar_z (by omega)).1 (⟨hG109, (ony.tr (ony.tr (ony.tr ony.rf (ony.mono ho84 (by decide))) (ony.mono ho96 (by decide))) (ony.mono ho110 (by decide))), hR111, (show 0 ≤ z137.toInt ∧ z137.toInt ≤ 1 by intros; omega)⟩)
  ·
    refine a_aload_n C dX6_tellingPattern_10 (i := 0) rfl rfl ?_
    refine s_iconst C dX6_tellingPattern_11 (2) (by decide) (fun z139 h140 => ?_)
    refine a_callVi C (i := 1) kd_1 (hid 1 (by decide)) ⟨_, _, rfl⟩ (by decide) (S_X6_refuse_1 (x1 := z139) hid hG hR) mi_X6_refuse ml_RX6_60 rfl rfl (Nat.le_of_ble_eq_true rfl) (Nat.le_of_ble_eq_true rfl) (Nat.le_of_ble_eq_true rfl) dX6_tellingPattern_12 (fun z141 σ142 q143 => ?_)
    obtain ⟨hG144, ho145, hR146, w147⟩ := q143
    exact a_iret Rt dX6_tellingPattern_15 (nar_z (by omega)).1 (⟨hG144, (ony.tr ony.rf (ony.mono ho145 (by decide))), hR146, (show 0 ≤ z141.toInt ∧ z141.toInt ≤ 1 by intros; omega)⟩)
set_option maxHeartbeats 4000000 in
set_option maxRecDepth 100000 in
theorem S_X6_unit_1_43_w6 {l : Launch} {D : va_G} {ids : List Nat} {ad : Nat → Nat} {ca : Nat → ClassId} {σ : HS} {x2 : Int32} (hid : ∀ i, i < 277 → i ∈ ids) (hG : GIc σ) (hR : RK σ) (hx2 : 6 ≤ x2.toInt ∧ x2.toInt ≤ 6) : Ki l D ids ad ca yX6_unit cX6_unit 4 .boolean 2 42 [.ref (ad 1), .ref (ad 43), .int x2] σ (fun r σ1 => (GIc σ1) ∧ (ony [1, 43, 54] σ σ1) ∧ (RK σ1) ∧ (0 ≤ r.toInt ∧ r.toInt ≤ 1)) := by
  refine Ki.of (by decide) (Nat.le_of_ble_eq_true rfl) 1 (fun Γ C Rt => ?_)
  show AW ids ad ca Γ 0 [some (.ref (ad 1)), some (.ref (ad 43)), some (.int x2), none] [] σ
  have j67 : ∀ (σq67 : HS), GIc σq67 → ony [1, 43, 54] σ σq67 → RK σq67 → AW ids ad ca Γ 67 [some (.ref (ad 1)), some (.ref (ad 43)), some (.int x2), none] [] σq67 := by
    intro σq67 hGq67 hoq67 hRq67
    refine a_aload_n C dX6_unit_67 (i := 0) rfl rfl ?_
    refine a_get C fl_RX6_53 (i := 1) kd_1 (hid 1 (by decide)) (v := .int (σq67.1 1 6)) rfl dX6_unit_68 ?_
    refine s_bipush C dX6_unit_71 (40) (by decide) (fun z1 h2 => ?_)
    refine s_ic_ne C dX6_unit_73 (tgt := 88) rfl (fun c3 => ?_) (fun c3 => ?_)
    ·
      refine a_aload_n C dX6_unit_88 (i := 0) rfl rfl ?_
      refine s_bipush C dX6_unit_89 (40) (by decide) (fun z4 h5 => ?_)
      refine a_callVi C (i := 1) kd_1 (hid 1 (by decide)) ⟨_, _, rfl⟩ (by decide) (S_X6_take_1 (x1 := z4) hid hGq67 hRq67) mi_X6_take ml_RX6_77 rfl rfl (Nat.le_of_ble_eq_true rfl) (Nat.le_of_ble_eq_true rfl) (Nat.le_of_ble_eq_true rfl) dX6_unit_91 (fun z6 σ7 q8 => ?_)
      obtain ⟨hG9, ho10, hR11, w12, w13, w14⟩ := q8
      refine s_if_eq C dX6_unit_94 (tgt := 121) rfl (fun c15 => ?_) (fun c15 => ?_)
      ·
        refine s_iconst C dX6_unit_121 (0) (by decide) (fun z16 h17 => ?_)
        exact a_iret Rt dX6_unit_122 (nar_z (by omega)).1 (⟨hG9, (ony.tr hoq67 (ony.mono ho10 (by decide))), hR11, (show 0 ≤ z16.toInt ∧ z16.toInt ≤ 1 by intros; omega)⟩)
      ·
        refine a_aload_n C dX6_unit_97 (i := 0) rfl rfl ?_
        refine a_aload_n C dX6_unit_98 (i := 1) rfl rfl ?_
        refine a_iload_n C dX6_unit_99 (i := 2) rfl rfl ?_
        refine s_iconst C dX6_unit_100 (1) (by decide) (fun z18 h19 => ?_)
        refine s_iadd C dX6_unit_101 (by omega) (fun z20 h21 => ?_)
        exfalso
        omega
    ·
      refine a_iload_n C dX6_unit_76 (i := 2) rfl rfl ?_
      refine s_bipush C dX6_unit_77 (6) (by decide) (fun z22 h23 => ?_)
      refine s_ic_lt C dX6_unit_79 (tgt := 88) rfl (fun c24 => absurd c24 (by omega)) (fun c24 => ?_)
      refine a_aload_n C dX6_unit_82 (i := 0) rfl rfl ?_
      refine s_iconst C dX6_unit_83 (2) (by decide) (fun z25 h26 => ?_)
      refine a_callVi C (i := 1) kd_1 (hid 1 (by decide)) ⟨_, _, rfl⟩ (by decide) (S_X6_refuse_1 (x1 := z25) hid hGq67 hRq67) mi_X6_refuse ml_RX6_60 rfl rfl (Nat.le_of_ble_eq_true rfl) (Nat.le_of_ble_eq_true rfl) (Nat.le_of_ble_eq_true rfl) dX6_unit_84 (fun z27 σ28 q29 => ?_)
      obtain ⟨hG30, ho31, hR32, w33⟩ := q29
      exact a_iret Rt dX6_unit_87 (nar_z (by omega)).1 (⟨hG30, (ony.tr hoq67 (ony.mono ho31 (by decide))), hR32, (show 0 ≤ z27.toInt ∧ z27.toInt ≤ 1 by intros; omega)⟩)
  refine a_aload_n C dX6_unit_0 (i := 0) rfl rfl ?_
  refine a_get C fl_RX6_53 (i := 1) kd_1 (hid 1 (by decide)) (v := .int (σ.1 1 6)) rfl dX6_unit_1 ?_
  refine s_bipush C dX6_unit_4 (21) (by decide) (fun z34 h35 => ?_)
  refine s_ic_ne C dX6_unit_6 (tgt := 26) rfl (fun c36 => ?_) (fun c36 => ?_)
  ·
    refine a_aload_n C dX6_unit_26 (i := 0) rfl rfl ?_
    refine a_get C fl_RX6_53 (i := 1) kd_1 (hid 1 (by decide)) (v := .int (σ.1 1 6)) rfl dX6_unit_27 ?_
    refine s_bipush C dX6_unit_30 (11) (by decide) (fun z37 h38 => ?_)
    refine s_ic_lt C dX6_unit_32 (tgt := 67) rfl (fun c39 => ?_) (fun c39 => ?_)
    ·
      exact j67 _ hG ony.rf hR
    ·
      refine a_aload_n C dX6_unit_35 (i := 0) rfl rfl ?_
      refine a_get C fl_RX6_53 (i := 1) kd_1 (hid 1 (by decide)) (v := .int (σ.1 1 6)) rfl dX6_unit_36 ?_
      refine s_bipush C dX6_unit_39 (19) (by decide) (fun z40 h41 => ?_)
      refine s_ic_gt C dX6_unit_41 (tgt := 67) rfl (fun c42 => ?_) (fun c42 => ?_)
      ·
        exact j67 _ hG ony.rf hR
      ·
        refine a_aload_n C dX6_unit_44 (i := 1) rfl rfl ?_
        refine s_bipush C dX6_unit_45 (-10) (by decide) (fun z43 h44 => ?_)
        refine a_aload_n C dX6_unit_47 (i := 0) rfl rfl ?_
        refine a_get C fl_RX6_53 (i := 1) kd_1 (hid 1 (by decide)) (v := .int (σ.1 1 6)) rfl dX6_unit_48 ?_
        refine s_bipush C dX6_unit_51 (11) (by decide) (fun z45 h46 => ?_)
        refine s_isubU C dX6_unit_53 (fun z47 => ?_)
        refine s_isubU C dX6_unit_54 (fun z49 => ?_)
        refine a_callVv C (i := 43) kd_43 (hid 43 (by decide)) ⟨_, _, rfl⟩ (by decide) (S_X10_emit_43 (x1 := z49) hid hG) mi_X10_emit ml_RX6_138 rfl rfl (Nat.le_of_ble_eq_true rfl) (Nat.le_of_ble_eq_true rfl) (Nat.le_of_ble_eq_true rfl) dX6_unit_55 (fun σ52 q53 => ?_)
        obtain ⟨hG54, ho55⟩ := q53
        have hR56 := RK.ony hR ho55 (by decide) (by decide)
        refine a_aload_n C dX6_unit_58 (i := 0) rfl rfl ?_
        refine a_aload_n C dX6_unit_59 (i := 0) rfl rfl ?_
        refine a_get C fl_RX6_53 (i := 1) kd_1 (hid 1 (by decide)) (v := .int (σ52.1 1 6)) rfl dX6_unit_60 ?_
        refine a_callVi C (i := 1) kd_1 (hid 1 (by decide)) ⟨_, _, rfl⟩ (by decide) (S_X6_take_1 (x1 := (σ52.1 1 6)) hid hG54 hR56) mi_X6_take ml_RX6_77 rfl rfl (Nat.le_of_ble_eq_true rfl) (Nat.le_of_ble_eq_true rfl) (Nat.le_of_ble_eq_true rfl) dX6_unit_63 (fun z57 σ58 q59 => ?_)
        obtain ⟨hG60, ho61, hR62, w63, w64, w65⟩ := q59
        exact a_iret Rt dX6_unit_66 (nar_z (by omega)).1 (⟨hG60, (ony.tr (ony.tr ony.rf (ony.mono ho55 (by decide))) (ony.mono ho61 (by decide))), hR62, (show 0 ≤ z57.toInt ∧ z57.toInt ≤ 1 by intros; omega)⟩)
  ·
    refine a_aload_n C dX6_unit_9 (i := 0) rfl rfl ?_
    refine s_bipush C dX6_unit_10 (21) (by decide) (fun z66 h67 => ?_)
    refine a_callVi C (i := 1) kd_1 (hid 1 (by decide)) ⟨_, _, rfl⟩ (by decide) (S_X6_take_1 (x1 := z66) hid hG hR) mi_X6_take ml_RX6_77 rfl rfl (Nat.le_of_ble_eq_true rfl) (Nat.le_of_ble_eq_true rfl) (Nat.le_of_ble_eq_true rfl) dX6_unit_12 (fun z68 σ69 q70 => ?_)
    obtain ⟨hG71, ho72, hR73, w74, w75, w76⟩ := q70
    refine a_istore_n C dX6_unit_15 (i := 3) rfl (by decide) rfl (vs1 := [some (.ref (ad 1)), some (.ref (ad 43)), some (.int x2), some (.int z68)]) rfl ?_
    refine a_aload_n C dX6_unit_16 (i := 1) rfl rfl ?_
    refine a_aload_n C dX6_unit_17 (i := 0) rfl rfl ?_
    refine a_get C fl_RX6_67 (i := 1) kd_1 (hid 1 (by decide)) (v := .int (σ69.1 1 7)) rfl dX6_unit_18 ?_
    refine a_callVv C (i := 43) kd_43 (hid 43 (by decide)) ⟨_, _, rfl⟩ (by decide) (S_X10_emit_43 (x1 := (σ69.1 1 7)) hid hG71) mi_X10_emit ml_RX6_138 rfl rfl (Nat.le_of_ble_eq_true rfl) (Nat.le_of_ble_eq_true rfl) (Nat.le_of_ble_eq_true rfl) dX6_unit_21 (fun σ78 q79 => ?_)
    obtain ⟨hG80, ho81⟩ := q79
    have hR82 := RK.ony hR73 ho81 (by decide) (by decide)
    refine a_iload_n C dX6_unit_24 (i := 3) rfl rfl ?_
    exact a_iret Rt dX6_unit_25 (nar_z (by omega)).1 (⟨hG80, (ony.tr (ony.tr ony.rf (ony.mono ho72 (by decide))) (ony.mono ho81 (by decide))), hR82, (show 0 ≤ z68.toInt ∧ z68.toInt ≤ 1 by intros; omega)⟩)
set_option maxHeartbeats 4000000 in
set_option maxRecDepth 100000 in
theorem S_X6_product_1_43_w6 {l : Launch} {D : va_G} {ids : List Nat} {ad : Nat → Nat} {ca : Nat → ClassId} {σ : HS} {x2 : Int32} (hid : ∀ i, i < 277 → i ∈ ids) (hG : GIc σ) (hR : RK σ) (hx2 : 6 ≤ x2.toInt ∧ x2.toInt ≤ 6) : Ki l D ids ad ca yX6_product cX6_product 6 .boolean 3 65 [.ref (ad 1), .ref (ad 43), .int x2] σ (fun r σ1 => (GIc σ1) ∧ (ony [1, 43, 54] σ σ1) ∧ (RK σ1) ∧ (0 ≤ r.toInt ∧ r.toInt ≤ 1)) := by
  refine Ki.of (by decide) (Nat.le_of_ble_eq_true rfl) 3 (fun Γ C Rt => ?_)
  show AW ids ad ca Γ 0 [some (.ref (ad 1)), some (.ref (ad 43)), some (.int x2), none, none, none] [] σ
  have j10 : ∀ (d10 : Nat) (σq10 : HS) (y10_3 : Int32) (y10_4 : Int32), 400 - y10_4.toInt < d10 → GIc σq10 → ony [1, 43, 54] σ σq10 → RK σq10 → 0 ≤ y10_3.toInt ∧ y10_3.toInt ≤ 1 → 0 ≤ y10_4.toInt ∧ y10_4.toInt ≤ 400 → AW ids ad ca Γ 10 [some (.ref (ad 1)), some (.ref (ad 43)), some (.int x2), some (.int y10_3), some (.int y10_4), none] [] σq10 := by
    intro d10
    induction d10 with
    | zero =>
      intro σq10 y10_3 y10_4 hd10 hGq10 hoq10 hRq10 hx10_0 hx10_1
      exfalso
      omega
    | succ d10 ih10 =>
      intro σq10 y10_3 y10_4 hd10 hGq10 hoq10 hRq10 hx10_0 hx10_1
      have j85 : ∀ (σq85 : HS) (y85_3 : Int32) (u85_0 : Int32), GIc σq85 → ony [1, 43, 54] σ σq85 → RK σq85 → 0 ≤ y85_3.toInt ∧ y85_3.toInt ≤ 1 → -4 ≤ u85_0.toInt ∧ u85_0.toInt ≤ -3 → 0 ≤ y10_4.toInt ∧ y10_4.toInt ≤ 399 → AW ids ad ca Γ 85 [some (.ref (ad 1)), some (.ref (ad 43)), some (.int x2), some (.int y85_3), some (.int y10_4), none] [.int u85_0, .ref (ad 43)] σq85 := by
        intro σq85 y85_3 u85_0 hGq85 hoq85 hRq85 hx85_0 hx85_1 hx85_2
        refine a_callVv C (i := 43) kd_43 (hid 43 (by decide)) ⟨_, _, rfl⟩ (by decide) (S_X10_emit_43 (x1 := u85_0) hid hGq85) mi_X10_emit ml_RX6_138 rfl rfl (Nat.le_of_ble_eq_true rfl) (Nat.le_of_ble_eq_true rfl) (Nat.le_of_ble_eq_true rfl) dX6_product_85 (fun σ2 q3 => ?_)
        obtain ⟨hG4, ho5⟩ := q3
        have hR6 := RK.ony hRq85 ho5 (by decide) (by decide)
        refine s_iinc C dX6_product_88 rfl (1) (by decide) (by omega) (by decide) rfl (fun z7 h8 => ?_)
        show AW ids ad ca Γ 91 [some (.ref (ad 1)), some (.ref (ad 43)), some (.int x2), some (.int y85_3), some (.int z7), none] _ _
        refine a_goto C dX6_product_91 (tgt := 10) rfl ?_
        exact ih10 _ y85_3 z7 (by omega) hG4 (ony.tr hoq85 (ony.mono ho5 (by decide))) hR6 (by omega) (by omega)
      have j69 : ∀ (σq69 : HS) (y69_5 : Int32) (u69_0 : Int32), GIc σq69 → ony [1, 43, 54] σ σq69 → RK σq69 → 0 ≤ u69_0.toInt ∧ u69_0.toInt ≤ 1 → 0 ≤ y10_4.toInt ∧ y10_4.toInt ≤ 399 → AW ids ad ca Γ 69 [some (.ref (ad 1)), some (.ref (ad 43)), some (.int x2), none, some (.int y10_4), some (.int y69_5)] [.int u69_0] σq69 := by
        intro σq69 y69_5 u69_0 hGq69 hoq69 hRq69 hx69_0 hx69_1
        refine a_istore_n C dX6_product_69 (i := 3) rfl (by decide) rfl (vs1 := [some (.ref (ad 1)), some (.ref (ad 43)), some (.int x2), some (.int u69_0), some (.int y10_4), some (.int y69_5)]) rfl ?_
        refine a_aload_n C dX6_product_70 (i := 1) rfl rfl ?_
        refine a_iload C dX6_product_71 rfl ?_
        refine s_bipush C dX6_product_73 (42) (by decide) (fun z9 h10 => ?_)
        refine s_ic_ne C dX6_product_75 (tgt := 83) rfl (fun c11 => ?_) (fun c11 => ?_)
        ·
          refine s_bipush C dX6_product_83 (-4) (by decide) (fun z12 h13 => ?_)
          refine AW.sub (vs' := [some (.ref (ad 1)), some (.ref (ad 43)), some (.int x2), some (.int u69_0), some (.int y10_4), none]) (lsub_of (by simp [lsubB])) ?_
          exact j85 _ u69_0 z12 hGq69 hoq69 hRq69 (by omega) (by omega) (by omega)
        ·
          refine s_bipush C dX6_product_78 (-3) (by decide) (fun z14 h15 => ?_)
          refine a_goto C dX6_product_80 (tgt := 85) rfl ?_
          refine AW.sub (vs' := [some (.ref (ad 1)), some (.ref (ad 43)), some (.int x2), some (.int u69_0), some (.int y10_4), none]) (lsub_of (by simp [lsubB])) ?_
          exact j85 _ u69_0 z14 hGq69 hoq69 hRq69 (by omega) (by omega) (by omega)
      have j68 : ∀ (σq68 : HS) (y68_5 : Int32), GIc σq68 → ony [1, 43, 54] σ σq68 → RK σq68 → 0 ≤ y10_4.toInt ∧ y10_4.toInt ≤ 399 → AW ids ad ca Γ 68 [some (.ref (ad 1)), some (.ref (ad 43)), some (.int x2), none, some (.int y10_4), some (.int y68_5)] [] σq68 := by
        intro σq68 y68_5 hGq68 hoq68 hRq68 hx68_0
        refine s_iconst C dX6_product_68 (0) (by decide) (fun z16 h17 => ?_)
        exact j69 _ y68_5 z16 hGq68 hoq68 hRq68 (by omega) (by omega)
      have j32 : ∀ (σq32 : HS), GIc σq32 → ony [1, 43, 54] σ σq32 → RK σq32 → 1 ≤ y10_3.toInt ∧ y10_3.toInt ≤ 1 → AW ids ad ca Γ 32 [some (.ref (ad 1)), some (.ref (ad 43)), some (.int x2), some (.int y10_3), some (.int y10_4), none] [] σq32 := by
        intro σq32 hGq32 hoq32 hRq32 hx32_0
        refine a_iload C dX6_product_32 rfl ?_
        refine s_sipush C dX6_product_34 (400) (by decide) (fun z18 h19 => ?_)
        refine s_ic_ge C dX6_product_37 (tgt := 94) rfl (fun c20 => ?_) (fun c20 => ?_)
        ·
          refine a_iload_n C dX6_product_94 (i := 3) rfl rfl ?_
          exact a_iret Rt dX6_product_95 (nar_z (by omega)).1 (⟨hGq32, hoq32, hRq32, (show 0 ≤ y10_3.toInt ∧ y10_3.toInt ≤ 1 by intros; omega)⟩)
        ·
          refine a_aload_n C dX6_product_40 (i := 0) rfl rfl ?_
          refine a_get C fl_RX6_53 (i := 1) kd_1 (hid 1 (by decide)) (v := .int (σq32.1 1 6)) rfl dX6_product_41 ?_
          refine a_istore C dX6_product_44 (by decide) rfl (vs1 := [some (.ref (ad 1)), some (.ref (ad 43)), some (.int x2), some (.int y10_3), some (.int y10_4), some (.int (σq32.1 1 6))]) rfl ?_
          refine a_aload_n C dX6_product_46 (i := 0) rfl rfl ?_
          refine a_iload C dX6_product_47 rfl ?_
          refine a_callVi C (i := 1) kd_1 (hid 1 (by decide)) ⟨_, _, rfl⟩ (by decide) (S_X6_take_1 (x1 := (σq32.1 1 6)) hid hGq32 hRq32) mi_X6_take ml_RX6_77 rfl rfl (Nat.le_of_ble_eq_true rfl) (Nat.le_of_ble_eq_true rfl) (Nat.le_of_ble_eq_true rfl) dX6_product_49 (fun z21 σ22 q23 => ?_)
          obtain ⟨hG24, ho25, hR26, w27, w28, w29⟩ := q23
          refine s_if_eq C dX6_product_52 (tgt := 68) rfl (fun c30 => ?_) (fun c30 => ?_)
          ·
            refine AW.sub (vs' := [some (.ref (ad 1)), some (.ref (ad 43)), some (.int x2), none, some (.int y10_4), some (.int (σq32.1 1 6))]) (lsub_of (by simp [lsubB])) ?_
            exact j68 _ (σq32.1 1 6) hG24 (ony.tr hoq32 (ony.mono ho25 (by decide))) hR26 (by omega)
          ·
            refine a_aload_n C dX6_product_55 (i := 0) rfl rfl ?_
            refine a_aload_n C dX6_product_56 (i := 1) rfl rfl ?_
            refine a_iload_n C dX6_product_57 (i := 2) rfl rfl ?_
            refine a_callVi C (i := 1) kd_1 (hid 1 (by decide)) ⟨_, _, rfl⟩ (by decide) (S_X6_unit_1_43_w6 (x2 := x2) hid hG24 hR26 (by omega)) mi_X6_unit ml_RX6_147 rfl rfl (Nat.le_of_ble_eq_true rfl) (Nat.le_of_ble_eq_true rfl) (Nat.le_of_ble_eq_true rfl) dX6_product_58 (fun z31 σ32 q33 => ?_)
            obtain ⟨hG34, ho35, hR36, w37⟩ := q33
            refine s_if_eq C dX6_product_61 (tgt := 68) rfl (fun c38 => ?_) (fun c38 => ?_)
            ·
              refine AW.sub (vs' := [some (.ref (ad 1)), some (.ref (ad 43)), some (.int x2), none, some (.int y10_4), some (.int (σq32.1 1 6))]) (lsub_of (by simp [lsubB])) ?_
              exact j68 _ (σq32.1 1 6) hG34 (ony.tr (ony.tr hoq32 (ony.mono ho25 (by decide))) (ony.mono ho35 (by decide))) hR36 (by omega)
            ·
              refine s_iconst C dX6_product_64 (1) (by decide) (fun z39 h40 => ?_)
              refine a_goto C dX6_product_65 (tgt := 69) rfl ?_
              refine AW.sub (vs' := [some (.ref (ad 1)), some (.ref (ad 43)), some (.int x2), none, some (.int y10_4), some (.int (σq32.1 1 6))]) (lsub_of (by simp [lsubB])) ?_
              exact j69 _ (σq32.1 1 6) z39 hG34 (ony.tr (ony.tr hoq32 (ony.mono ho25 (by decide))) (ony.mono ho35 (by decide))) hR36 (by omega) (by omega)
      refine a_iload_n C dX6_product_10 (i := 3) rfl rfl ?_
      refine s_if_eq C dX6_product_11 (tgt := 94) rfl (fun c41 => ?_) (fun c41 => ?_)
      ·
        refine a_iload_n C dX6_product_94 (i := 3) rfl rfl ?_
        exact a_iret Rt dX6_product_95 (nar_z (by omega)).1 (⟨hGq10, hoq10, hRq10, (show 0 ≤ y10_3.toInt ∧ y10_3.toInt ≤ 1 by intros; omega)⟩)
      ·
        refine a_aload_n C dX6_product_14 (i := 0) rfl rfl ?_
        refine a_get C fl_RX6_53 (i := 1) kd_1 (hid 1 (by decide)) (v := .int (σq10.1 1 6)) rfl dX6_product_15 ?_
        refine s_bipush C dX6_product_18 (42) (by decide) (fun z42 h43 => ?_)
        refine s_ic_eq C dX6_product_20 (tgt := 32) rfl (fun c44 => ?_) (fun c44 => ?_)
        ·
          exact j32 _ hGq10 hoq10 hRq10 (by omega)
        ·
          refine a_aload_n C dX6_product_23 (i := 0) rfl rfl ?_
          refine a_get C fl_RX6_53 (i := 1) kd_1 (hid 1 (by decide)) (v := .int (σq10.1 1 6)) rfl dX6_product_24 ?_
          refine s_bipush C dX6_product_27 (47) (by decide) (fun z45 h46 => ?_)
          refine s_ic_ne C dX6_product_29 (tgt := 94) rfl (fun c47 => ?_) (fun c47 => ?_)
          ·
            refine a_iload_n C dX6_product_94 (i := 3) rfl rfl ?_
            exact a_iret Rt dX6_product_95 (nar_z (by omega)).1 (⟨hGq10, hoq10, hRq10, (show 0 ≤ y10_3.toInt ∧ y10_3.toInt ≤ 1 by intros; omega)⟩)
          ·
            exact j32 _ hGq10 hoq10 hRq10 (by omega)
  refine a_aload_n C dX6_product_0 (i := 0) rfl rfl ?_
  refine a_aload_n C dX6_product_1 (i := 1) rfl rfl ?_
  refine a_iload_n C dX6_product_2 (i := 2) rfl rfl ?_
  refine a_callVi C (i := 1) kd_1 (hid 1 (by decide)) ⟨_, _, rfl⟩ (by decide) (S_X6_unit_1_43_w6 (x2 := x2) hid hG hR (by omega)) mi_X6_unit ml_RX6_147 rfl rfl (Nat.le_of_ble_eq_true rfl) (Nat.le_of_ble_eq_true rfl) (Nat.le_of_ble_eq_true rfl) dX6_product_3 (fun z48 σ49 q50 => ?_)
  obtain ⟨hG51, ho52, hR53, w54⟩ := q50
  refine a_istore_n C dX6_product_6 (i := 3) rfl (by decide) rfl (vs1 := [some (.ref (ad 1)), some (.ref (ad 43)), some (.int x2), some (.int z48), none, none]) rfl ?_
  refine s_iconst C dX6_product_7 (0) (by decide) (fun z55 h56 => ?_)
  refine a_istore C dX6_product_8 (by decide) rfl (vs1 := [some (.ref (ad 1)), some (.ref (ad 43)), some (.int x2), some (.int z48), some (.int z55), none]) rfl ?_
  exact j10 100000 _ z48 z55 (by omega) hG51 (ony.tr ony.rf (ony.mono ho52 (by decide))) hR53 (by omega) (by omega)
set_option maxHeartbeats 4000000 in
set_option maxRecDepth 100000 in
theorem S_X6_expression_1_43_w6 {l : Launch} {D : va_G} {ids : List Nat} {ad : Nat → Nat} {ca : Nat → ClassId} {σ : HS} {x2 : Int32} (hid : ∀ i, i < 277 → i ∈ ids) (hG : GIc σ) (hR : RK σ) (hx2 : 6 ≤ x2.toInt ∧ x2.toInt ≤ 6) : Ki l D ids ad ca yX6_expression cX6_expression 6 .boolean 4 90 [.ref (ad 1), .ref (ad 43), .int x2] σ (fun r σ1 => (GIc σ1) ∧ (ony [1, 43, 54] σ σ1) ∧ (RK σ1) ∧ (0 ≤ r.toInt ∧ r.toInt ≤ 1)) := by
  refine Ki.of (by decide) (Nat.le_of_ble_eq_true rfl) 3 (fun Γ C Rt => ?_)
  show AW ids ad ca Γ 0 [some (.ref (ad 1)), some (.ref (ad 43)), some (.int x2), none, none, none] [] σ
  have j10 : ∀ (d10 : Nat) (σq10 : HS) (y10_3 : Int32) (y10_4 : Int32), 400 - y10_4.toInt < d10 → GIc σq10 → ony [1, 43, 54] σ σq10 → RK σq10 → 0 ≤ y10_3.toInt ∧ y10_3.toInt ≤ 1 → 0 ≤ y10_4.toInt ∧ y10_4.toInt ≤ 400 → AW ids ad ca Γ 10 [some (.ref (ad 1)), some (.ref (ad 43)), some (.int x2), some (.int y10_3), some (.int y10_4), none] [] σq10 := by
    intro d10
    induction d10 with
    | zero =>
      intro σq10 y10_3 y10_4 hd10 hGq10 hoq10 hRq10 hx10_0 hx10_1
      exfalso
      omega
    | succ d10 ih10 =>
      intro σq10 y10_3 y10_4 hd10 hGq10 hoq10 hRq10 hx10_0 hx10_1
      have j84 : ∀ (σq84 : HS) (y84_3 : Int32) (u84_0 : Int32), GIc σq84 → ony [1, 43, 54] σ σq84 → RK σq84 → 0 ≤ y84_3.toInt ∧ y84_3.toInt ≤ 1 → -2 ≤ u84_0.toInt ∧ u84_0.toInt ≤ -1 → 0 ≤ y10_4.toInt ∧ y10_4.toInt ≤ 399 → AW ids ad ca Γ 84 [some (.ref (ad 1)), some (.ref (ad 43)), some (.int x2), some (.int y84_3), some (.int y10_4), none] [.int u84_0, .ref (ad 43)] σq84 := by
        intro σq84 y84_3 u84_0 hGq84 hoq84 hRq84 hx84_0 hx84_1 hx84_2
        refine a_callVv C (i := 43) kd_43 (hid 43 (by decide)) ⟨_, _, rfl⟩ (by decide) (S_X10_emit_43 (x1 := u84_0) hid hGq84) mi_X10_emit ml_RX6_138 rfl rfl (Nat.le_of_ble_eq_true rfl) (Nat.le_of_ble_eq_true rfl) (Nat.le_of_ble_eq_true rfl) dX6_expression_84 (fun σ2 q3 => ?_)
        obtain ⟨hG4, ho5⟩ := q3
        have hR6 := RK.ony hRq84 ho5 (by decide) (by decide)
        refine s_iinc C dX6_expression_87 rfl (1) (by decide) (by omega) (by decide) rfl (fun z7 h8 => ?_)
        show AW ids ad ca Γ 90 [some (.ref (ad 1)), some (.ref (ad 43)), some (.int x2), some (.int y84_3), some (.int z7), none] _ _
        refine a_goto C dX6_expression_90 (tgt := 10) rfl ?_
        exact ih10 _ y84_3 z7 (by omega) hG4 (ony.tr hoq84 (ony.mono ho5 (by decide))) hR6 (by omega) (by omega)
      have j69 : ∀ (σq69 : HS) (y69_5 : Int32) (u69_0 : Int32), GIc σq69 → ony [1, 43, 54] σ σq69 → RK σq69 → 0 ≤ u69_0.toInt ∧ u69_0.toInt ≤ 1 → 0 ≤ y10_4.toInt ∧ y10_4.toInt ≤ 399 → AW ids ad ca Γ 69 [some (.ref (ad 1)), some (.ref (ad 43)), some (.int x2), none, some (.int y10_4), some (.int y69_5)] [.int u69_0] σq69 := by
        intro σq69 y69_5 u69_0 hGq69 hoq69 hRq69 hx69_0 hx69_1
        refine a_istore_n C dX6_expression_69 (i := 3) rfl (by decide) rfl (vs1 := [some (.ref (ad 1)), some (.ref (ad 43)), some (.int x2), some (.int u69_0), some (.int y10_4), some (.int y69_5)]) rfl ?_
        refine a_aload_n C dX6_expression_70 (i := 1) rfl rfl ?_
        refine a_iload C dX6_expression_71 rfl ?_
        refine s_bipush C dX6_expression_73 (43) (by decide) (fun z9 h10 => ?_)
        refine s_ic_ne C dX6_expression_75 (tgt := 82) rfl (fun c11 => ?_) (fun c11 => ?_)
        ·
          refine s_bipush C dX6_expression_82 (-2) (by decide) (fun z12 h13 => ?_)
          refine AW.sub (vs' := [some (.ref (ad 1)), some (.ref (ad 43)), some (.int x2), some (.int u69_0), some (.int y10_4), none]) (lsub_of (by simp [lsubB])) ?_
          exact j84 _ u69_0 z12 hGq69 hoq69 hRq69 (by omega) (by omega) (by omega)
        ·
          refine s_iconst C dX6_expression_78 (-1) (by decide) (fun z14 h15 => ?_)
          refine a_goto C dX6_expression_79 (tgt := 84) rfl ?_
          refine AW.sub (vs' := [some (.ref (ad 1)), some (.ref (ad 43)), some (.int x2), some (.int u69_0), some (.int y10_4), none]) (lsub_of (by simp [lsubB])) ?_
          exact j84 _ u69_0 z14 hGq69 hoq69 hRq69 (by omega) (by omega) (by omega)
      have j68 : ∀ (σq68 : HS) (y68_5 : Int32), GIc σq68 → ony [1, 43, 54] σ σq68 → RK σq68 → 0 ≤ y10_4.toInt ∧ y10_4.toInt ≤ 399 → AW ids ad ca Γ 68 [some (.ref (ad 1)), some (.ref (ad 43)), some (.int x2), none, some (.int y10_4), some (.int y68_5)] [] σq68 := by
        intro σq68 y68_5 hGq68 hoq68 hRq68 hx68_0
        refine s_iconst C dX6_expression_68 (0) (by decide) (fun z16 h17 => ?_)
        exact j69 _ y68_5 z16 hGq68 hoq68 hRq68 (by omega) (by omega)
      have j32 : ∀ (σq32 : HS), GIc σq32 → ony [1, 43, 54] σ σq32 → RK σq32 → 1 ≤ y10_3.toInt ∧ y10_3.toInt ≤ 1 → AW ids ad ca Γ 32 [some (.ref (ad 1)), some (.ref (ad 43)), some (.int x2), some (.int y10_3), some (.int y10_4), none] [] σq32 := by
        intro σq32 hGq32 hoq32 hRq32 hx32_0
        refine a_iload C dX6_expression_32 rfl ?_
        refine s_sipush C dX6_expression_34 (400) (by decide) (fun z18 h19 => ?_)
        refine s_ic_ge C dX6_expression_37 (tgt := 93) rfl (fun c20 => ?_) (fun c20 => ?_)
        ·
          refine a_iload_n C dX6_expression_93 (i := 3) rfl rfl ?_
          exact a_iret Rt dX6_expression_94 (nar_z (by omega)).1 (⟨hGq32, hoq32, hRq32, (show 0 ≤ y10_3.toInt ∧ y10_3.toInt ≤ 1 by intros; omega)⟩)
        ·
          refine a_aload_n C dX6_expression_40 (i := 0) rfl rfl ?_
          refine a_get C fl_RX6_53 (i := 1) kd_1 (hid 1 (by decide)) (v := .int (σq32.1 1 6)) rfl dX6_expression_41 ?_
          refine a_istore C dX6_expression_44 (by decide) rfl (vs1 := [some (.ref (ad 1)), some (.ref (ad 43)), some (.int x2), some (.int y10_3), some (.int y10_4), some (.int (σq32.1 1 6))]) rfl ?_
          refine a_aload_n C dX6_expression_46 (i := 0) rfl rfl ?_
          refine a_iload C dX6_expression_47 rfl ?_
          refine a_callVi C (i := 1) kd_1 (hid 1 (by decide)) ⟨_, _, rfl⟩ (by decide) (S_X6_take_1 (x1 := (σq32.1 1 6)) hid hGq32 hRq32) mi_X6_take ml_RX6_77 rfl rfl (Nat.le_of_ble_eq_true rfl) (Nat.le_of_ble_eq_true rfl) (Nat.le_of_ble_eq_true rfl) dX6_expression_49 (fun z21 σ22 q23 => ?_)
          obtain ⟨hG24, ho25, hR26, w27, w28, w29⟩ := q23
          refine s_if_eq C dX6_expression_52 (tgt := 68) rfl (fun c30 => ?_) (fun c30 => ?_)
          ·
            refine AW.sub (vs' := [some (.ref (ad 1)), some (.ref (ad 43)), some (.int x2), none, some (.int y10_4), some (.int (σq32.1 1 6))]) (lsub_of (by simp [lsubB])) ?_
            exact j68 _ (σq32.1 1 6) hG24 (ony.tr hoq32 (ony.mono ho25 (by decide))) hR26 (by omega)
          ·
            refine a_aload_n C dX6_expression_55 (i := 0) rfl rfl ?_
            refine a_aload_n C dX6_expression_56 (i := 1) rfl rfl ?_
            refine a_iload_n C dX6_expression_57 (i := 2) rfl rfl ?_
            refine a_callVi C (i := 1) kd_1 (hid 1 (by decide)) ⟨_, _, rfl⟩ (by decide) (S_X6_product_1_43_w6 (x2 := x2) hid hG24 hR26 (by omega)) mi_X6_product ml_RX6_144 rfl rfl (Nat.le_of_ble_eq_true rfl) (Nat.le_of_ble_eq_true rfl) (Nat.le_of_ble_eq_true rfl) dX6_expression_58 (fun z31 σ32 q33 => ?_)
            obtain ⟨hG34, ho35, hR36, w37⟩ := q33
            refine s_if_eq C dX6_expression_61 (tgt := 68) rfl (fun c38 => ?_) (fun c38 => ?_)
            ·
              refine AW.sub (vs' := [some (.ref (ad 1)), some (.ref (ad 43)), some (.int x2), none, some (.int y10_4), some (.int (σq32.1 1 6))]) (lsub_of (by simp [lsubB])) ?_
              exact j68 _ (σq32.1 1 6) hG34 (ony.tr (ony.tr hoq32 (ony.mono ho25 (by decide))) (ony.mono ho35 (by decide))) hR36 (by omega)
            ·
              refine s_iconst C dX6_expression_64 (1) (by decide) (fun z39 h40 => ?_)
              refine a_goto C dX6_expression_65 (tgt := 69) rfl ?_
              refine AW.sub (vs' := [some (.ref (ad 1)), some (.ref (ad 43)), some (.int x2), none, some (.int y10_4), some (.int (σq32.1 1 6))]) (lsub_of (by simp [lsubB])) ?_
              exact j69 _ (σq32.1 1 6) z39 hG34 (ony.tr (ony.tr hoq32 (ony.mono ho25 (by decide))) (ony.mono ho35 (by decide))) hR36 (by omega) (by omega)
      refine a_iload_n C dX6_expression_10 (i := 3) rfl rfl ?_
      refine s_if_eq C dX6_expression_11 (tgt := 93) rfl (fun c41 => ?_) (fun c41 => ?_)
      ·
        refine a_iload_n C dX6_expression_93 (i := 3) rfl rfl ?_
        exact a_iret Rt dX6_expression_94 (nar_z (by omega)).1 (⟨hGq10, hoq10, hRq10, (show 0 ≤ y10_3.toInt ∧ y10_3.toInt ≤ 1 by intros; omega)⟩)
      ·
        refine a_aload_n C dX6_expression_14 (i := 0) rfl rfl ?_
        refine a_get C fl_RX6_53 (i := 1) kd_1 (hid 1 (by decide)) (v := .int (σq10.1 1 6)) rfl dX6_expression_15 ?_
        refine s_bipush C dX6_expression_18 (43) (by decide) (fun z42 h43 => ?_)
        refine s_ic_eq C dX6_expression_20 (tgt := 32) rfl (fun c44 => ?_) (fun c44 => ?_)
        ·
          exact j32 _ hGq10 hoq10 hRq10 (by omega)
        ·
          refine a_aload_n C dX6_expression_23 (i := 0) rfl rfl ?_
          refine a_get C fl_RX6_53 (i := 1) kd_1 (hid 1 (by decide)) (v := .int (σq10.1 1 6)) rfl dX6_expression_24 ?_
          refine s_bipush C dX6_expression_27 (45) (by decide) (fun z45 h46 => ?_)
          refine s_ic_ne C dX6_expression_29 (tgt := 93) rfl (fun c47 => ?_) (fun c47 => ?_)
          ·
            refine a_iload_n C dX6_expression_93 (i := 3) rfl rfl ?_
            exact a_iret Rt dX6_expression_94 (nar_z (by omega)).1 (⟨hGq10, hoq10, hRq10, (show 0 ≤ y10_3.toInt ∧ y10_3.toInt ≤ 1 by intros; omega)⟩)
          ·
            exact j32 _ hGq10 hoq10 hRq10 (by omega)
  refine a_aload_n C dX6_expression_0 (i := 0) rfl rfl ?_
  refine a_aload_n C dX6_expression_1 (i := 1) rfl rfl ?_
  refine a_iload_n C dX6_expression_2 (i := 2) rfl rfl ?_
  refine a_callVi C (i := 1) kd_1 (hid 1 (by decide)) ⟨_, _, rfl⟩ (by decide) (S_X6_product_1_43_w6 (x2 := x2) hid hG hR (by omega)) mi_X6_product ml_RX6_144 rfl rfl (Nat.le_of_ble_eq_true rfl) (Nat.le_of_ble_eq_true rfl) (Nat.le_of_ble_eq_true rfl) dX6_expression_3 (fun z48 σ49 q50 => ?_)
  obtain ⟨hG51, ho52, hR53, w54⟩ := q50
  refine a_istore_n C dX6_expression_6 (i := 3) rfl (by decide) rfl (vs1 := [some (.ref (ad 1)), some (.ref (ad 43)), some (.int x2), some (.int z48), none, none]) rfl ?_
  refine s_iconst C dX6_expression_7 (0) (by decide) (fun z55 h56 => ?_)
  refine a_istore C dX6_expression_8 (by decide) rfl (vs1 := [some (.ref (ad 1)), some (.ref (ad 43)), some (.int x2), some (.int z48), some (.int z55), none]) rfl ?_
  exact j10 100000 _ z48 z55 (by omega) hG51 (ony.tr ony.rf (ony.mono ho52 (by decide))) hR53 (by omega) (by omega)
set_option maxHeartbeats 4000000 in
set_option maxRecDepth 100000 in
theorem S_X6_unit_1_43_w5 {l : Launch} {D : va_G} {ids : List Nat} {ad : Nat → Nat} {ca : Nat → ClassId} {σ : HS} {x2 : Int32} (hid : ∀ i, i < 277 → i ∈ ids) (hG : GIc σ) (hR : RK σ) (hx2 : 5 ≤ x2.toInt ∧ x2.toInt ≤ 5) : Ki l D ids ad ca yX6_unit cX6_unit 4 .boolean 5 115 [.ref (ad 1), .ref (ad 43), .int x2] σ (fun r σ1 => (GIc σ1) ∧ (ony [1, 43, 54] σ σ1) ∧ (RK σ1) ∧ (0 ≤ r.toInt ∧ r.toInt ≤ 1)) := by
  refine Ki.of (by decide) (Nat.le_of_ble_eq_true rfl) 1 (fun Γ C Rt => ?_)
  show AW ids ad ca Γ 0 [some (.ref (ad 1)), some (.ref (ad 43)), some (.int x2), none] [] σ
  have j88 : ∀ (σq88 : HS), GIc σq88 → ony [1, 43, 54] σ σq88 → RK σq88 → AW ids ad ca Γ 88 [some (.ref (ad 1)), some (.ref (ad 43)), some (.int x2), none] [] σq88 := by
    intro σq88 hGq88 hoq88 hRq88
    refine a_aload_n C dX6_unit_88 (i := 0) rfl rfl ?_
    refine s_bipush C dX6_unit_89 (40) (by decide) (fun z1 h2 => ?_)
    refine a_callVi C (i := 1) kd_1 (hid 1 (by decide)) ⟨_, _, rfl⟩ (by decide) (S_X6_take_1 (x1 := z1) hid hGq88 hRq88) mi_X6_take ml_RX6_77 rfl rfl (Nat.le_of_ble_eq_true rfl) (Nat.le_of_ble_eq_true rfl) (Nat.le_of_ble_eq_true rfl) dX6_unit_91 (fun z3 σ4 q5 => ?_)
    obtain ⟨hG6, ho7, hR8, w9, w10, w11⟩ := q5
    refine s_if_eq C dX6_unit_94 (tgt := 121) rfl (fun c12 => ?_) (fun c12 => ?_)
    ·
      refine s_iconst C dX6_unit_121 (0) (by decide) (fun z13 h14 => ?_)
      exact a_iret Rt dX6_unit_122 (nar_z (by omega)).1 (⟨hG6, (ony.tr hoq88 (ony.mono ho7 (by decide))), hR8, (show 0 ≤ z13.toInt ∧ z13.toInt ≤ 1 by intros; omega)⟩)
    ·
      refine a_aload_n C dX6_unit_97 (i := 0) rfl rfl ?_
      refine a_aload_n C dX6_unit_98 (i := 1) rfl rfl ?_
      refine a_iload_n C dX6_unit_99 (i := 2) rfl rfl ?_
      refine s_iconst C dX6_unit_100 (1) (by decide) (fun z15 h16 => ?_)
      refine s_iadd C dX6_unit_101 (by omega) (fun z17 h18 => ?_)
      refine a_callVi C (i := 1) kd_1 (hid 1 (by decide)) ⟨_, _, rfl⟩ (by decide) (S_X6_expression_1_43_w6 (x2 := z17) hid hG6 hR8 (by omega)) mi_X6_expression ml_RX6_135 rfl rfl (Nat.le_of_ble_eq_true rfl) (Nat.le_of_ble_eq_true rfl) (Nat.le_of_ble_eq_true rfl) dX6_unit_102 (fun z19 σ20 q21 => ?_)
      obtain ⟨hG22, ho23, hR24, w25⟩ := q21
      refine s_if_eq C dX6_unit_105 (tgt := 121) rfl (fun c26 => ?_) (fun c26 => ?_)
      ·
        refine s_iconst C dX6_unit_121 (0) (by decide) (fun z27 h28 => ?_)
        exact a_iret Rt dX6_unit_122 (nar_z (by omega)).1 (⟨hG22, (ony.tr (ony.tr hoq88 (ony.mono ho7 (by decide))) (ony.mono ho23 (by decide))), hR24, (show 0 ≤ z27.toInt ∧ z27.toInt ≤ 1 by intros; omega)⟩)
      ·
        refine a_aload_n C dX6_unit_108 (i := 0) rfl rfl ?_
        refine s_bipush C dX6_unit_109 (41) (by decide) (fun z29 h30 => ?_)
        refine a_callVi C (i := 1) kd_1 (hid 1 (by decide)) ⟨_, _, rfl⟩ (by decide) (S_X6_take_1 (x1 := z29) hid hG22 hR24) mi_X6_take ml_RX6_77 rfl rfl (Nat.le_of_ble_eq_true rfl) (Nat.le_of_ble_eq_true rfl) (Nat.le_of_ble_eq_true rfl) dX6_unit_111 (fun z31 σ32 q33 => ?_)
        obtain ⟨hG34, ho35, hR36, w37, w38, w39⟩ := q33
        refine s_if_eq C dX6_unit_114 (tgt := 121) rfl (fun c40 => ?_) (fun c40 => ?_)
        ·
          refine s_iconst C dX6_unit_121 (0) (by decide) (fun z41 h42 => ?_)
          exact a_iret Rt dX6_unit_122 (nar_z (by omega)).1 (⟨hG34, (ony.tr (ony.tr (ony.tr hoq88 (ony.mono ho7 (by decide))) (ony.mono ho23 (by decide))) (ony.mono ho35 (by decide))), hR36, (show 0 ≤ z41.toInt ∧ z41.toInt ≤ 1 by intros; omega)⟩)
        ·
          refine s_iconst C dX6_unit_117 (1) (by decide) (fun z43 h44 => ?_)
          refine a_goto C dX6_unit_118 (tgt := 122) rfl ?_
          exact a_iret Rt dX6_unit_122 (nar_z (by omega)).1 (⟨hG34, (ony.tr (ony.tr (ony.tr hoq88 (ony.mono ho7 (by decide))) (ony.mono ho23 (by decide))) (ony.mono ho35 (by decide))), hR36, (show 0 ≤ z43.toInt ∧ z43.toInt ≤ 1 by intros; omega)⟩)
  have j67 : ∀ (σq67 : HS), GIc σq67 → ony [1, 43, 54] σ σq67 → RK σq67 → AW ids ad ca Γ 67 [some (.ref (ad 1)), some (.ref (ad 43)), some (.int x2), none] [] σq67 := by
    intro σq67 hGq67 hoq67 hRq67
    refine a_aload_n C dX6_unit_67 (i := 0) rfl rfl ?_
    refine a_get C fl_RX6_53 (i := 1) kd_1 (hid 1 (by decide)) (v := .int (σq67.1 1 6)) rfl dX6_unit_68 ?_
    refine s_bipush C dX6_unit_71 (40) (by decide) (fun z45 h46 => ?_)
    refine s_ic_ne C dX6_unit_73 (tgt := 88) rfl (fun c47 => ?_) (fun c47 => ?_)
    ·
      exact j88 _ hGq67 hoq67 hRq67
    ·
      refine a_iload_n C dX6_unit_76 (i := 2) rfl rfl ?_
      refine s_bipush C dX6_unit_77 (6) (by decide) (fun z48 h49 => ?_)
      refine s_ic_lt C dX6_unit_79 (tgt := 88) rfl (fun c50 => ?_) (fun c50 => absurd c50 (by omega))
      exact j88 _ hGq67 hoq67 hRq67
  refine a_aload_n C dX6_unit_0 (i := 0) rfl rfl ?_
  refine a_get C fl_RX6_53 (i := 1) kd_1 (hid 1 (by decide)) (v := .int (σ.1 1 6)) rfl dX6_unit_1 ?_
  refine s_bipush C dX6_unit_4 (21) (by decide) (fun z51 h52 => ?_)
  refine s_ic_ne C dX6_unit_6 (tgt := 26) rfl (fun c53 => ?_) (fun c53 => ?_)
  ·
    refine a_aload_n C dX6_unit_26 (i := 0) rfl rfl ?_
    refine a_get C fl_RX6_53 (i := 1) kd_1 (hid 1 (by decide)) (v := .int (σ.1 1 6)) rfl dX6_unit_27 ?_
    refine s_bipush C dX6_unit_30 (11) (by decide) (fun z54 h55 => ?_)
    refine s_ic_lt C dX6_unit_32 (tgt := 67) rfl (fun c56 => ?_) (fun c56 => ?_)
    ·
      exact j67 _ hG ony.rf hR
    ·
      refine a_aload_n C dX6_unit_35 (i := 0) rfl rfl ?_
      refine a_get C fl_RX6_53 (i := 1) kd_1 (hid 1 (by decide)) (v := .int (σ.1 1 6)) rfl dX6_unit_36 ?_
      refine s_bipush C dX6_unit_39 (19) (by decide) (fun z57 h58 => ?_)
      refine s_ic_gt C dX6_unit_41 (tgt := 67) rfl (fun c59 => ?_) (fun c59 => ?_)
      ·
        exact j67 _ hG ony.rf hR
      ·
        refine a_aload_n C dX6_unit_44 (i := 1) rfl rfl ?_
        refine s_bipush C dX6_unit_45 (-10) (by decide) (fun z60 h61 => ?_)
        refine a_aload_n C dX6_unit_47 (i := 0) rfl rfl ?_
        refine a_get C fl_RX6_53 (i := 1) kd_1 (hid 1 (by decide)) (v := .int (σ.1 1 6)) rfl dX6_unit_48 ?_
        refine s_bipush C dX6_unit_51 (11) (by decide) (fun z62 h63 => ?_)
        refine s_isubU C dX6_unit_53 (fun z64 => ?_)
        refine s_isubU C dX6_unit_54 (fun z66 => ?_)
        refine a_callVv C (i := 43) kd_43 (hid 43 (by decide)) ⟨_, _, rfl⟩ (by decide) (S_X10_emit_43 (x1 := z66) hid hG) mi_X10_emit ml_RX6_138 rfl rfl (Nat.le_of_ble_eq_true rfl) (Nat.le_of_ble_eq_true rfl) (Nat.le_of_ble_eq_true rfl) dX6_unit_55 (fun σ69 q70 => ?_)
        obtain ⟨hG71, ho72⟩ := q70
        have hR73 := RK.ony hR ho72 (by decide) (by decide)
        refine a_aload_n C dX6_unit_58 (i := 0) rfl rfl ?_
        refine a_aload_n C dX6_unit_59 (i := 0) rfl rfl ?_
        refine a_get C fl_RX6_53 (i := 1) kd_1 (hid 1 (by decide)) (v := .int (σ69.1 1 6)) rfl dX6_unit_60 ?_
        refine a_callVi C (i := 1) kd_1 (hid 1 (by decide)) ⟨_, _, rfl⟩ (by decide) (S_X6_take_1 (x1 := (σ69.1 1 6)) hid hG71 hR73) mi_X6_take ml_RX6_77 rfl rfl (Nat.le_of_ble_eq_true rfl) (Nat.le_of_ble_eq_true rfl) (Nat.le_of_ble_eq_true rfl) dX6_unit_63 (fun z74 σ75 q76 => ?_)
        obtain ⟨hG77, ho78, hR79, w80, w81, w82⟩ := q76
        exact a_iret Rt dX6_unit_66 (nar_z (by omega)).1 (⟨hG77, (ony.tr (ony.tr ony.rf (ony.mono ho72 (by decide))) (ony.mono ho78 (by decide))), hR79, (show 0 ≤ z74.toInt ∧ z74.toInt ≤ 1 by intros; omega)⟩)
  ·
    refine a_aload_n C dX6_unit_9 (i := 0) rfl rfl ?_
    refine s_bipush C dX6_unit_10 (21) (by decide) (fun z83 h84 => ?_)
    refine a_callVi C (i := 1) kd_1 (hid 1 (by decide)) ⟨_, _, rfl⟩ (by decide) (S_X6_take_1 (x1 := z83) hid hG hR) mi_X6_take ml_RX6_77 rfl rfl (Nat.le_of_ble_eq_true rfl) (Nat.le_of_ble_eq_true rfl) (Nat.le_of_ble_eq_true rfl) dX6_unit_12 (fun z85 σ86 q87 => ?_)
    obtain ⟨hG88, ho89, hR90, w91, w92, w93⟩ := q87
    refine a_istore_n C dX6_unit_15 (i := 3) rfl (by decide) rfl (vs1 := [some (.ref (ad 1)), some (.ref (ad 43)), some (.int x2), some (.int z85)]) rfl ?_
    refine a_aload_n C dX6_unit_16 (i := 1) rfl rfl ?_
    refine a_aload_n C dX6_unit_17 (i := 0) rfl rfl ?_
    refine a_get C fl_RX6_67 (i := 1) kd_1 (hid 1 (by decide)) (v := .int (σ86.1 1 7)) rfl dX6_unit_18 ?_
    refine a_callVv C (i := 43) kd_43 (hid 43 (by decide)) ⟨_, _, rfl⟩ (by decide) (S_X10_emit_43 (x1 := (σ86.1 1 7)) hid hG88) mi_X10_emit ml_RX6_138 rfl rfl (Nat.le_of_ble_eq_true rfl) (Nat.le_of_ble_eq_true rfl) (Nat.le_of_ble_eq_true rfl) dX6_unit_21 (fun σ95 q96 => ?_)
    obtain ⟨hG97, ho98⟩ := q96
    have hR99 := RK.ony hR90 ho98 (by decide) (by decide)
    refine a_iload_n C dX6_unit_24 (i := 3) rfl rfl ?_
    exact a_iret Rt dX6_unit_25 (nar_z (by omega)).1 (⟨hG97, (ony.tr (ony.tr ony.rf (ony.mono ho89 (by decide))) (ony.mono ho98 (by decide))), hR99, (show 0 ≤ z85.toInt ∧ z85.toInt ≤ 1 by intros; omega)⟩)
set_option maxHeartbeats 4000000 in
set_option maxRecDepth 100000 in
theorem S_X6_product_1_43_w5 {l : Launch} {D : va_G} {ids : List Nat} {ad : Nat → Nat} {ca : Nat → ClassId} {σ : HS} {x2 : Int32} (hid : ∀ i, i < 277 → i ∈ ids) (hG : GIc σ) (hR : RK σ) (hx2 : 5 ≤ x2.toInt ∧ x2.toInt ≤ 5) : Ki l D ids ad ca yX6_product cX6_product 6 .boolean 6 138 [.ref (ad 1), .ref (ad 43), .int x2] σ (fun r σ1 => (GIc σ1) ∧ (ony [1, 43, 54] σ σ1) ∧ (RK σ1) ∧ (0 ≤ r.toInt ∧ r.toInt ≤ 1)) := by
  refine Ki.of (by decide) (Nat.le_of_ble_eq_true rfl) 3 (fun Γ C Rt => ?_)
  show AW ids ad ca Γ 0 [some (.ref (ad 1)), some (.ref (ad 43)), some (.int x2), none, none, none] [] σ
  have j10 : ∀ (d10 : Nat) (σq10 : HS) (y10_3 : Int32) (y10_4 : Int32), 400 - y10_4.toInt < d10 → GIc σq10 → ony [1, 43, 54] σ σq10 → RK σq10 → 0 ≤ y10_3.toInt ∧ y10_3.toInt ≤ 1 → 0 ≤ y10_4.toInt ∧ y10_4.toInt ≤ 400 → AW ids ad ca Γ 10 [some (.ref (ad 1)), some (.ref (ad 43)), some (.int x2), some (.int y10_3), some (.int y10_4), none] [] σq10 := by
    intro d10
    induction d10 with
    | zero =>
      intro σq10 y10_3 y10_4 hd10 hGq10 hoq10 hRq10 hx10_0 hx10_1
      exfalso
      omega
    | succ d10 ih10 =>
      intro σq10 y10_3 y10_4 hd10 hGq10 hoq10 hRq10 hx10_0 hx10_1
      have j85 : ∀ (σq85 : HS) (y85_3 : Int32) (u85_0 : Int32), GIc σq85 → ony [1, 43, 54] σ σq85 → RK σq85 → 0 ≤ y85_3.toInt ∧ y85_3.toInt ≤ 1 → -4 ≤ u85_0.toInt ∧ u85_0.toInt ≤ -3 → 0 ≤ y10_4.toInt ∧ y10_4.toInt ≤ 399 → AW ids ad ca Γ 85 [some (.ref (ad 1)), some (.ref (ad 43)), some (.int x2), some (.int y85_3), some (.int y10_4), none] [.int u85_0, .ref (ad 43)] σq85 := by
        intro σq85 y85_3 u85_0 hGq85 hoq85 hRq85 hx85_0 hx85_1 hx85_2
        refine a_callVv C (i := 43) kd_43 (hid 43 (by decide)) ⟨_, _, rfl⟩ (by decide) (S_X10_emit_43 (x1 := u85_0) hid hGq85) mi_X10_emit ml_RX6_138 rfl rfl (Nat.le_of_ble_eq_true rfl) (Nat.le_of_ble_eq_true rfl) (Nat.le_of_ble_eq_true rfl) dX6_product_85 (fun σ2 q3 => ?_)
        obtain ⟨hG4, ho5⟩ := q3
        have hR6 := RK.ony hRq85 ho5 (by decide) (by decide)
        refine s_iinc C dX6_product_88 rfl (1) (by decide) (by omega) (by decide) rfl (fun z7 h8 => ?_)
        show AW ids ad ca Γ 91 [some (.ref (ad 1)), some (.ref (ad 43)), some (.int x2), some (.int y85_3), some (.int z7), none] _ _
        refine a_goto C dX6_product_91 (tgt := 10) rfl ?_
        exact ih10 _ y85_3 z7 (by omega) hG4 (ony.tr hoq85 (ony.mono ho5 (by decide))) hR6 (by omega) (by omega)
      have j69 : ∀ (σq69 : HS) (y69_5 : Int32) (u69_0 : Int32), GIc σq69 → ony [1, 43, 54] σ σq69 → RK σq69 → 0 ≤ u69_0.toInt ∧ u69_0.toInt ≤ 1 → 0 ≤ y10_4.toInt ∧ y10_4.toInt ≤ 399 → AW ids ad ca Γ 69 [some (.ref (ad 1)), some (.ref (ad 43)), some (.int x2), none, some (.int y10_4), some (.int y69_5)] [.int u69_0] σq69 := by
        intro σq69 y69_5 u69_0 hGq69 hoq69 hRq69 hx69_0 hx69_1
        refine a_istore_n C dX6_product_69 (i := 3) rfl (by decide) rfl (vs1 := [some (.ref (ad 1)), some (.ref (ad 43)), some (.int x2), some (.int u69_0), some (.int y10_4), some (.int y69_5)]) rfl ?_
        refine a_aload_n C dX6_product_70 (i := 1) rfl rfl ?_
        refine a_iload C dX6_product_71 rfl ?_
        refine s_bipush C dX6_product_73 (42) (by decide) (fun z9 h10 => ?_)
        refine s_ic_ne C dX6_product_75 (tgt := 83) rfl (fun c11 => ?_) (fun c11 => ?_)
        ·
          refine s_bipush C dX6_product_83 (-4) (by decide) (fun z12 h13 => ?_)
          refine AW.sub (vs' := [some (.ref (ad 1)), some (.ref (ad 43)), some (.int x2), some (.int u69_0), some (.int y10_4), none]) (lsub_of (by simp [lsubB])) ?_
          exact j85 _ u69_0 z12 hGq69 hoq69 hRq69 (by omega) (by omega) (by omega)
        ·
          refine s_bipush C dX6_product_78 (-3) (by decide) (fun z14 h15 => ?_)
          refine a_goto C dX6_product_80 (tgt := 85) rfl ?_
          refine AW.sub (vs' := [some (.ref (ad 1)), some (.ref (ad 43)), some (.int x2), some (.int u69_0), some (.int y10_4), none]) (lsub_of (by simp [lsubB])) ?_
          exact j85 _ u69_0 z14 hGq69 hoq69 hRq69 (by omega) (by omega) (by omega)
      have j68 : ∀ (σq68 : HS) (y68_5 : Int32), GIc σq68 → ony [1, 43, 54] σ σq68 → RK σq68 → 0 ≤ y10_4.toInt ∧ y10_4.toInt ≤ 399 → AW ids ad ca Γ 68 [some (.ref (ad 1)), some (.ref (ad 43)), some (.int x2), none, some (.int y10_4), some (.int y68_5)] [] σq68 := by
        intro σq68 y68_5 hGq68 hoq68 hRq68 hx68_0
        refine s_iconst C dX6_product_68 (0) (by decide) (fun z16 h17 => ?_)
        exact j69 _ y68_5 z16 hGq68 hoq68 hRq68 (by omega) (by omega)
      have j32 : ∀ (σq32 : HS), GIc σq32 → ony [1, 43, 54] σ σq32 → RK σq32 → 1 ≤ y10_3.toInt ∧ y10_3.toInt ≤ 1 → AW ids ad ca Γ 32 [some (.ref (ad 1)), some (.ref (ad 43)), some (.int x2), some (.int y10_3), some (.int y10_4), none] [] σq32 := by
        intro σq32 hGq32 hoq32 hRq32 hx32_0
        refine a_iload C dX6_product_32 rfl ?_
        refine s_sipush C dX6_product_34 (400) (by decide) (fun z18 h19 => ?_)
        refine s_ic_ge C dX6_product_37 (tgt := 94) rfl (fun c20 => ?_) (fun c20 => ?_)
        ·
          refine a_iload_n C dX6_product_94 (i := 3) rfl rfl ?_
          exact a_iret Rt dX6_product_95 (nar_z (by omega)).1 (⟨hGq32, hoq32, hRq32, (show 0 ≤ y10_3.toInt ∧ y10_3.toInt ≤ 1 by intros; omega)⟩)
        ·
          refine a_aload_n C dX6_product_40 (i := 0) rfl rfl ?_
          refine a_get C fl_RX6_53 (i := 1) kd_1 (hid 1 (by decide)) (v := .int (σq32.1 1 6)) rfl dX6_product_41 ?_
          refine a_istore C dX6_product_44 (by decide) rfl (vs1 := [some (.ref (ad 1)), some (.ref (ad 43)), some (.int x2), some (.int y10_3), some (.int y10_4), some (.int (σq32.1 1 6))]) rfl ?_
          refine a_aload_n C dX6_product_46 (i := 0) rfl rfl ?_
          refine a_iload C dX6_product_47 rfl ?_
          refine a_callVi C (i := 1) kd_1 (hid 1 (by decide)) ⟨_, _, rfl⟩ (by decide) (S_X6_take_1 (x1 := (σq32.1 1 6)) hid hGq32 hRq32) mi_X6_take ml_RX6_77 rfl rfl (Nat.le_of_ble_eq_true rfl) (Nat.le_of_ble_eq_true rfl) (Nat.le_of_ble_eq_true rfl) dX6_product_49 (fun z21 σ22 q23 => ?_)
          obtain ⟨hG24, ho25, hR26, w27, w28, w29⟩ := q23
          refine s_if_eq C dX6_product_52 (tgt := 68) rfl (fun c30 => ?_) (fun c30 => ?_)
          ·
            refine AW.sub (vs' := [some (.ref (ad 1)), some (.ref (ad 43)), some (.int x2), none, some (.int y10_4), some (.int (σq32.1 1 6))]) (lsub_of (by simp [lsubB])) ?_
            exact j68 _ (σq32.1 1 6) hG24 (ony.tr hoq32 (ony.mono ho25 (by decide))) hR26 (by omega)
          ·
            refine a_aload_n C dX6_product_55 (i := 0) rfl rfl ?_
            refine a_aload_n C dX6_product_56 (i := 1) rfl rfl ?_
            refine a_iload_n C dX6_product_57 (i := 2) rfl rfl ?_
            refine a_callVi C (i := 1) kd_1 (hid 1 (by decide)) ⟨_, _, rfl⟩ (by decide) (S_X6_unit_1_43_w5 (x2 := x2) hid hG24 hR26 (by omega)) mi_X6_unit ml_RX6_147 rfl rfl (Nat.le_of_ble_eq_true rfl) (Nat.le_of_ble_eq_true rfl) (Nat.le_of_ble_eq_true rfl) dX6_product_58 (fun z31 σ32 q33 => ?_)
            obtain ⟨hG34, ho35, hR36, w37⟩ := q33
            refine s_if_eq C dX6_product_61 (tgt := 68) rfl (fun c38 => ?_) (fun c38 => ?_)
            ·
              refine AW.sub (vs' := [some (.ref (ad 1)), some (.ref (ad 43)), some (.int x2), none, some (.int y10_4), some (.int (σq32.1 1 6))]) (lsub_of (by simp [lsubB])) ?_
              exact j68 _ (σq32.1 1 6) hG34 (ony.tr (ony.tr hoq32 (ony.mono ho25 (by decide))) (ony.mono ho35 (by decide))) hR36 (by omega)
            ·
              refine s_iconst C dX6_product_64 (1) (by decide) (fun z39 h40 => ?_)
              refine a_goto C dX6_product_65 (tgt := 69) rfl ?_
              refine AW.sub (vs' := [some (.ref (ad 1)), some (.ref (ad 43)), some (.int x2), none, some (.int y10_4), some (.int (σq32.1 1 6))]) (lsub_of (by simp [lsubB])) ?_
              exact j69 _ (σq32.1 1 6) z39 hG34 (ony.tr (ony.tr hoq32 (ony.mono ho25 (by decide))) (ony.mono ho35 (by decide))) hR36 (by omega) (by omega)
      refine a_iload_n C dX6_product_10 (i := 3) rfl rfl ?_
      refine s_if_eq C dX6_product_11 (tgt := 94) rfl (fun c41 => ?_) (fun c41 => ?_)
      ·
        refine a_iload_n C dX6_product_94 (i := 3) rfl rfl ?_
        exact a_iret Rt dX6_product_95 (nar_z (by omega)).1 (⟨hGq10, hoq10, hRq10, (show 0 ≤ y10_3.toInt ∧ y10_3.toInt ≤ 1 by intros; omega)⟩)
      ·
        refine a_aload_n C dX6_product_14 (i := 0) rfl rfl ?_
        refine a_get C fl_RX6_53 (i := 1) kd_1 (hid 1 (by decide)) (v := .int (σq10.1 1 6)) rfl dX6_product_15 ?_
        refine s_bipush C dX6_product_18 (42) (by decide) (fun z42 h43 => ?_)
        refine s_ic_eq C dX6_product_20 (tgt := 32) rfl (fun c44 => ?_) (fun c44 => ?_)
        ·
          exact j32 _ hGq10 hoq10 hRq10 (by omega)
        ·
          refine a_aload_n C dX6_product_23 (i := 0) rfl rfl ?_
          refine a_get C fl_RX6_53 (i := 1) kd_1 (hid 1 (by decide)) (v := .int (σq10.1 1 6)) rfl dX6_product_24 ?_
          refine s_bipush C dX6_product_27 (47) (by decide) (fun z45 h46 => ?_)
          refine s_ic_ne C dX6_product_29 (tgt := 94) rfl (fun c47 => ?_) (fun c47 => ?_)
          ·
            refine a_iload_n C dX6_product_94 (i := 3) rfl rfl ?_
            exact a_iret Rt dX6_product_95 (nar_z (by omega)).1 (⟨hGq10, hoq10, hRq10, (show 0 ≤ y10_3.toInt ∧ y10_3.toInt ≤ 1 by intros; omega)⟩)
          ·
            exact j32 _ hGq10 hoq10 hRq10 (by omega)
  refine a_aload_n C dX6_product_0 (i := 0) rfl rfl ?_
  refine a_aload_n C dX6_product_1 (i := 1) rfl rfl ?_
  refine a_iload_n C dX6_product_2 (i := 2) rfl rfl ?_
  refine a_callVi C (i := 1) kd_1 (hid 1 (by decide)) ⟨_, _, rfl⟩ (by decide) (S_X6_unit_1_43_w5 (x2 := x2) hid hG hR (by omega)) mi_X6_unit ml_RX6_147 rfl rfl (Nat.le_of_ble_eq_true rfl) (Nat.le_of_ble_eq_true rfl) (Nat.le_of_ble_eq_true rfl) dX6_product_3 (fun z48 σ49 q50 => ?_)
  obtain ⟨hG51, ho52, hR53, w54⟩ := q50
  refine a_istore_n C dX6_product_6 (i := 3) rfl (by decide) rfl (vs1 := [some (.ref (ad 1)), some (.ref (ad 43)), some (.int x2), some (.int z48), none, none]) rfl ?_
  refine s_iconst C dX6_product_7 (0) (by decide) (fun z55 h56 => ?_)
  refine a_istore C dX6_product_8 (by decide) rfl (vs1 := [some (.ref (ad 1)), some (.ref (ad 43)), some (.int x2), some (.int z48), some (.int z55), none]) rfl ?_
  exact j10 100000 _ z48 z55 (by omega) hG51 (ony.tr ony.rf (ony.mono ho52 (by decide))) hR53 (by omega) (by omega)
set_option maxHeartbeats 4000000 in
set_option maxRecDepth 100000 in
theorem S_X6_expression_1_43_w5 {l : Launch} {D : va_G} {ids : List Nat} {ad : Nat → Nat} {ca : Nat → ClassId} {σ : HS} {x2 : Int32} (hid : ∀ i, i < 277 → i ∈ ids) (hG : GIc σ) (hR : RK σ) (hx2 : 5 ≤ x2.toInt ∧ x2.toInt ≤ 5) : Ki l D ids ad ca yX6_expression cX6_expression 6 .boolean 7 163 [.ref (ad 1), .ref (ad 43), .int x2] σ (fun r σ1 => (GIc σ1) ∧ (ony [1, 43, 54] σ σ1) ∧ (RK σ1) ∧ (0 ≤ r.toInt ∧ r.toInt ≤ 1)) := by
  refine Ki.of (by decide) (Nat.le_of_ble_eq_true rfl) 3 (fun Γ C Rt => ?_)
  show AW ids ad ca Γ 0 [some (.ref (ad 1)), some (.ref (ad 43)), some (.int x2), none, none, none] [] σ
  have j10 : ∀ (d10 : Nat) (σq10 : HS) (y10_3 : Int32) (y10_4 : Int32), 400 - y10_4.toInt < d10 → GIc σq10 → ony [1, 43, 54] σ σq10 → RK σq10 → 0 ≤ y10_3.toInt ∧ y10_3.toInt ≤ 1 → 0 ≤ y10_4.toInt ∧ y10_4.toInt ≤ 400 → AW ids ad ca Γ 10 [some (.ref (ad 1)), some (.ref (ad 43)), some (.int x2), some (.int y10_3), some (.int y10_4), none] [] σq10 := by
    intro d10
    induction d10 with
    | zero =>
      intro σq10 y10_3 y10_4 hd10 hGq10 hoq10 hRq10 hx10_0 hx10_1
      exfalso
      omega
    | succ d10 ih10 =>
      intro σq10 y10_3 y10_4 hd10 hGq10 hoq10 hRq10 hx10_0 hx10_1
      have j84 : ∀ (σq84 : HS) (y84_3 : Int32) (u84_0 : Int32), GIc σq84 → ony [1, 43, 54] σ σq84 → RK σq84 → 0 ≤ y84_3.toInt ∧ y84_3.toInt ≤ 1 → -2 ≤ u84_0.toInt ∧ u84_0.toInt ≤ -1 → 0 ≤ y10_4.toInt ∧ y10_4.toInt ≤ 399 → AW ids ad ca Γ 84 [some (.ref (ad 1)), some (.ref (ad 43)), some (.int x2), some (.int y84_3), some (.int y10_4), none] [.int u84_0, .ref (ad 43)] σq84 := by
        intro σq84 y84_3 u84_0 hGq84 hoq84 hRq84 hx84_0 hx84_1 hx84_2
        refine a_callVv C (i := 43) kd_43 (hid 43 (by decide)) ⟨_, _, rfl⟩ (by decide) (S_X10_emit_43 (x1 := u84_0) hid hGq84) mi_X10_emit ml_RX6_138 rfl rfl (Nat.le_of_ble_eq_true rfl) (Nat.le_of_ble_eq_true rfl) (Nat.le_of_ble_eq_true rfl) dX6_expression_84 (fun σ2 q3 => ?_)
        obtain ⟨hG4, ho5⟩ := q3
        have hR6 := RK.ony hRq84 ho5 (by decide) (by decide)
        refine s_iinc C dX6_expression_87 rfl (1) (by decide) (by omega) (by decide) rfl (fun z7 h8 => ?_)
        show AW ids ad ca Γ 90 [some (.ref (ad 1)), some (.ref (ad 43)), some (.int x2), some (.int y84_3), some (.int z7), none] _ _
        refine a_goto C dX6_expression_90 (tgt := 10) rfl ?_
        exact ih10 _ y84_3 z7 (by omega) hG4 (ony.tr hoq84 (ony.mono ho5 (by decide))) hR6 (by omega) (by omega)
      have j69 : ∀ (σq69 : HS) (y69_5 : Int32) (u69_0 : Int32), GIc σq69 → ony [1, 43, 54] σ σq69 → RK σq69 → 0 ≤ u69_0.toInt ∧ u69_0.toInt ≤ 1 → 0 ≤ y10_4.toInt ∧ y10_4.toInt ≤ 399 → AW ids ad ca Γ 69 [some (.ref (ad 1)), some (.ref (ad 43)), some (.int x2), none, some (.int y10_4), some (.int y69_5)] [.int u69_0] σq69 := by
        intro σq69 y69_5 u69_0 hGq69 hoq69 hRq69 hx69_0 hx69_1
        refine a_istore_n C dX6_expression_69 (i := 3) rfl (by decide) rfl (vs1 := [some (.ref (ad 1)), some (.ref (ad 43)), some (.int x2), some (.int u69_0), some (.int y10_4), some (.int y69_5)]) rfl ?_
        refine a_aload_n C dX6_expression_70 (i := 1) rfl rfl ?_
        refine a_iload C dX6_expression_71 rfl ?_
        refine s_bipush C dX6_expression_73 (43) (by decide) (fun z9 h10 => ?_)
        refine s_ic_ne C dX6_expression_75 (tgt := 82) rfl (fun c11 => ?_) (fun c11 => ?_)
        ·
          refine s_bipush C dX6_expression_82 (-2) (by decide) (fun z12 h13 => ?_)
          refine AW.sub (vs' := [some (.ref (ad 1)), some (.ref (ad 43)), some (.int x2), some (.int u69_0), some (.int y10_4), none]) (lsub_of (by simp [lsubB])) ?_
          exact j84 _ u69_0 z12 hGq69 hoq69 hRq69 (by omega) (by omega) (by omega)
        ·
          refine s_iconst C dX6_expression_78 (-1) (by decide) (fun z14 h15 => ?_)
          refine a_goto C dX6_expression_79 (tgt := 84) rfl ?_
          refine AW.sub (vs' := [some (.ref (ad 1)), some (.ref (ad 43)), some (.int x2), some (.int u69_0), some (.int y10_4), none]) (lsub_of (by simp [lsubB])) ?_
          exact j84 _ u69_0 z14 hGq69 hoq69 hRq69 (by omega) (by omega) (by omega)
      have j68 : ∀ (σq68 : HS) (y68_5 : Int32), GIc σq68 → ony [1, 43, 54] σ σq68 → RK σq68 → 0 ≤ y10_4.toInt ∧ y10_4.toInt ≤ 399 → AW ids ad ca Γ 68 [some (.ref (ad 1)), some (.ref (ad 43)), some (.int x2), none, some (.int y10_4), some (.int y68_5)] [] σq68 := by
        intro σq68 y68_5 hGq68 hoq68 hRq68 hx68_0
        refine s_iconst C dX6_expression_68 (0) (by decide) (fun z16 h17 => ?_)
        exact j69 _ y68_5 z16 hGq68 hoq68 hRq68 (by omega) (by omega)
      have j32 : ∀ (σq32 : HS), GIc σq32 → ony [1, 43, 54] σ σq32 → RK σq32 → 1 ≤ y10_3.toInt ∧ y10_3.toInt ≤ 1 → AW ids ad ca Γ 32 [some (.ref (ad 1)), some (.ref (ad 43)), some (.int x2), some (.int y10_3), some (.int y10_4), none] [] σq32 := by
        intro σq32 hGq32 hoq32 hRq32 hx32_0
        refine a_iload C dX6_expression_32 rfl ?_
        refine s_sipush C dX6_expression_34 (400) (by decide) (fun z18 h19 => ?_)
        refine s_ic_ge C dX6_expression_37 (tgt := 93) rfl (fun c20 => ?_) (fun c20 => ?_)
        ·
          refine a_iload_n C dX6_expression_93 (i := 3) rfl rfl ?_
          exact a_iret Rt dX6_expression_94 (nar_z (by omega)).1 (⟨hGq32, hoq32, hRq32, (show 0 ≤ y10_3.toInt ∧ y10_3.toInt ≤ 1 by intros; omega)⟩)
        ·
          refine a_aload_n C dX6_expression_40 (i := 0) rfl rfl ?_
          refine a_get C fl_RX6_53 (i := 1) kd_1 (hid 1 (by decide)) (v := .int (σq32.1 1 6)) rfl dX6_expression_41 ?_
          refine a_istore C dX6_expression_44 (by decide) rfl (vs1 := [some (.ref (ad 1)), some (.ref (ad 43)), some (.int x2), some (.int y10_3), some (.int y10_4), some (.int (σq32.1 1 6))]) rfl ?_
          refine a_aload_n C dX6_expression_46 (i := 0) rfl rfl ?_
          refine a_iload C dX6_expression_47 rfl ?_
          refine a_callVi C (i := 1) kd_1 (hid 1 (by decide)) ⟨_, _, rfl⟩ (by decide) (S_X6_take_1 (x1 := (σq32.1 1 6)) hid hGq32 hRq32) mi_X6_take ml_RX6_77 rfl rfl (Nat.le_of_ble_eq_true rfl) (Nat.le_of_ble_eq_true rfl) (Nat.le_of_ble_eq_true rfl) dX6_expression_49 (fun z21 σ22 q23 => ?_)
          obtain ⟨hG24, ho25, hR26, w27, w28, w29⟩ := q23
          refine s_if_eq C dX6_expression_52 (tgt := 68) rfl (fun c30 => ?_) (fun c30 => ?_)
          ·
            refine AW.sub (vs' := [some (.ref (ad 1)), some (.ref (ad 43)), some (.int x2), none, some (.int y10_4), some (.int (σq32.1 1 6))]) (lsub_of (by simp [lsubB])) ?_
            exact j68 _ (σq32.1 1 6) hG24 (ony.tr hoq32 (ony.mono ho25 (by decide))) hR26 (by omega)
          ·
            refine a_aload_n C dX6_expression_55 (i := 0) rfl rfl ?_
            refine a_aload_n C dX6_expression_56 (i := 1) rfl rfl ?_
            refine a_iload_n C dX6_expression_57 (i := 2) rfl rfl ?_
            refine a_callVi C (i := 1) kd_1 (hid 1 (by decide)) ⟨_, _, rfl⟩ (by decide) (S_X6_product_1_43_w5 (x2 := x2) hid hG24 hR26 (by omega)) mi_X6_product ml_RX6_144 rfl rfl (Nat.le_of_ble_eq_true rfl) (Nat.le_of_ble_eq_true rfl) (Nat.le_of_ble_eq_true rfl) dX6_expression_58 (fun z31 σ32 q33 => ?_)
            obtain ⟨hG34, ho35, hR36, w37⟩ := q33
            refine s_if_eq C dX6_expression_61 (tgt := 68) rfl (fun c38 => ?_) (fun c38 => ?_)
            ·
              refine AW.sub (vs' := [some (.ref (ad 1)), some (.ref (ad 43)), some (.int x2), none, some (.int y10_4), some (.int (σq32.1 1 6))]) (lsub_of (by simp [lsubB])) ?_
              exact j68 _ (σq32.1 1 6) hG34 (ony.tr (ony.tr hoq32 (ony.mono ho25 (by decide))) (ony.mono ho35 (by decide))) hR36 (by omega)
            ·
              refine s_iconst C dX6_expression_64 (1) (by decide) (fun z39 h40 => ?_)
              refine a_goto C dX6_expression_65 (tgt := 69) rfl ?_
              refine AW.sub (vs' := [some (.ref (ad 1)), some (.ref (ad 43)), some (.int x2), none, some (.int y10_4), some (.int (σq32.1 1 6))]) (lsub_of (by simp [lsubB])) ?_
              exact j69 _ (σq32.1 1 6) z39 hG34 (ony.tr (ony.tr hoq32 (ony.mono ho25 (by decide))) (ony.mono ho35 (by decide))) hR36 (by omega) (by omega)
      refine a_iload_n C dX6_expression_10 (i := 3) rfl rfl ?_
      refine s_if_eq C dX6_expression_11 (tgt := 93) rfl (fun c41 => ?_) (fun c41 => ?_)
      ·
        refine a_iload_n C dX6_expression_93 (i := 3) rfl rfl ?_
        exact a_iret Rt dX6_expression_94 (nar_z (by omega)).1 (⟨hGq10, hoq10, hRq10, (show 0 ≤ y10_3.toInt ∧ y10_3.toInt ≤ 1 by intros; omega)⟩)
      ·
        refine a_aload_n C dX6_expression_14 (i := 0) rfl rfl ?_
        refine a_get C fl_RX6_53 (i := 1) kd_1 (hid 1 (by decide)) (v := .int (σq10.1 1 6)) rfl dX6_expression_15 ?_
        refine s_bipush C dX6_expression_18 (43) (by decide) (fun z42 h43 => ?_)
        refine s_ic_eq C dX6_expression_20 (tgt := 32) rfl (fun c44 => ?_) (fun c44 => ?_)
        ·
          exact j32 _ hGq10 hoq10 hRq10 (by omega)
        ·
          refine a_aload_n C dX6_expression_23 (i := 0) rfl rfl ?_
          refine a_get C fl_RX6_53 (i := 1) kd_1 (hid 1 (by decide)) (v := .int (σq10.1 1 6)) rfl dX6_expression_24 ?_
          refine s_bipush C dX6_expression_27 (45) (by decide) (fun z45 h46 => ?_)
          refine s_ic_ne C dX6_expression_29 (tgt := 93) rfl (fun c47 => ?_) (fun c47 => ?_)
          ·
            refine a_iload_n C dX6_expression_93 (i := 3) rfl rfl ?_
            exact a_iret Rt dX6_expression_94 (nar_z (by omega)).1 (⟨hGq10, hoq10, hRq10, (show 0 ≤ y10_3.toInt ∧ y10_3.toInt ≤ 1 by intros; omega)⟩)
          ·
            exact j32 _ hGq10 hoq10 hRq10 (by omega)
  refine a_aload_n C dX6_expression_0 (i := 0) rfl rfl ?_
  refine a_aload_n C dX6_expression_1 (i := 1) rfl rfl ?_
  refine a_iload_n C dX6_expression_2 (i := 2) rfl rfl ?_
  refine a_callVi C (i := 1) kd_1 (hid 1 (by decide)) ⟨_, _, rfl⟩ (by decide) (S_X6_product_1_43_w5 (x2 := x2) hid hG hR (by omega)) mi_X6_product ml_RX6_144 rfl rfl (Nat.le_of_ble_eq_true rfl) (Nat.le_of_ble_eq_true rfl) (Nat.le_of_ble_eq_true rfl) dX6_expression_3 (fun z48 σ49 q50 => ?_)
  obtain ⟨hG51, ho52, hR53, w54⟩ := q50
  refine a_istore_n C dX6_expression_6 (i := 3) rfl (by decide) rfl (vs1 := [some (.ref (ad 1)), some (.ref (ad 43)), some (.int x2), some (.int z48), none, none]) rfl ?_
  refine s_iconst C dX6_expression_7 (0) (by decide) (fun z55 h56 => ?_)
  refine a_istore C dX6_expression_8 (by decide) rfl (vs1 := [some (.ref (ad 1)), some (.ref (ad 43)), some (.int x2), some (.int z48), some (.int z55), none]) rfl ?_
  exact j10 100000 _ z48 z55 (by omega) hG51 (ony.tr ony.rf (ony.mono ho52 (by decide))) hR53 (by omega) (by omega)
set_option maxHeartbeats 4000000 in
set_option maxRecDepth 100000 in
theorem S_X6_unit_1_43_w4 {l : Launch} {D : va_G} {ids : List Nat} {ad : Nat → Nat} {ca : Nat → ClassId} {σ : HS} {x2 : Int32} (hid : ∀ i, i < 277 → i ∈ ids) (hG : GIc σ) (hR : RK σ) (hx2 : 4 ≤ x2.toInt ∧ x2.toInt ≤ 4) : Ki l D ids ad ca yX6_unit cX6_unit 4 .boolean 8 188 [.ref (ad 1), .ref (ad 43), .int x2] σ (fun r σ1 => (GIc σ1) ∧ (ony [1, 43, 54] σ σ1) ∧ (RK σ1) ∧ (0 ≤ r.toInt ∧ r.toInt ≤ 1)) := by
  refine Ki.of (by decide) (Nat.le_of_ble_eq_true rfl) 1 (fun Γ C Rt => ?_)
  show AW ids ad ca Γ 0 [some (.ref (ad 1)), some (.ref (ad 43)), some (.int x2), none] [] σ
  have j88 : ∀ (σq88 : HS), GIc σq88 → ony [1, 43, 54] σ σq88 → RK σq88 → AW ids ad ca Γ 88 [some (.ref (ad 1)), some (.ref (ad 43)), some (.int x2), none] [] σq88 := by
    intro σq88 hGq88 hoq88 hRq88
    refine a_aload_n C dX6_unit_88 (i := 0) rfl rfl ?_
    refine s_bipush C dX6_unit_89 (40) (by decide) (fun z1 h2 => ?_)
    refine a_callVi C (i := 1) kd_1 (hid 1 (by decide)) ⟨_, _, rfl⟩ (by decide) (S_X6_take_1 (x1 := z1) hid hGq88 hRq88) mi_X6_take ml_RX6_77 rfl rfl (Nat.le_of_ble_eq_true rfl) (Nat.le_of_ble_eq_true rfl) (Nat.le_of_ble_eq_true rfl) dX6_unit_91 (fun z3 σ4 q5 => ?_)
    obtain ⟨hG6, ho7, hR8, w9, w10, w11⟩ := q5
    refine s_if_eq C dX6_unit_94 (tgt := 121) rfl (fun c12 => ?_) (fun c12 => ?_)
    ·
      refine s_iconst C dX6_unit_121 (0) (by decide) (fun z13 h14 => ?_)
      exact a_iret Rt dX6_unit_122 (nar_z (by omega)).1 (⟨hG6, (ony.tr hoq88 (ony.mono ho7 (by decide))), hR8, (show 0 ≤ z13.toInt ∧ z13.toInt ≤ 1 by intros; omega)⟩)
    ·
      refine a_aload_n C dX6_unit_97 (i := 0) rfl rfl ?_
      refine a_aload_n C dX6_unit_98 (i := 1) rfl rfl ?_
      refine a_iload_n C dX6_unit_99 (i := 2) rfl rfl ?_
      refine s_iconst C dX6_unit_100 (1) (by decide) (fun z15 h16 => ?_)
      refine s_iadd C dX6_unit_101 (by omega) (fun z17 h18 => ?_)
      refine a_callVi C (i := 1) kd_1 (hid 1 (by decide)) ⟨_, _, rfl⟩ (by decide) (S_X6_expression_1_43_w5 (x2 := z17) hid hG6 hR8 (by omega)) mi_X6_expression ml_RX6_135 rfl rfl (Nat.le_of_ble_eq_true rfl) (Nat.le_of_ble_eq_true rfl) (Nat.le_of_ble_eq_true rfl) dX6_unit_102 (fun z19 σ20 q21 => ?_)
      obtain ⟨hG22, ho23, hR24, w25⟩ := q21
      refine s_if_eq C dX6_unit_105 (tgt := 121) rfl (fun c26 => ?_) (fun c26 => ?_)
      ·
        refine s_iconst C dX6_unit_121 (0) (by decide) (fun z27 h28 => ?_)
        exact a_iret Rt dX6_unit_122 (nar_z (by omega)).1 (⟨hG22, (ony.tr (ony.tr hoq88 (ony.mono ho7 (by decide))) (ony.mono ho23 (by decide))), hR24, (show 0 ≤ z27.toInt ∧ z27.toInt ≤ 1 by intros; omega)⟩)
      ·
        refine a_aload_n C dX6_unit_108 (i := 0) rfl rfl ?_
        refine s_bipush C dX6_unit_109 (41) (by decide) (fun z29 h30 => ?_)
        refine a_callVi C (i := 1) kd_1 (hid 1 (by decide)) ⟨_, _, rfl⟩ (by decide) (S_X6_take_1 (x1 := z29) hid hG22 hR24) mi_X6_take ml_RX6_77 rfl rfl (Nat.le_of_ble_eq_true rfl) (Nat.le_of_ble_eq_true rfl) (Nat.le_of_ble_eq_true rfl) dX6_unit_111 (fun z31 σ32 q33 => ?_)
        obtain ⟨hG34, ho35, hR36, w37, w38, w39⟩ := q33
        refine s_if_eq C dX6_unit_114 (tgt := 121) rfl (fun c40 => ?_) (fun c40 => ?_)
        ·
          refine s_iconst C dX6_unit_121 (0) (by decide) (fun z41 h42 => ?_)
          exact a_iret Rt dX6_unit_122 (nar_z (by omega)).1 (⟨hG34, (ony.tr (ony.tr (ony.tr hoq88 (ony.mono ho7 (by decide))) (ony.mono ho23 (by decide))) (ony.mono ho35 (by decide))), hR36, (show 0 ≤ z41.toInt ∧ z41.toInt ≤ 1 by intros; omega)⟩)
        ·
          refine s_iconst C dX6_unit_117 (1) (by decide) (fun z43 h44 => ?_)
          refine a_goto C dX6_unit_118 (tgt := 122) rfl ?_
          exact a_iret Rt dX6_unit_122 (nar_z (by omega)).1 (⟨hG34, (ony.tr (ony.tr (ony.tr hoq88 (ony.mono ho7 (by decide))) (ony.mono ho23 (by decide))) (ony.mono ho35 (by decide))), hR36, (show 0 ≤ z43.toInt ∧ z43.toInt ≤ 1 by intros; omega)⟩)
  have j67 : ∀ (σq67 : HS), GIc σq67 → ony [1, 43, 54] σ σq67 → RK σq67 → AW ids ad ca Γ 67 [some (.ref (ad 1)), some (.ref (ad 43)), some (.int x2), none] [] σq67 := by
    intro σq67 hGq67 hoq67 hRq67
    refine a_aload_n C dX6_unit_67 (i := 0) rfl rfl ?_
    refine a_get C fl_RX6_53 (i := 1) kd_1 (hid 1 (by decide)) (v := .int (σq67.1 1 6)) rfl dX6_unit_68 ?_
    refine s_bipush C dX6_unit_71 (40) (by decide) (fun z45 h46 => ?_)
    refine s_ic_ne C dX6_unit_73 (tgt := 88) rfl (fun c47 => ?_) (fun c47 => ?_)
    ·
      exact j88 _ hGq67 hoq67 hRq67
    ·
      refine a_iload_n C dX6_unit_76 (i := 2) rfl rfl ?_
      refine s_bipush C dX6_unit_77 (6) (by decide) (fun z48 h49 => ?_)
      refine s_ic_lt C dX6_unit_79 (tgt := 88) rfl (fun c50 => ?_) (fun c50 => absurd c50 (by omega))
      exact j88 _ hGq67 hoq67 hRq67
  refine a_aload_n C dX6_unit_0 (i := 0) rfl rfl ?_
  refine a_get C fl_RX6_53 (i := 1) kd_1 (hid 1 (by decide)) (v := .int (σ.1 1 6)) rfl dX6_unit_1 ?_
  refine s_bipush C dX6_unit_4 (21) (by decide) (fun z51 h52 => ?_)
  refine s_ic_ne C dX6_unit_6 (tgt := 26) rfl (fun c53 => ?_) (fun c53 => ?_)
  ·
    refine a_aload_n C dX6_unit_26 (i := 0) rfl rfl ?_
    refine a_get C fl_RX6_53 (i := 1) kd_1 (hid 1 (by decide)) (v := .int (σ.1 1 6)) rfl dX6_unit_27 ?_
    refine s_bipush C dX6_unit_30 (11) (by decide) (fun z54 h55 => ?_)
    refine s_ic_lt C dX6_unit_32 (tgt := 67) rfl (fun c56 => ?_) (fun c56 => ?_)
    ·
      exact j67 _ hG ony.rf hR
    ·
      refine a_aload_n C dX6_unit_35 (i := 0) rfl rfl ?_
      refine a_get C fl_RX6_53 (i := 1) kd_1 (hid 1 (by decide)) (v := .int (σ.1 1 6)) rfl dX6_unit_36 ?_
      refine s_bipush C dX6_unit_39 (19) (by decide) (fun z57 h58 => ?_)
      refine s_ic_gt C dX6_unit_41 (tgt := 67) rfl (fun c59 => ?_) (fun c59 => ?_)
      ·
        exact j67 _ hG ony.rf hR
      ·
        refine a_aload_n C dX6_unit_44 (i := 1) rfl rfl ?_
        refine s_bipush C dX6_unit_45 (-10) (by decide) (fun z60 h61 => ?_)
        refine a_aload_n C dX6_unit_47 (i := 0) rfl rfl ?_
        refine a_get C fl_RX6_53 (i := 1) kd_1 (hid 1 (by decide)) (v := .int (σ.1 1 6)) rfl dX6_unit_48 ?_
        refine s_bipush C dX6_unit_51 (11) (by decide) (fun z62 h63 => ?_)
        refine s_isubU C dX6_unit_53 (fun z64 => ?_)
        refine s_isubU C dX6_unit_54 (fun z66 => ?_)
        refine a_callVv C (i := 43) kd_43 (hid 43 (by decide)) ⟨_, _, rfl⟩ (by decide) (S_X10_emit_43 (x1 := z66) hid hG) mi_X10_emit ml_RX6_138 rfl rfl (Nat.le_of_ble_eq_true rfl) (Nat.le_of_ble_eq_true rfl) (Nat.le_of_ble_eq_true rfl) dX6_unit_55 (fun σ69 q70 => ?_)
        obtain ⟨hG71, ho72⟩ := q70
        have hR73 := RK.ony hR ho72 (by decide) (by decide)
        refine a_aload_n C dX6_unit_58 (i := 0) rfl rfl ?_
        refine a_aload_n C dX6_unit_59 (i := 0) rfl rfl ?_
        refine a_get C fl_RX6_53 (i := 1) kd_1 (hid 1 (by decide)) (v := .int (σ69.1 1 6)) rfl dX6_unit_60 ?_
        refine a_callVi C (i := 1) kd_1 (hid 1 (by decide)) ⟨_, _, rfl⟩ (by decide) (S_X6_take_1 (x1 := (σ69.1 1 6)) hid hG71 hR73) mi_X6_take ml_RX6_77 rfl rfl (Nat.le_of_ble_eq_true rfl) (Nat.le_of_ble_eq_true rfl) (Nat.le_of_ble_eq_true rfl) dX6_unit_63 (fun z74 σ75 q76 => ?_)
        obtain ⟨hG77, ho78, hR79, w80, w81, w82⟩ := q76
        exact a_iret Rt dX6_unit_66 (nar_z (by omega)).1 (⟨hG77, (ony.tr (ony.tr ony.rf (ony.mono ho72 (by decide))) (ony.mono ho78 (by decide))), hR79, (show 0 ≤ z74.toInt ∧ z74.toInt ≤ 1 by intros; omega)⟩)
  ·
    refine a_aload_n C dX6_unit_9 (i := 0) rfl rfl ?_
    refine s_bipush C dX6_unit_10 (21) (by decide) (fun z83 h84 => ?_)
    refine a_callVi C (i := 1) kd_1 (hid 1 (by decide)) ⟨_, _, rfl⟩ (by decide) (S_X6_take_1 (x1 := z83) hid hG hR) mi_X6_take ml_RX6_77 rfl rfl (Nat.le_of_ble_eq_true rfl) (Nat.le_of_ble_eq_true rfl) (Nat.le_of_ble_eq_true rfl) dX6_unit_12 (fun z85 σ86 q87 => ?_)
    obtain ⟨hG88, ho89, hR90, w91, w92, w93⟩ := q87
    refine a_istore_n C dX6_unit_15 (i := 3) rfl (by decide) rfl (vs1 := [some (.ref (ad 1)), some (.ref (ad 43)), some (.int x2), some (.int z85)]) rfl ?_
    refine a_aload_n C dX6_unit_16 (i := 1) rfl rfl ?_
    refine a_aload_n C dX6_unit_17 (i := 0) rfl rfl ?_
    refine a_get C fl_RX6_67 (i := 1) kd_1 (hid 1 (by decide)) (v := .int (σ86.1 1 7)) rfl dX6_unit_18 ?_
    refine a_callVv C (i := 43) kd_43 (hid 43 (by decide)) ⟨_, _, rfl⟩ (by decide) (S_X10_emit_43 (x1 := (σ86.1 1 7)) hid hG88) mi_X10_emit ml_RX6_138 rfl rfl (Nat.le_of_ble_eq_true rfl) (Nat.le_of_ble_eq_true rfl) (Nat.le_of_ble_eq_true rfl) dX6_unit_21 (fun σ95 q96 => ?_)
    obtain ⟨hG97, ho98⟩ := q96
    have hR99 := RK.ony hR90 ho98 (by decide) (by decide)
    refine a_iload_n C dX6_unit_24 (i := 3) rfl rfl ?_
    exact a_iret Rt dX6_unit_25 (nar_z (by omega)).1 (⟨hG97, (ony.tr (ony.tr ony.rf (ony.mono ho89 (by decide))) (ony.mono ho98 (by decide))), hR99, (show 0 ≤ z85.toInt ∧ z85.toInt ≤ 1 by intros; omega)⟩)
set_option maxHeartbeats 4000000 in
set_option maxRecDepth 100000 in
theorem S_X6_product_1_43_w4 {l : Launch} {D : va_G} {ids : List Nat} {ad : Nat → Nat} {ca : Nat → ClassId} {σ : HS} {x2 : Int32} (hid : ∀ i, i < 277 → i ∈ ids) (hG : GIc σ) (hR : RK σ) (hx2 : 4 ≤ x2.toInt ∧ x2.toInt ≤ 4) : Ki l D ids ad ca yX6_product cX6_product 6 .boolean 9 211 [.ref (ad 1), .ref (ad 43), .int x2] σ (fun r σ1 => (GIc σ1) ∧ (ony [1, 43, 54] σ σ1) ∧ (RK σ1) ∧ (0 ≤ r.toInt ∧ r.toInt ≤ 1)) := by
  refine Ki.of (by decide) (Nat.le_of_ble_eq_true rfl) 3 (fun Γ C Rt => ?_)
  show AW ids ad ca Γ 0 [some (.ref (ad 1)), some (.ref (ad 43)), some (.int x2), none, none, none] [] σ
  have j10 : ∀ (d10 : Nat) (σq10 : HS) (y10_3 : Int32) (y10_4 : Int32), 400 - y10_4.toInt < d10 → GIc σq10 → ony [1, 43, 54] σ σq10 → RK σq10 → 0 ≤ y10_3.toInt ∧ y10_3.toInt ≤ 1 → 0 ≤ y10_4.toInt ∧ y10_4.toInt ≤ 400 → AW ids ad ca Γ 10 [some (.ref (ad 1)), some (.ref (ad 43)), some (.int x2), some (.int y10_3), some (.int y10_4), none] [] σq10 := by
    intro d10
    induction d10 with
    | zero =>
      intro σq10 y10_3 y10_4 hd10 hGq10 hoq10 hRq10 hx10_0 hx10_1
      exfalso
      omega
    | succ d10 ih10 =>
      intro σq10 y10_3 y10_4 hd10 hGq10 hoq10 hRq10 hx10_0 hx10_1
      have j85 : ∀ (σq85 : HS) (y85_3 : Int32) (u85_0 : Int32), GIc σq85 → ony [1, 43, 54] σ σq85 → RK σq85 → 0 ≤ y85_3.toInt ∧ y85_3.toInt ≤ 1 → -4 ≤ u85_0.toInt ∧ u85_0.toInt ≤ -3 → 0 ≤ y10_4.toInt ∧ y10_4.toInt ≤ 399 → AW ids ad ca Γ 85 [some (.ref (ad 1)), some (.ref (ad 43)), some (.int x2), some (.int y85_3), some (.int y10_4), none] [.int u85_0, .ref (ad 43)] σq85 := by
        intro σq85 y85_3 u85_0 hGq85 hoq85 hRq85 hx85_0 hx85_1 hx85_2
        refine a_callVv C (i := 43) kd_43 (hid 43 (by decide)) ⟨_, _, rfl⟩ (by decide) (S_X10_emit_43 (x1 := u85_0) hid hGq85) mi_X10_emit ml_RX6_138 rfl rfl (Nat.le_of_ble_eq_true rfl) (Nat.le_of_ble_eq_true rfl) (Nat.le_of_ble_eq_true rfl) dX6_product_85 (fun σ2 q3 => ?_)
        obtain ⟨hG4, ho5⟩ := q3
        have hR6 := RK.ony hRq85 ho5 (by decide) (by decide)
        refine s_iinc C dX6_product_88 rfl (1) (by decide) (by omega) (by decide) rfl (fun z7 h8 => ?_)
        show AW ids ad ca Γ 91 [some (.ref (ad 1)), some (.ref (ad 43)), some (.int x2), some (.int y85_3), some (.int z7), none] _ _
        refine a_goto C dX6_product_91 (tgt := 10) rfl ?_
        exact ih10 _ y85_3 z7 (by omega) hG4 (ony.tr hoq85 (ony.mono ho5 (by decide))) hR6 (by omega) (by omega)
      have j69 : ∀ (σq69 : HS) (y69_5 : Int32) (u69_0 : Int32), GIc σq69 → ony [1, 43, 54] σ σq69 → RK σq69 → 0 ≤ u69_0.toInt ∧ u69_0.toInt ≤ 1 → 0 ≤ y10_4.toInt ∧ y10_4.toInt ≤ 399 → AW ids ad ca Γ 69 [some (.ref (ad 1)), some (.ref (ad 43)), some (.int x2), none, some (.int y10_4), some (.int y69_5)] [.int u69_0] σq69 := by
        intro σq69 y69_5 u69_0 hGq69 hoq69 hRq69 hx69_0 hx69_1
        refine a_istore_n C dX6_product_69 (i := 3) rfl (by decide) rfl (vs1 := [some (.ref (ad 1)), some (.ref (ad 43)), some (.int x2), some (.int u69_0), some (.int y10_4), some (.int y69_5)]) rfl ?_
        refine a_aload_n C dX6_product_70 (i := 1) rfl rfl ?_
        refine a_iload C dX6_product_71 rfl ?_
        refine s_bipush C dX6_product_73 (42) (by decide) (fun z9 h10 => ?_)
        refine s_ic_ne C dX6_product_75 (tgt := 83) rfl (fun c11 => ?_) (fun c11 => ?_)
        ·
          refine s_bipush C dX6_product_83 (-4) (by decide) (fun z12 h13 => ?_)
          refine AW.sub (vs' := [some (.ref (ad 1)), some (.ref (ad 43)), some (.int x2), some (.int u69_0), some (.int y10_4), none]) (lsub_of (by simp [lsubB])) ?_
          exact j85 _ u69_0 z12 hGq69 hoq69 hRq69 (by omega) (by omega) (by omega)
        ·
          refine s_bipush C dX6_product_78 (-3) (by decide) (fun z14 h15 => ?_)
          refine a_goto C dX6_product_80 (tgt := 85) rfl ?_
          refine AW.sub (vs' := [some (.ref (ad 1)), some (.ref (ad 43)), some (.int x2), some (.int u69_0), some (.int y10_4), none]) (lsub_of (by simp [lsubB])) ?_
          exact j85 _ u69_0 z14 hGq69 hoq69 hRq69 (by omega) (by omega) (by omega)
      have j68 : ∀ (σq68 : HS) (y68_5 : Int32), GIc σq68 → ony [1, 43, 54] σ σq68 → RK σq68 → 0 ≤ y10_4.toInt ∧ y10_4.toInt ≤ 399 → AW ids ad ca Γ 68 [some (.ref (ad 1)), some (.ref (ad 43)), some (.int x2), none, some (.int y10_4), some (.int y68_5)] [] σq68 := by
        intro σq68 y68_5 hGq68 hoq68 hRq68 hx68_0
        refine s_iconst C dX6_product_68 (0) (by decide) (fun z16 h17 => ?_)
        exact j69 _ y68_5 z16 hGq68 hoq68 hRq68 (by omega) (by omega)
      have j32 : ∀ (σq32 : HS), GIc σq32 → ony [1, 43, 54] σ σq32 → RK σq32 → 1 ≤ y10_3.toInt ∧ y10_3.toInt ≤ 1 → AW ids ad ca Γ 32 [some (.ref (ad 1)), some (.ref (ad 43)), some (.int x2), some (.int y10_3), some (.int y10_4), none] [] σq32 := by
        intro σq32 hGq32 hoq32 hRq32 hx32_0
        refine a_iload C dX6_product_32 rfl ?_
        refine s_sipush C dX6_product_34 (400) (by decide) (fun z18 h19 => ?_)
        refine s_ic_ge C dX6_product_37 (tgt := 94) rfl (fun c20 => ?_) (fun c20 => ?_)
        ·
          refine a_iload_n C dX6_product_94 (i := 3) rfl rfl ?_
          exact a_iret Rt dX6_product_95 (nar_z (by omega)).1 (⟨hGq32, hoq32, hRq32, (show 0 ≤ y10_3.toInt ∧ y10_3.toInt ≤ 1 by intros; omega)⟩)
        ·
          refine a_aload_n C dX6_product_40 (i := 0) rfl rfl ?_
          refine a_get C fl_RX6_53 (i := 1) kd_1 (hid 1 (by decide)) (v := .int (σq32.1 1 6)) rfl dX6_product_41 ?_
          refine a_istore C dX6_product_44 (by decide) rfl (vs1 := [some (.ref (ad 1)), some (.ref (ad 43)), some (.int x2), some (.int y10_3), some (.int y10_4), some (.int (σq32.1 1 6))]) rfl ?_
          refine a_aload_n C dX6_product_46 (i := 0) rfl rfl ?_
          refine a_iload C dX6_product_47 rfl ?_
          refine a_callVi C (i := 1) kd_1 (hid 1 (by decide)) ⟨_, _, rfl⟩ (by decide) (S_X6_take_1 (x1 := (σq32.1 1 6)) hid hGq32 hRq32) mi_X6_take ml_RX6_77 rfl rfl (Nat.le_of_ble_eq_true rfl) (Nat.le_of_ble_eq_true rfl) (Nat.le_of_ble_eq_true rfl) dX6_product_49 (fun z21 σ22 q23 => ?_)
          obtain ⟨hG24, ho25, hR26, w27, w28, w29⟩ := q23
          refine s_if_eq C dX6_product_52 (tgt := 68) rfl (fun c30 => ?_) (fun c30 => ?_)
          ·
            refine AW.sub (vs' := [some (.ref (ad 1)), some (.ref (ad 43)), some (.int x2), none, some (.int y10_4), some (.int (σq32.1 1 6))]) (lsub_of (by simp [lsubB])) ?_
            exact j68 _ (σq32.1 1 6) hG24 (ony.tr hoq32 (ony.mono ho25 (by decide))) hR26 (by omega)
          ·
            refine a_aload_n C dX6_product_55 (i := 0) rfl rfl ?_
            refine a_aload_n C dX6_product_56 (i := 1) rfl rfl ?_
            refine a_iload_n C dX6_product_57 (i := 2) rfl rfl ?_
            refine a_callVi C (i := 1) kd_1 (hid 1 (by decide)) ⟨_, _, rfl⟩ (by decide) (S_X6_unit_1_43_w4 (x2 := x2) hid hG24 hR26 (by omega)) mi_X6_unit ml_RX6_147 rfl rfl (Nat.le_of_ble_eq_true rfl) (Nat.le_of_ble_eq_true rfl) (Nat.le_of_ble_eq_true rfl) dX6_product_58 (fun z31 σ32 q33 => ?_)
            obtain ⟨hG34, ho35, hR36, w37⟩ := q33
            refine s_if_eq C dX6_product_61 (tgt := 68) rfl (fun c38 => ?_) (fun c38 => ?_)
            ·
              refine AW.sub (vs' := [some (.ref (ad 1)), some (.ref (ad 43)), some (.int x2), none, some (.int y10_4), some (.int (σq32.1 1 6))]) (lsub_of (by simp [lsubB])) ?_
              exact j68 _ (σq32.1 1 6) hG34 (ony.tr (ony.tr hoq32 (ony.mono ho25 (by decide))) (ony.mono ho35 (by decide))) hR36 (by omega)
            ·
              refine s_iconst C dX6_product_64 (1) (by decide) (fun z39 h40 => ?_)
              refine a_goto C dX6_product_65 (tgt := 69) rfl ?_
              refine AW.sub (vs' := [some (.ref (ad 1)), some (.ref (ad 43)), some (.int x2), none, some (.int y10_4), some (.int (σq32.1 1 6))]) (lsub_of (by simp [lsubB])) ?_
              exact j69 _ (σq32.1 1 6) z39 hG34 (ony.tr (ony.tr hoq32 (ony.mono ho25 (by decide))) (ony.mono ho35 (by decide))) hR36 (by omega) (by omega)
      refine a_iload_n C dX6_product_10 (i := 3) rfl rfl ?_
      refine s_if_eq C dX6_product_11 (tgt := 94) rfl (fun c41 => ?_) (fun c41 => ?_)
      ·
        refine a_iload_n C dX6_product_94 (i := 3) rfl rfl ?_
        exact a_iret Rt dX6_product_95 (nar_z (by omega)).1 (⟨hGq10, hoq10, hRq10, (show 0 ≤ y10_3.toInt ∧ y10_3.toInt ≤ 1 by intros; omega)⟩)
      ·
        refine a_aload_n C dX6_product_14 (i := 0) rfl rfl ?_
        refine a_get C fl_RX6_53 (i := 1) kd_1 (hid 1 (by decide)) (v := .int (σq10.1 1 6)) rfl dX6_product_15 ?_
        refine s_bipush C dX6_product_18 (42) (by decide) (fun z42 h43 => ?_)
        refine s_ic_eq C dX6_product_20 (tgt := 32) rfl (fun c44 => ?_) (fun c44 => ?_)
        ·
          exact j32 _ hGq10 hoq10 hRq10 (by omega)
        ·
          refine a_aload_n C dX6_product_23 (i := 0) rfl rfl ?_
          refine a_get C fl_RX6_53 (i := 1) kd_1 (hid 1 (by decide)) (v := .int (σq10.1 1 6)) rfl dX6_product_24 ?_
          refine s_bipush C dX6_product_27 (47) (by decide) (fun z45 h46 => ?_)
          refine s_ic_ne C dX6_product_29 (tgt := 94) rfl (fun c47 => ?_) (fun c47 => ?_)
          ·
            refine a_iload_n C dX6_product_94 (i := 3) rfl rfl ?_
            exact a_iret Rt dX6_product_95 (nar_z (by omega)).1 (⟨hGq10, hoq10, hRq10, (show 0 ≤ y10_3.toInt ∧ y10_3.toInt ≤ 1 by intros; omega)⟩)
          ·
            exact j32 _ hGq10 hoq10 hRq10 (by omega)
  refine a_aload_n C dX6_product_0 (i := 0) rfl rfl ?_
  refine a_aload_n C dX6_product_1 (i := 1) rfl rfl ?_
  refine a_iload_n C dX6_product_2 (i := 2) rfl rfl ?_
  refine a_callVi C (i := 1) kd_1 (hid 1 (by decide)) ⟨_, _, rfl⟩ (by decide) (S_X6_unit_1_43_w4 (x2 := x2) hid hG hR (by omega)) mi_X6_unit ml_RX6_147 rfl rfl (Nat.le_of_ble_eq_true rfl) (Nat.le_of_ble_eq_true rfl) (Nat.le_of_ble_eq_true rfl) dX6_product_3 (fun z48 σ49 q50 => ?_)
  obtain ⟨hG51, ho52, hR53, w54⟩ := q50
  refine a_istore_n C dX6_product_6 (i := 3) rfl (by decide) rfl (vs1 := [some (.ref (ad 1)), some (.ref (ad 43)), some (.int x2), some (.int z48), none, none]) rfl ?_
  refine s_iconst C dX6_product_7 (0) (by decide) (fun z55 h56 => ?_)
  refine a_istore C dX6_product_8 (by decide) rfl (vs1 := [some (.ref (ad 1)), some (.ref (ad 43)), some (.int x2), some (.int z48), some (.int z55), none]) rfl ?_
  exact j10 100000 _ z48 z55 (by omega) hG51 (ony.tr ony.rf (ony.mono ho52 (by decide))) hR53 (by omega) (by omega)
