set_option maxHeartbeats 4000000 in
set_option maxRecDepth 100000 in
theorem S_X6_tellingPattern_1_43 {l : Launch} {D : va_G} {ids : List Nat} {ad : Nat → Nat} {ca : Nat → ClassId} {σ : HS} (hid : ∀ i, i < 277 → i ∈ ids) (hG : GIc σ) (hR : RK σ) : Ki l D ids ad ca yX6_tellingPattern cX6_tellingPattern 4 .boolean 3 66 [.ref (ad 1), .ref (ad 43)] σ (fun r σ1 => (GIc σ1) ∧ (ony [1, 7, 43, 48, 49, 50, 51, 52, 53] σ σ1) ∧ (RK σ1) ∧ (0 ≤ r.toInt ∧ r.toInt ≤ 1)) := by
  refine Ki.of (by decide) (Nat.le_of_ble_eq_true rfl) 2 (fun Γ C Rt => ?_)
  show AW ids ad ca Γ 0 [some (.ref (ad 1)), some (.ref (ad 43)), none, none] [] σ
  have j102 : ∀ (σ102 : HS) (y102_2 : Int32) (y102_3 : Int32), GIc σ102 → ony [1, 7, 43, 48, 49, 50, 51, 52, 53] σ σ102 → RK σ102 → 0 ≤ y102_2.toInt ∧ y102_2.toInt ≤ 4 → 1 ≤ y102_3.toInt ∧ y102_3.toInt ≤ 8 → AW ids ad ca Γ 102 [some (.ref (ad 1)), some (.ref (ad 43)), some (.int y102_2), some (.int y102_3)] [] σ102 := by
    intro σ102 y102_2 y102_3 hG102 ho102 hR102 hx102_0 hx102_1
    refine a_aload_n C dX6_tellingPattern_102 (i := 0) rfl rfl ?_
    refine a_get C fl_RX6_53 (i := 1) kd_1 (hid 1 (by decide)) (v := .int (σ102.1 1 6)) rfl dX6_tellingPattern_103 ?_
    refine s_bipush C dX6_tellingPattern_106 (21) (by decide) (fun z1 h2 => ?_)
    refine s_ic_ne C dX6_tellingPattern_108 (tgt := 117) rfl (fun c3 => ?_) (fun c3 => ?_)
    ·
      refine a_aload_n C dX6_tellingPattern_117 (i := 1) rfl rfl ?_
      refine a_get C fl_RX6_123 (i := 43) kd_43 (hid 43 (by decide)) (v := .ref (ad 53)) rfl dX6_tellingPattern_118 ?_
      refine a_iload_n C dX6_tellingPattern_121 (i := 2) rfl rfl ?_
      refine a_iload_n C dX6_tellingPattern_122 (i := 3) rfl rfl ?_
      refine s_iast C (i := 53) kd_53 (hid 53 (by decide)) al_53 (by omega) (by omega) dX6_tellingPattern_123 (fun n4 h5 => ?_)
      have hG6 := wA_53 (v := y102_3) (j := n4) hG102 (by omega) (by omega)
      have hR7 := RK.I (i := 53) (k := n4) (v := y102_3) hR102 (by decide) (fun e => absurd e (by decide))
      refine a_aload_n C dX6_tellingPattern_124 (i := 1) rfl rfl ?_
      refine a_dup C dX6_tellingPattern_125 rfl ?_
      have g8 := bF_43_4 hG102
      refine a_get C fl_RX6_116 (i := 43) kd_43 (hid 43 (by decide)) (v := .int (σ102.1 43 4)) rfl dX6_tellingPattern_126 ?_
      refine s_iconst C dX6_tellingPattern_129 (1) (by decide) (fun z9 h10 => ?_)
      refine s_iadd C dX6_tellingPattern_130 (by omega) (fun z11 h12 => ?_)
      refine a_put C fp_RX6_116 (i := 43) kd_43 (hid 43 (by decide)) rfl rfl dX6_tellingPattern_131 ?_
      have hG13 := wF_43_4 (v := z11) hG6 (by omega) (by omega)
      have hR14 := RK.I (i := 43) (k := 4) (v := z11) hR7 (by decide) (fun e => absurd e (by decide))
      refine a_aload_n C dX6_tellingPattern_134 (i := 0) rfl rfl ?_
      refine s_bipush C dX6_tellingPattern_135 (59) (by decide) (fun z15 h16 => ?_)
      refine a_callVi C (i := 1) kd_1 (hid 1 (by decide)) ⟨_, _, rfl⟩ (by decide) (S_X6_take_1 (x1 := z15) hid hG13 hR14) mi_X6_take ml_RX6_77 rfl rfl (Nat.le_of_ble_eq_true rfl) (Nat.le_of_ble_eq_true rfl) (Nat.le_of_ble_eq_true rfl) dX6_tellingPattern_137 (fun z17 σ18 q19 => ?_)
      obtain ⟨hG20, ho21, hR22, w23, w24, w25⟩ := q19
      exact a_iret Rt dX6_tellingPattern_140 (nar_z (by omega)).1 (⟨hG20, (ony.tr (ony.I (ony.I ho102 (by decide)) (by decide)) (ony.mono ho21 (by decide))), hR22, (show 0 ≤ z17.toInt ∧ z17.toInt ≤ 1 by intros; omega)⟩)
    ·
      refine a_aload_n C dX6_tellingPattern_111 (i := 0) rfl rfl ?_
      refine s_iconst C dX6_tellingPattern_112 (2) (by decide) (fun z26 h27 => ?_)
      refine a_callVi C (i := 1) kd_1 (hid 1 (by decide)) ⟨_, _, rfl⟩ (by decide) (S_X6_refuse_1 (x1 := z26) hid hG102 hR102) mi_X6_refuse ml_RX6_60 rfl rfl (Nat.le_of_ble_eq_true rfl) (Nat.le_of_ble_eq_true rfl) (Nat.le_of_ble_eq_true rfl) dX6_tellingPattern_113 (fun z28 σ29 q30 => ?_)
      obtain ⟨hG31, ho32, hR33, w34⟩ := q30
      exact a_iret Rt dX6_tellingPattern_116 (nar_z (by omega)).1 (⟨hG31, (ony.tr ho102 (ony.mono ho32 (by decide))), hR33, (show 0 ≤ z28.toInt ∧ z28.toInt ≤ 1 by intros; omega)⟩)
  have j57 : ∀ (d57 : Nat) (σ57 : HS) (y57_2 : Int32) (y57_3 : Int32), 8 - y57_3.toInt < d57 → GIc σ57 → ony [1, 7, 43, 48, 49, 50, 51, 52, 53] σ σ57 → RK σ57 → 0 ≤ y57_2.toInt ∧ y57_2.toInt ≤ 4 → 1 ≤ y57_3.toInt ∧ y57_3.toInt ≤ 8 → AW ids ad ca Γ 57 [some (.ref (ad 1)), some (.ref (ad 43)), some (.int y57_2), some (.int y57_3)] [] σ57 := by
    intro d57
    induction d57 with
    | zero =>
      intro σ57 y57_2 y57_3 hd57 hG57 ho57 hR57 hx57_0 hx57_1
      exfalso
      omega
    | succ d57 ih57 =>
      intro σ57 y57_2 y57_3 hd57 hG57 ho57 hR57 hx57_0 hx57_1
      refine a_aload_n C dX6_tellingPattern_57 (i := 0) rfl rfl ?_
      refine a_get C fl_RX6_53 (i := 1) kd_1 (hid 1 (by decide)) (v := .int (σ57.1 1 6)) rfl dX6_tellingPattern_58 ?_
      refine s_bipush C dX6_tellingPattern_61 (21) (by decide) (fun z35 h36 => ?_)
      refine s_ic_ne C dX6_tellingPattern_63 (tgt := 102) rfl (fun c37 => ?_) (fun c37 => ?_)
      ·
        exact j102 _ y57_2 y57_3 hG57 ho57 hR57 (by omega) (by omega)
      ·
        refine a_iload_n C dX6_tellingPattern_66 (i := 3) rfl rfl ?_
        refine s_bipush C dX6_tellingPattern_67 (8) (by decide) (fun z38 h39 => ?_)
        refine s_ic_ge C dX6_tellingPattern_69 (tgt := 102) rfl (fun c40 => ?_) (fun c40 => ?_)
        ·
          exact j102 _ y57_2 y57_3 hG57 ho57 hR57 (by omega) (by omega)
        ·
          refine a_aload_n C dX6_tellingPattern_72 (i := 0) rfl rfl ?_
          refine s_iconst C dX6_tellingPattern_73 (0) (by decide) (fun z41 h42 => ?_)
          refine s_bipush C dX6_tellingPattern_74 (9) (by decide) (fun z43 h44 => ?_)
          refine a_callVi C (i := 1) kd_1 (hid 1 (by decide)) ⟨_, _, rfl⟩ (by decide) (S_X6_takeNumber_1 (x1 := z41) (x2 := z43) hid hG57 hR57) mi_X6_takeNumber ml_RX6_90 rfl rfl (Nat.le_of_ble_eq_true rfl) (Nat.le_of_ble_eq_true rfl) (Nat.le_of_ble_eq_true rfl) dX6_tellingPattern_76 (fun z45 σ46 q47 => ?_)
          obtain ⟨hG48, ho49, hR50, w51, w52⟩ := q47
          refine s_if_ne C dX6_tellingPattern_79 (tgt := 84) rfl (fun c53 => ?_) (fun c53 => ?_)
          ·
            refine a_aload_n C dX6_tellingPattern_84 (i := 1) rfl rfl ?_
            refine a_get C fl_RX6_119 (i := 43) kd_43 (hid 43 (by decide)) (v := .ref (ad 47)) rfl dX6_tellingPattern_85 ?_
            refine a_iload_n C dX6_tellingPattern_88 (i := 2) rfl rfl ?_
            refine s_aaldH C (i := 47) kd_47 (hid 47 (by decide)) al_47 (by omega) (by omega) dX6_tellingPattern_89 (fun n54 h55 h56 => ?_)
            refine a_iload_n C dX6_tellingPattern_90 (i := 3) rfl rfl ?_
            refine a_aload_n C dX6_tellingPattern_91 (i := 0) rfl rfl ?_
            refine a_get C fl_RX6_67 (i := 1) kd_1 (hid 1 (by decide)) (v := .int (σ46.1 1 7)) rfl dX6_tellingPattern_92 ?_
            refine s_iast C (i := (47 + 1 + n54)) (kdH_47 n54 h56).1 (hid _ (kdH_47 n54 h56).2.2) (kdH_47 n54 h56).2.1 (by omega) (by omega) dX6_tellingPattern_95 (fun n60 h61 => ?_)
            refine s_gen2 (wH_47 (n := n54) (j := n60) hG48 h56 (by omega) (by omega)) (fun σ57 hG58 ho59 => ?_)
            have hR62 := RK.ony hR50 ho59 (by decide) (by decide)
            refine s_iinc C dX6_tellingPattern_96 rfl (1) (by decide) (by omega) (by decide) rfl (fun z63 h64 => ?_)
            show AW ids ad ca Γ 99 [some (.ref (ad 1)), some (.ref (ad 43)), some (.int y57_2), some (.int z63)] _ _
            refine a_goto C dX6_tellingPattern_99 (tgt := 57) rfl ?_
            exact ih57 _ y57_2 z63 (by omega) hG58 (ony.tr (ony.tr ho57 (ony.mono ho49 (by decide))) (ony.mono ho59 (by decide))) hR62 (by omega) (by omega)
          ·
            refine s_iconst C dX6_tellingPattern_82 (0) (by decide) (fun z65 h66 => ?_)
            exact a_iret Rt dX6_tellingPattern_83 (nar_z (by omega)).1 (⟨hG48, (ony.tr ho57 (ony.mono ho49 (by decide))), hR50, (show 0 ≤ z65.toInt ∧ z65.toInt ≤ 1 by intros; omega)⟩)
  refine a_aload_n C dX6_tellingPattern_0 (i := 1) rfl rfl ?_
  have g67 := bF_43_4 hG
  refine a_get C fl_RX6_116 (i := 43) kd_43 (hid 43 (by decide)) (v := .int (σ.1 43 4)) rfl dX6_tellingPattern_1 ?_
  refine a_istore_n C dX6_tellingPattern_4 (i := 2) rfl (by decide) rfl (vs1 := [some (.ref (ad 1)), some (.ref (ad 43)), some (.int (σ.1 43 4)), none]) rfl ?_
  refine a_iload_n C dX6_tellingPattern_5 (i := 2) rfl rfl ?_
  refine s_iconst C dX6_tellingPattern_6 (5) (by decide) (fun z68 h69 => ?_)
  refine s_ic_lt C dX6_tellingPattern_7 (tgt := 16) rfl (fun c70 => ?_) (fun c70 => ?_)
  ·
    refine a_aload_n C dX6_tellingPattern_16 (i := 0) rfl rfl ?_
    refine s_iconst C dX6_tellingPattern_17 (1) (by decide) (fun z71 h72 => ?_)
    refine a_callVi C (i := 1) kd_1 (hid 1 (by decide)) ⟨_, _, rfl⟩ (by decide) (S_X6_take_1 (x1 := z71) hid hG hR) mi_X6_take ml_RX6_77 rfl rfl (Nat.le_of_ble_eq_true rfl) (Nat.le_of_ble_eq_true rfl) (Nat.le_of_ble_eq_true rfl) dX6_tellingPattern_18 (fun z73 σ74 q75 => ?_)
    obtain ⟨hG76, ho77, hR78, w79, w80, w81⟩ := q75
    refine s_if_eq C dX6_tellingPattern_21 (tgt := 41) rfl (fun c82 => ?_) (fun c82 => ?_)
    ·
      refine s_iconst C dX6_tellingPattern_41 (0) (by decide) (fun z83 h84 => ?_)
      exact a_iret Rt dX6_tellingPattern_42 (nar_z (by omega)).1 (⟨hG76, (ony.tr ony.rf (ony.mono ho77 (by decide))), hR78, (show 0 ≤ z83.toInt ∧ z83.toInt ≤ 1 by intros; omega)⟩)
    ·
      refine a_aload_n C dX6_tellingPattern_24 (i := 0) rfl rfl ?_
      refine a_callVi C (i := 1) kd_1 (hid 1 (by decide)) ⟨_, _, rfl⟩ (by decide) (S_X6_takeName_1 hid hG76 hR78) mi_X6_takeName ml_RX6_103 rfl rfl (Nat.le_of_ble_eq_true rfl) (Nat.le_of_ble_eq_true rfl) (Nat.le_of_ble_eq_true rfl) dX6_tellingPattern_25 (fun z85 σ86 q87 => ?_)
      obtain ⟨hG88, ho89, hR90, w91⟩ := q87
      refine s_if_eq C dX6_tellingPattern_28 (tgt := 41) rfl (fun c92 => ?_) (fun c92 => ?_)
      ·
        refine s_iconst C dX6_tellingPattern_41 (0) (by decide) (fun z93 h94 => ?_)
        exact a_iret Rt dX6_tellingPattern_42 (nar_z (by omega)).1 (⟨hG88, (ony.tr (ony.tr ony.rf (ony.mono ho77 (by decide))) (ony.mono ho89 (by decide))), hR90, (show 0 ≤ z93.toInt ∧ z93.toInt ≤ 1 by intros; omega)⟩)
      ·
        refine a_aload_n C dX6_tellingPattern_31 (i := 0) rfl rfl ?_
        refine s_iconst C dX6_tellingPattern_32 (0) (by decide) (fun z95 h96 => ?_)
        refine s_bipush C dX6_tellingPattern_33 (9) (by decide) (fun z97 h98 => ?_)
        refine a_callVi C (i := 1) kd_1 (hid 1 (by decide)) ⟨_, _, rfl⟩ (by decide) (S_X6_takeNumber_1 (x1 := z95) (x2 := z97) hid hG88 hR90) mi_X6_takeNumber ml_RX6_90 rfl rfl (Nat.le_of_ble_eq_true rfl) (Nat.le_of_ble_eq_true rfl) (Nat.le_of_ble_eq_true rfl) dX6_tellingPattern_35 (fun z99 σ100 q101 => ?_)
        obtain ⟨hG102, ho103, hR104, w105, w106⟩ := q101
        refine s_if_ne C dX6_tellingPattern_38 (tgt := 43) rfl (fun c107 => ?_) (fun c107 => ?_)
        ·
          refine a_aload_n C dX6_tellingPattern_43 (i := 1) rfl rfl ?_
          refine a_get C fl_RX6_119 (i := 43) kd_43 (hid 43 (by decide)) (v := .ref (ad 47)) rfl dX6_tellingPattern_44 ?_
          refine a_iload_n C dX6_tellingPattern_47 (i := 2) rfl rfl ?_
          refine s_aaldH C (i := 47) kd_47 (hid 47 (by decide)) al_47 (by omega) (by omega) dX6_tellingPattern_48 (fun n108 h109 h110 => ?_)
          refine s_iconst C dX6_tellingPattern_49 (0) (by decide) (fun z111 h112 => ?_)
          refine a_aload_n C dX6_tellingPattern_50 (i := 0) rfl rfl ?_
          refine a_get C fl_RX6_67 (i := 1) kd_1 (hid 1 (by decide)) (v := .int (σ100.1 1 7)) rfl dX6_tellingPattern_51 ?_
          refine s_iast C (i := (47 + 1 + n108)) (kdH_47 n108 h110).1 (hid _ (kdH_47 n108 h110).2.2) (kdH_47 n108 h110).2.1 (by omega) (by omega) dX6_tellingPattern_54 (fun n116 h117 => ?_)
          refine s_gen2 (wH_47 (n := n108) (j := n116) hG102 h110 (by omega) (by omega)) (fun σ113 hG114 ho115 => ?_)
          have hR118 := RK.ony hR104 ho115 (by decide) (by decide)
          refine s_iconst C dX6_tellingPattern_55 (1) (by decide) (fun z119 h120 => ?_)
          refine a_istore_n C dX6_tellingPattern_56 (i := 3) rfl (by decide) rfl (vs1 := [some (.ref (ad 1)), some (.ref (ad 43)), some (.int (σ.1 43 4)), some (.int z119)]) rfl ?_
          exact j57 100000 _ (σ.1 43 4) z119 (by omega) hG114 (ony.tr (ony.tr (ony.tr (ony.tr ony.rf (ony.mono ho77 (by decide))) (ony.mono ho89 (by decide))) (ony.mono ho103 (by decide))) (ony.mono ho115 (by decide))) hR118 (by omega) (by omega)
        ·
          refine s_iconst C dX6_tellingPattern_41 (0) (by decide) (fun z121 h122 => ?_)
          exact a_iret Rt dX6_tellingPattern_42 (nar_z (by omega)).1 (⟨hG102, (ony.tr (ony.tr (ony.tr ony.rf (ony.mono ho77 (by decide))) (ony.mono ho89 (by decide))) (ony.mono ho103 (by decide))), hR104, (show 0 ≤ z121.toInt ∧ z121.toInt ≤ 1 by intros; omega)⟩)
  ·
    refine a_aload_n C dX6_tellingPattern_10 (i := 0) rfl rfl ?_
    refine s_iconst C dX6_tellingPattern_11 (2) (by decide) (fun z123 h124 => ?_)
    refine a_callVi C (i := 1) kd_1 (hid 1 (by decide)) ⟨_, _, rfl⟩ (by decide) (S_X6_refuse_1 (x1 := z123) hid hG hR) mi_X6_refuse ml_RX6_60 rfl rfl (Nat.le_of_ble_eq_true rfl) (Nat.le_of_ble_eq_true rfl) (Nat.le_of_ble_eq_true rfl) dX6_tellingPattern_12 (fun z125 σ126 q127 => ?_)
    obtain ⟨hG128, ho129, hR130, w131⟩ := q127
    exact a_iret Rt dX6_tellingPattern_15 (nar_z (by omega)).1 (⟨hG128, (ony.tr ony.rf (ony.mono ho129 (by decide))), hR130, (show 0 ≤ z125.toInt ∧ z125.toInt ≤ 1 by intros; omega)⟩)
set_option maxHeartbeats 4000000 in
set_option maxRecDepth 100000 in
theorem S_X6_unit_1_43_w6 {l : Launch} {D : va_G} {ids : List Nat} {ad : Nat → Nat} {ca : Nat → ClassId} {σ : HS} {x2 : Int32} (hid : ∀ i, i < 277 → i ∈ ids) (hG : GIc σ) (hR : RK σ) (hx2 : 6 ≤ x2.toInt ∧ x2.toInt ≤ 6) : Ki l D ids ad ca yX6_unit cX6_unit 4 .boolean 2 42 [.ref (ad 1), .ref (ad 43), .int x2] σ (fun r σ1 => (GIc σ1) ∧ (ony [1, 43, 54] σ σ1) ∧ (RK σ1) ∧ (0 ≤ r.toInt ∧ r.toInt ≤ 1)) := by
  refine Ki.of (by decide) (Nat.le_of_ble_eq_true rfl) 1 (fun Γ C Rt => ?_)
  show AW ids ad ca Γ 0 [some (.ref (ad 1)), some (.ref (ad 43)), some (.int x2), none] [] σ
  have j88 : ∀ (σ88 : HS), GIc σ88 → ony [1, 43, 54] σ σ88 → RK σ88 → AW ids ad ca Γ 88 [some (.ref (ad 1)), some (.ref (ad 43)), some (.int x2), none] [] σ88 := by
    intro σ88 hG88 ho88 hR88
    refine a_aload_n C dX6_unit_88 (i := 0) rfl rfl ?_
    refine s_bipush C dX6_unit_89 (40) (by decide) (fun z1 h2 => ?_)
    refine a_callVi C (i := 1) kd_1 (hid 1 (by decide)) ⟨_, _, rfl⟩ (by decide) (S_X6_take_1 (x1 := z1) hid hG88 hR88) mi_X6_take ml_RX6_77 rfl rfl (Nat.le_of_ble_eq_true rfl) (Nat.le_of_ble_eq_true rfl) (Nat.le_of_ble_eq_true rfl) dX6_unit_91 (fun z3 σ4 q5 => ?_)
    obtain ⟨hG6, ho7, hR8, w9, w10, w11⟩ := q5
    refine s_if_eq C dX6_unit_94 (tgt := 121) rfl (fun c12 => ?_) (fun c12 => ?_)
    ·
      refine s_iconst C dX6_unit_121 (0) (by decide) (fun z13 h14 => ?_)
      exact a_iret Rt dX6_unit_122 (nar_z (by omega)).1 (⟨hG6, (ony.tr ho88 (ony.mono ho7 (by decide))), hR8, (show 0 ≤ z13.toInt ∧ z13.toInt ≤ 1 by intros; omega)⟩)
    ·
      refine a_aload_n C dX6_unit_97 (i := 0) rfl rfl ?_
      refine a_aload_n C dX6_unit_98 (i := 1) rfl rfl ?_
      refine a_iload_n C dX6_unit_99 (i := 2) rfl rfl ?_
      refine s_iconst C dX6_unit_100 (1) (by decide) (fun z15 h16 => ?_)
      refine s_iadd C dX6_unit_101 (by omega) (fun z17 h18 => ?_)
      exfalso
      omega
  have j67 : ∀ (σ67 : HS), GIc σ67 → ony [1, 43, 54] σ σ67 → RK σ67 → AW ids ad ca Γ 67 [some (.ref (ad 1)), some (.ref (ad 43)), some (.int x2), none] [] σ67 := by
    intro σ67 hG67 ho67 hR67
    refine a_aload_n C dX6_unit_67 (i := 0) rfl rfl ?_
    refine a_get C fl_RX6_53 (i := 1) kd_1 (hid 1 (by decide)) (v := .int (σ67.1 1 6)) rfl dX6_unit_68 ?_
    refine s_bipush C dX6_unit_71 (40) (by decide) (fun z19 h20 => ?_)
    refine s_ic_ne C dX6_unit_73 (tgt := 88) rfl (fun c21 => ?_) (fun c21 => ?_)
    ·
      exact j88 _ hG67 ho67 hR67
    ·
      refine a_iload_n C dX6_unit_76 (i := 2) rfl rfl ?_
      refine s_bipush C dX6_unit_77 (6) (by decide) (fun z22 h23 => ?_)
      refine s_ic_lt C dX6_unit_79 (tgt := 88) rfl (fun c24 => absurd c24 (by omega)) (fun c24 => ?_)
      refine a_aload_n C dX6_unit_82 (i := 0) rfl rfl ?_
      refine s_iconst C dX6_unit_83 (2) (by decide) (fun z25 h26 => ?_)
      refine a_callVi C (i := 1) kd_1 (hid 1 (by decide)) ⟨_, _, rfl⟩ (by decide) (S_X6_refuse_1 (x1 := z25) hid hG67 hR67) mi_X6_refuse ml_RX6_60 rfl rfl (Nat.le_of_ble_eq_true rfl) (Nat.le_of_ble_eq_true rfl) (Nat.le_of_ble_eq_true rfl) dX6_unit_84 (fun z27 σ28 q29 => ?_)
      obtain ⟨hG30, ho31, hR32, w33⟩ := q29
      exact a_iret Rt dX6_unit_87 (nar_z (by omega)).1 (⟨hG30, (ony.tr ho67 (ony.mono ho31 (by decide))), hR32, (show 0 ≤ z27.toInt ∧ z27.toInt ≤ 1 by intros; omega)⟩)
  refine a_aload_n C dX6_unit_0 (i := 0) rfl rfl ?_
  refine a_get C fl_RX6_53 (i := 1) kd_1 (hid 1 (by decide)) (v := .int (σ.1 1 6)) rfl dX6_unit_1 ?_
  refine s_bipush C dX6_unit_4 (21) (by decide) (fun z34 h35 => ?_)
  refine s_ic_ne C dX6_unit_6 (tgt := 26) rfl (fun c36 => ?_) (fun c36 => ?_)
  ·
    refine a_aload_n C dX6_unit_26 (i := 0) rfl rfl ?_
    refine a_get C fl_RX6_53 (i := 1) kd_1 (hid 1 (by decide)) (v := .int (σ.1 1 6)) rfl dX6_unit_27 ?_
    refine s_bipush C dX6_unit_30 (11) (by decide) (fun z37 h38 => ?_)
    refine s_ic_lt C dX6_unit_32 (tgt := 67) rfl (fun c39 => ?_) (fun c39 => ?_)
    ·
      exact j67 _ hG ony.rf hR
    ·
      refine a_aload_n C dX6_unit_35 (i := 0) rfl rfl ?_
      refine a_get C fl_RX6_53 (i := 1) kd_1 (hid 1 (by decide)) (v := .int (σ.1 1 6)) rfl dX6_unit_36 ?_
      refine s_bipush C dX6_unit_39 (19) (by decide) (fun z40 h41 => ?_)
      refine s_ic_gt C dX6_unit_41 (tgt := 67) rfl (fun c42 => ?_) (fun c42 => ?_)
      ·
        exact j67 _ hG ony.rf hR
      ·
        refine a_aload_n C dX6_unit_44 (i := 1) rfl rfl ?_
        refine s_bipush C dX6_unit_45 (-10) (by decide) (fun z43 h44 => ?_)
        refine a_aload_n C dX6_unit_47 (i := 0) rfl rfl ?_
        refine a_get C fl_RX6_53 (i := 1) kd_1 (hid 1 (by decide)) (v := .int (σ.1 1 6)) rfl dX6_unit_48 ?_
        refine s_bipush C dX6_unit_51 (11) (by decide) (fun z45 h46 => ?_)
        refine s_isubU C dX6_unit_53 (fun z47 => ?_)
        refine s_isubU C dX6_unit_54 (fun z49 => ?_)
        refine a_callVv C (i := 43) kd_43 (hid 43 (by decide)) ⟨_, _, rfl⟩ (by decide) (S_X10_emit_43 (x1 := z49) hid hG) mi_X10_emit ml_RX6_138 rfl rfl (Nat.le_of_ble_eq_true rfl) (Nat.le_of_ble_eq_true rfl) (Nat.le_of_ble_eq_true rfl) dX6_unit_55 (fun σ52 q53 => ?_)
        obtain ⟨hG54, ho55⟩ := q53
        have hR56 := RK.ony hR ho55 (by decide) (by decide)
        refine a_aload_n C dX6_unit_58 (i := 0) rfl rfl ?_
        refine a_aload_n C dX6_unit_59 (i := 0) rfl rfl ?_
        refine a_get C fl_RX6_53 (i := 1) kd_1 (hid 1 (by decide)) (v := .int (σ52.1 1 6)) rfl dX6_unit_60 ?_
        refine a_callVi C (i := 1) kd_1 (hid 1 (by decide)) ⟨_, _, rfl⟩ (by decide) (S_X6_take_1 (x1 := (σ52.1 1 6)) hid hG54 hR56) mi_X6_take ml_RX6_77 rfl rfl (Nat.le_of_ble_eq_true rfl) (Nat.le_of_ble_eq_true rfl) (Nat.le_of_ble_eq_true rfl) dX6_unit_63 (fun z57 σ58 q59 => ?_)
        obtain ⟨hG60, ho61, hR62, w63, w64, w65⟩ := q59
        exact a_iret Rt dX6_unit_66 (nar_z (by omega)).1 (⟨hG60, (ony.tr (ony.tr ony.rf (ony.mono ho55 (by decide))) (ony.mono ho61 (by decide))), hR62, (show 0 ≤ z57.toInt ∧ z57.toInt ≤ 1 by intros; omega)⟩)
  ·
    refine a_aload_n C dX6_unit_9 (i := 0) rfl rfl ?_
    refine s_bipush C dX6_unit_10 (21) (by decide) (fun z66 h67 => ?_)
    refine a_callVi C (i := 1) kd_1 (hid 1 (by decide)) ⟨_, _, rfl⟩ (by decide) (S_X6_take_1 (x1 := z66) hid hG hR) mi_X6_take ml_RX6_77 rfl rfl (Nat.le_of_ble_eq_true rfl) (Nat.le_of_ble_eq_true rfl) (Nat.le_of_ble_eq_true rfl) dX6_unit_12 (fun z68 σ69 q70 => ?_)
    obtain ⟨hG71, ho72, hR73, w74, w75, w76⟩ := q70
    refine a_istore_n C dX6_unit_15 (i := 3) rfl (by decide) rfl (vs1 := [some (.ref (ad 1)), some (.ref (ad 43)), some (.int x2), some (.int z68)]) rfl ?_
    refine a_aload_n C dX6_unit_16 (i := 1) rfl rfl ?_
    refine a_aload_n C dX6_unit_17 (i := 0) rfl rfl ?_
    refine a_get C fl_RX6_67 (i := 1) kd_1 (hid 1 (by decide)) (v := .int (σ69.1 1 7)) rfl dX6_unit_18 ?_
    refine a_callVv C (i := 43) kd_43 (hid 43 (by decide)) ⟨_, _, rfl⟩ (by decide) (S_X10_emit_43 (x1 := (σ69.1 1 7)) hid hG71) mi_X10_emit ml_RX6_138 rfl rfl (Nat.le_of_ble_eq_true rfl) (Nat.le_of_ble_eq_true rfl) (Nat.le_of_ble_eq_true rfl) dX6_unit_21 (fun σ78 q79 => ?_)
    obtain ⟨hG80, ho81⟩ := q79
    have hR82 := RK.ony hR73 ho81 (by decide) (by decide)
    refine a_iload_n C dX6_unit_24 (i := 3) rfl rfl ?_
    exact a_iret Rt dX6_unit_25 (nar_z (by omega)).1 (⟨hG80, (ony.tr (ony.tr ony.rf (ony.mono ho72 (by decide))) (ony.mono ho81 (by decide))), hR82, (show 0 ≤ z68.toInt ∧ z68.toInt ≤ 1 by intros; omega)⟩)
set_option maxHeartbeats 4000000 in
set_option maxRecDepth 100000 in
theorem S_X6_product_1_43_w6 {l : Launch} {D : va_G} {ids : List Nat} {ad : Nat → Nat} {ca : Nat → ClassId} {σ : HS} {x2 : Int32} (hid : ∀ i, i < 277 → i ∈ ids) (hG : GIc σ) (hR : RK σ) (hx2 : 6 ≤ x2.toInt ∧ x2.toInt ≤ 6) : Ki l D ids ad ca yX6_product cX6_product 6 .boolean 3 65 [.ref (ad 1), .ref (ad 43), .int x2] σ (fun r σ1 => (GIc σ1) ∧ (ony [1, 43, 54] σ σ1) ∧ (RK σ1) ∧ (0 ≤ r.toInt ∧ r.toInt ≤ 1)) := by
  refine Ki.of (by decide) (Nat.le_of_ble_eq_true rfl) 3 (fun Γ C Rt => ?_)
  show AW ids ad ca Γ 0 [some (.ref (ad 1)), some (.ref (ad 43)), some (.int x2), none, none, none] [] σ
  have j10 : ∀ (d10 : Nat) (σ10 : HS) (y10_3 : Int32) (y10_4 : Int32), 400 - y10_4.toInt < d10 → GIc σ10 → ony [1, 43, 54] σ σ10 → RK σ10 → 0 ≤ y10_3.toInt ∧ y10_3.toInt ≤ 1 → 0 ≤ y10_4.toInt ∧ y10_4.toInt ≤ 400 → AW ids ad ca Γ 10 [some (.ref (ad 1)), some (.ref (ad 43)), some (.int x2), some (.int y10_3), some (.int y10_4), none] [] σ10 := by
    intro d10
    induction d10 with
    | zero =>
      intro σ10 y10_3 y10_4 hd10 hG10 ho10 hR10 hx10_0 hx10_1
      exfalso
      omega
    | succ d10 ih10 =>
      intro σ10 y10_3 y10_4 hd10 hG10 ho10 hR10 hx10_0 hx10_1
      have j85 : ∀ (σ85 : HS) (y85_3 : Int32) (u85_0 : Int32), GIc σ85 → ony [1, 43, 54] σ σ85 → RK σ85 → 0 ≤ y85_3.toInt ∧ y85_3.toInt ≤ 1 → -4 ≤ u85_0.toInt ∧ u85_0.toInt ≤ -3 → 0 ≤ y10_4.toInt ∧ y10_4.toInt ≤ 399 → AW ids ad ca Γ 85 [some (.ref (ad 1)), some (.ref (ad 43)), some (.int x2), some (.int y85_3), some (.int y10_4), none] [.int u85_0, .ref (ad 43)] σ85 := by
        intro σ85 y85_3 u85_0 hG85 ho85 hR85 hx85_0 hx85_1 hx85_2
        refine a_callVv C (i := 43) kd_43 (hid 43 (by decide)) ⟨_, _, rfl⟩ (by decide) (S_X10_emit_43 (x1 := u85_0) hid hG85) mi_X10_emit ml_RX6_138 rfl rfl (Nat.le_of_ble_eq_true rfl) (Nat.le_of_ble_eq_true rfl) (Nat.le_of_ble_eq_true rfl) dX6_product_85 (fun σ2 q3 => ?_)
        obtain ⟨hG4, ho5⟩ := q3
        have hR6 := RK.ony hR85 ho5 (by decide) (by decide)
        refine s_iinc C dX6_product_88 rfl (1) (by decide) (by omega) (by decide) rfl (fun z7 h8 => ?_)
        show AW ids ad ca Γ 91 [some (.ref (ad 1)), some (.ref (ad 43)), some (.int x2), some (.int y85_3), some (.int z7), none] _ _
        refine a_goto C dX6_product_91 (tgt := 10) rfl ?_
        exact ih10 _ y85_3 z7 (by omega) hG4 (ony.tr ho85 (ony.mono ho5 (by decide))) hR6 (by omega) (by omega)
      have j69 : ∀ (σ69 : HS) (y69_5 : Int32) (u69_0 : Int32), GIc σ69 → ony [1, 43, 54] σ σ69 → RK σ69 → 0 ≤ u69_0.toInt ∧ u69_0.toInt ≤ 1 → 0 ≤ y10_4.toInt ∧ y10_4.toInt ≤ 399 → AW ids ad ca Γ 69 [some (.ref (ad 1)), some (.ref (ad 43)), some (.int x2), none, some (.int y10_4), some (.int y69_5)] [.int u69_0] σ69 := by
        intro σ69 y69_5 u69_0 hG69 ho69 hR69 hx69_0 hx69_1
        refine a_istore_n C dX6_product_69 (i := 3) rfl (by decide) rfl (vs1 := [some (.ref (ad 1)), some (.ref (ad 43)), some (.int x2), some (.int u69_0), some (.int y10_4), some (.int y69_5)]) rfl ?_
        refine a_aload_n C dX6_product_70 (i := 1) rfl rfl ?_
        refine a_iload C dX6_product_71 rfl ?_
        refine s_bipush C dX6_product_73 (42) (by decide) (fun z9 h10 => ?_)
        refine s_ic_ne C dX6_product_75 (tgt := 83) rfl (fun c11 => ?_) (fun c11 => ?_)
        ·
          refine s_bipush C dX6_product_83 (-4) (by decide) (fun z12 h13 => ?_)
          refine AW.sub (vs' := [some (.ref (ad 1)), some (.ref (ad 43)), some (.int x2), some (.int u69_0), some (.int y10_4), none]) (lsub_of (by simp [lsubB])) ?_
          exact j85 _ u69_0 z12 hG69 ho69 hR69 (by omega) (by omega) (by omega)
        ·
          refine s_bipush C dX6_product_78 (-3) (by decide) (fun z14 h15 => ?_)
          refine a_goto C dX6_product_80 (tgt := 85) rfl ?_
          refine AW.sub (vs' := [some (.ref (ad 1)), some (.ref (ad 43)), some (.int x2), some (.int u69_0), some (.int y10_4), none]) (lsub_of (by simp [lsubB])) ?_
          exact j85 _ u69_0 z14 hG69 ho69 hR69 (by omega) (by omega) (by omega)
      have j68 : ∀ (σ68 : HS) (y68_5 : Int32), GIc σ68 → ony [1, 43, 54] σ σ68 → RK σ68 → 0 ≤ y10_4.toInt ∧ y10_4.toInt ≤ 399 → AW ids ad ca Γ 68 [some (.ref (ad 1)), some (.ref (ad 43)), some (.int x2), none, some (.int y10_4), some (.int y68_5)] [] σ68 := by
        intro σ68 y68_5 hG68 ho68 hR68 hx68_0
        refine s_iconst C dX6_product_68 (0) (by decide) (fun z16 h17 => ?_)
        exact j69 _ y68_5 z16 hG68 ho68 hR68 (by omega) (by omega)
      have j32 : ∀ (σ32 : HS), GIc σ32 → ony [1, 43, 54] σ σ32 → RK σ32 → 1 ≤ y10_3.toInt ∧ y10_3.toInt ≤ 1 → AW ids ad ca Γ 32 [some (.ref (ad 1)), some (.ref (ad 43)), some (.int x2), some (.int y10_3), some (.int y10_4), none] [] σ32 := by
        intro σ32 hG32 ho32 hR32 hx32_0
        refine a_iload C dX6_product_32 rfl ?_
        refine s_sipush C dX6_product_34 (400) (by decide) (fun z18 h19 => ?_)
        refine s_ic_ge C dX6_product_37 (tgt := 94) rfl (fun c20 => ?_) (fun c20 => ?_)
        ·
          refine a_iload_n C dX6_product_94 (i := 3) rfl rfl ?_
          exact a_iret Rt dX6_product_95 (nar_z (by omega)).1 (⟨hG32, ho32, hR32, (show 0 ≤ y10_3.toInt ∧ y10_3.toInt ≤ 1 by intros; omega)⟩)
        ·
          refine a_aload_n C dX6_product_40 (i := 0) rfl rfl ?_
          refine a_get C fl_RX6_53 (i := 1) kd_1 (hid 1 (by decide)) (v := .int (σ32.1 1 6)) rfl dX6_product_41 ?_
          refine a_istore C dX6_product_44 (by decide) rfl (vs1 := [some (.ref (ad 1)), some (.ref (ad 43)), some (.int x2), some (.int y10_3), some (.int y10_4), some (.int (σ32.1 1 6))]) rfl ?_
          refine a_aload_n C dX6_product_46 (i := 0) rfl rfl ?_
          refine a_iload C dX6_product_47 rfl ?_
          refine a_callVi C (i := 1) kd_1 (hid 1 (by decide)) ⟨_, _, rfl⟩ (by decide) (S_X6_take_1 (x1 := (σ32.1 1 6)) hid hG32 hR32) mi_X6_take ml_RX6_77 rfl rfl (Nat.le_of_ble_eq_true rfl) (Nat.le_of_ble_eq_true rfl) (Nat.le_of_ble_eq_true rfl) dX6_product_49 (fun z21 σ22 q23 => ?_)
          obtain ⟨hG24, ho25, hR26, w27, w28, w29⟩ := q23
          refine s_if_eq C dX6_product_52 (tgt := 68) rfl (fun c30 => ?_) (fun c30 => ?_)
          ·
            refine AW.sub (vs' := [some (.ref (ad 1)), some (.ref (ad 43)), some (.int x2), none, some (.int y10_4), some (.int (σ32.1 1 6))]) (lsub_of (by simp [lsubB])) ?_
            exact j68 _ (σ32.1 1 6) hG24 (ony.tr ho32 (ony.mono ho25 (by decide))) hR26 (by omega)
          ·
            refine a_aload_n C dX6_product_55 (i := 0) rfl rfl ?_
            refine a_aload_n C dX6_product_56 (i := 1) rfl rfl ?_
            refine a_iload_n C dX6_product_57 (i := 2) rfl rfl ?_
            refine a_callVi C (i := 1) kd_1 (hid 1 (by decide)) ⟨_, _, rfl⟩ (by decide) (S_X6_unit_1_43_w6 (x2 := x2) hid hG24 hR26 (by omega)) mi_X6_unit ml_RX6_147 rfl rfl (Nat.le_of_ble_eq_true rfl) (Nat.le_of_ble_eq_true rfl) (Nat.le_of_ble_eq_true rfl) dX6_product_58 (fun z31 σ32 q33 => ?_)
            obtain ⟨hG34, ho35, hR36, w37⟩ := q33
            refine s_if_eq C dX6_product_61 (tgt := 68) rfl (fun c38 => ?_) (fun c38 => ?_)
            ·
              refine AW.sub (vs' := [some (.ref (ad 1)), some (.ref (ad 43)), some (.int x2), none, some (.int y10_4), some (.int (σ32.1 1 6))]) (lsub_of (by simp [lsubB])) ?_
              exact j68 _ (σ32.1 1 6) hG34 (ony.tr (ony.tr ho32 (ony.mono ho25 (by decide))) (ony.mono ho35 (by decide))) hR36 (by omega)
            ·
              refine s_iconst C dX6_product_64 (1) (by decide) (fun z39 h40 => ?_)
              refine a_goto C dX6_product_65 (tgt := 69) rfl ?_
              refine AW.sub (vs' := [some (.ref (ad 1)), some (.ref (ad 43)), some (.int x2), none, some (.int y10_4), some (.int (σ32.1 1 6))]) (lsub_of (by simp [lsubB])) ?_
              exact j69 _ (σ32.1 1 6) z39 hG34 (ony.tr (ony.tr ho32 (ony.mono ho25 (by decide))) (ony.mono ho35 (by decide))) hR36 (by omega) (by omega)
      refine a_iload_n C dX6_product_10 (i := 3) rfl rfl ?_
      refine s_if_eq C dX6_product_11 (tgt := 94) rfl (fun c41 => ?_) (fun c41 => ?_)
      ·
        refine a_iload_n C dX6_product_94 (i := 3) rfl rfl ?_
        exact a_iret Rt dX6_product_95 (nar_z (by omega)).1 (⟨hG10, ho10, hR10, (show 0 ≤ y10_3.toInt ∧ y10_3.toInt ≤ 1 by intros; omega)⟩)
      ·
        refine a_aload_n C dX6_product_14 (i := 0) rfl rfl ?_
        refine a_get C fl_RX6_53 (i := 1) kd_1 (hid 1 (by decide)) (v := .int (σ10.1 1 6)) rfl dX6_product_15 ?_
        refine s_bipush C dX6_product_18 (42) (by decide) (fun z42 h43 => ?_)
        refine s_ic_eq C dX6_product_20 (tgt := 32) rfl (fun c44 => ?_) (fun c44 => ?_)
        ·
          exact j32 _ hG10 ho10 hR10 (by omega)
        ·
          refine a_aload_n C dX6_product_23 (i := 0) rfl rfl ?_
          refine a_get C fl_RX6_53 (i := 1) kd_1 (hid 1 (by decide)) (v := .int (σ10.1 1 6)) rfl dX6_product_24 ?_
          refine s_bipush C dX6_product_27 (47) (by decide) (fun z45 h46 => ?_)
          refine s_ic_ne C dX6_product_29 (tgt := 94) rfl (fun c47 => ?_) (fun c47 => ?_)
          ·
            refine a_iload_n C dX6_product_94 (i := 3) rfl rfl ?_
            exact a_iret Rt dX6_product_95 (nar_z (by omega)).1 (⟨hG10, ho10, hR10, (show 0 ≤ y10_3.toInt ∧ y10_3.toInt ≤ 1 by intros; omega)⟩)
          ·
            exact j32 _ hG10 ho10 hR10 (by omega)
  refine a_aload_n C dX6_product_0 (i := 0) rfl rfl ?_
  refine a_aload_n C dX6_product_1 (i := 1) rfl rfl ?_
  refine a_iload_n C dX6_product_2 (i := 2) rfl rfl ?_
  refine a_callVi C (i := 1) kd_1 (hid 1 (by decide)) ⟨_, _, rfl⟩ (by decide) (S_X6_unit_1_43_w6 (x2 := x2) hid hG hR (by omega)) mi_X6_unit ml_RX6_147 rfl rfl (Nat.le_of_ble_eq_true rfl) (Nat.le_of_ble_eq_true rfl) (Nat.le_of_ble_eq_true rfl) dX6_product_3 (fun z48 σ49 q50 => ?_)
  obtain ⟨hG51, ho52, hR53, w54⟩ := q50
  refine a_istore_n C dX6_product_6 (i := 3) rfl (by decide) rfl (vs1 := [some (.ref (ad 1)), some (.ref (ad 43)), some (.int x2), some (.int z48), none, none]) rfl ?_
  refine s_iconst C dX6_product_7 (0) (by decide) (fun z55 h56 => ?_)
  refine a_istore C dX6_product_8 (by decide) rfl (vs1 := [some (.ref (ad 1)), some (.ref (ad 43)), some (.int x2), some (.int z48), some (.int z55), none]) rfl ?_
  exact j10 100000 _ z48 z55 (by omega) hG51 (ony.tr ony.rf (ony.mono ho52 (by decide))) hR53 (by omega) (by omega)
set_option maxHeartbeats 4000000 in
set_option maxRecDepth 100000 in
theorem S_X6_expression_1_43_w6 {l : Launch} {D : va_G} {ids : List Nat} {ad : Nat → Nat} {ca : Nat → ClassId} {σ : HS} {x2 : Int32} (hid : ∀ i, i < 277 → i ∈ ids) (hG : GIc σ) (hR : RK σ) (hx2 : 6 ≤ x2.toInt ∧ x2.toInt ≤ 6) : Ki l D ids ad ca yX6_expression cX6_expression 6 .boolean 4 90 [.ref (ad 1), .ref (ad 43), .int x2] σ (fun r σ1 => (GIc σ1) ∧ (ony [1, 43, 54] σ σ1) ∧ (RK σ1) ∧ (0 ≤ r.toInt ∧ r.toInt ≤ 1)) := by
  refine Ki.of (by decide) (Nat.le_of_ble_eq_true rfl) 3 (fun Γ C Rt => ?_)
  show AW ids ad ca Γ 0 [some (.ref (ad 1)), some (.ref (ad 43)), some (.int x2), none, none, none] [] σ
  have j10 : ∀ (d10 : Nat) (σ10 : HS) (y10_3 : Int32) (y10_4 : Int32), 400 - y10_4.toInt < d10 → GIc σ10 → ony [1, 43, 54] σ σ10 → RK σ10 → 0 ≤ y10_3.toInt ∧ y10_3.toInt ≤ 1 → 0 ≤ y10_4.toInt ∧ y10_4.toInt ≤ 400 → AW ids ad ca Γ 10 [some (.ref (ad 1)), some (.ref (ad 43)), some (.int x2), some (.int y10_3), some (.int y10_4), none] [] σ10 := by
    intro d10
    induction d10 with
    | zero =>
      intro σ10 y10_3 y10_4 hd10 hG10 ho10 hR10 hx10_0 hx10_1
      exfalso
      omega
    | succ d10 ih10 =>
      intro σ10 y10_3 y10_4 hd10 hG10 ho10 hR10 hx10_0 hx10_1
      have j84 : ∀ (σ84 : HS) (y84_3 : Int32) (u84_0 : Int32), GIc σ84 → ony [1, 43, 54] σ σ84 → RK σ84 → 0 ≤ y84_3.toInt ∧ y84_3.toInt ≤ 1 → -2 ≤ u84_0.toInt ∧ u84_0.toInt ≤ -1 → 0 ≤ y10_4.toInt ∧ y10_4.toInt ≤ 399 → AW ids ad ca Γ 84 [some (.ref (ad 1)), some (.ref (ad 43)), some (.int x2), some (.int y84_3), some (.int y10_4), none] [.int u84_0, .ref (ad 43)] σ84 := by
        intro σ84 y84_3 u84_0 hG84 ho84 hR84 hx84_0 hx84_1 hx84_2
        refine a_callVv C (i := 43) kd_43 (hid 43 (by decide)) ⟨_, _, rfl⟩ (by decide) (S_X10_emit_43 (x1 := u84_0) hid hG84) mi_X10_emit ml_RX6_138 rfl rfl (Nat.le_of_ble_eq_true rfl) (Nat.le_of_ble_eq_true rfl) (Nat.le_of_ble_eq_true rfl) dX6_expression_84 (fun σ2 q3 => ?_)
        obtain ⟨hG4, ho5⟩ := q3
        have hR6 := RK.ony hR84 ho5 (by decide) (by decide)
        refine s_iinc C dX6_expression_87 rfl (1) (by decide) (by omega) (by decide) rfl (fun z7 h8 => ?_)
        show AW ids ad ca Γ 90 [some (.ref (ad 1)), some (.ref (ad 43)), some (.int x2), some (.int y84_3), some (.int z7), none] _ _
        refine a_goto C dX6_expression_90 (tgt := 10) rfl ?_
        exact ih10 _ y84_3 z7 (by omega) hG4 (ony.tr ho84 (ony.mono ho5 (by decide))) hR6 (by omega) (by omega)
      have j69 : ∀ (σ69 : HS) (y69_5 : Int32) (u69_0 : Int32), GIc σ69 → ony [1, 43, 54] σ σ69 → RK σ69 → 0 ≤ u69_0.toInt ∧ u69_0.toInt ≤ 1 → 0 ≤ y10_4.toInt ∧ y10_4.toInt ≤ 399 → AW ids ad ca Γ 69 [some (.ref (ad 1)), some (.ref (ad 43)), some (.int x2), none, some (.int y10_4), some (.int y69_5)] [.int u69_0] σ69 := by
        intro σ69 y69_5 u69_0 hG69 ho69 hR69 hx69_0 hx69_1
        refine a_istore_n C dX6_expression_69 (i := 3) rfl (by decide) rfl (vs1 := [some (.ref (ad 1)), some (.ref (ad 43)), some (.int x2), some (.int u69_0), some (.int y10_4), some (.int y69_5)]) rfl ?_
        refine a_aload_n C dX6_expression_70 (i := 1) rfl rfl ?_
        refine a_iload C dX6_expression_71 rfl ?_
        refine s_bipush C dX6_expression_73 (43) (by decide) (fun z9 h10 => ?_)
        refine s_ic_ne C dX6_expression_75 (tgt := 82) rfl (fun c11 => ?_) (fun c11 => ?_)
        ·
          refine s_bipush C dX6_expression_82 (-2) (by decide) (fun z12 h13 => ?_)
          refine AW.sub (vs' := [some (.ref (ad 1)), some (.ref (ad 43)), some (.int x2), some (.int u69_0), some (.int y10_4), none]) (lsub_of (by simp [lsubB])) ?_
          exact j84 _ u69_0 z12 hG69 ho69 hR69 (by omega) (by omega) (by omega)
        ·
          refine s_iconst C dX6_expression_78 (-1) (by decide) (fun z14 h15 => ?_)
          refine a_goto C dX6_expression_79 (tgt := 84) rfl ?_
          refine AW.sub (vs' := [some (.ref (ad 1)), some (.ref (ad 43)), some (.int x2), some (.int u69_0), some (.int y10_4), none]) (lsub_of (by simp [lsubB])) ?_
          exact j84 _ u69_0 z14 hG69 ho69 hR69 (by omega) (by omega) (by omega)
      have j68 : ∀ (σ68 : HS) (y68_5 : Int32), GIc σ68 → ony [1, 43, 54] σ σ68 → RK σ68 → 0 ≤ y10_4.toInt ∧ y10_4.toInt ≤ 399 → AW ids ad ca Γ 68 [some (.ref (ad 1)), some (.ref (ad 43)), some (.int x2), none, some (.int y10_4), some (.int y68_5)] [] σ68 := by
        intro σ68 y68_5 hG68 ho68 hR68 hx68_0
        refine s_iconst C dX6_expression_68 (0) (by decide) (fun z16 h17 => ?_)
        exact j69 _ y68_5 z16 hG68 ho68 hR68 (by omega) (by omega)
      have j32 : ∀ (σ32 : HS), GIc σ32 → ony [1, 43, 54] σ σ32 → RK σ32 → 1 ≤ y10_3.toInt ∧ y10_3.toInt ≤ 1 → AW ids ad ca Γ 32 [some (.ref (ad 1)), some (.ref (ad 43)), some (.int x2), some (.int y10_3), some (.int y10_4), none] [] σ32 := by
        intro σ32 hG32 ho32 hR32 hx32_0
        refine a_iload C dX6_expression_32 rfl ?_
        refine s_sipush C dX6_expression_34 (400) (by decide) (fun z18 h19 => ?_)
        refine s_ic_ge C dX6_expression_37 (tgt := 93) rfl (fun c20 => ?_) (fun c20 => ?_)
        ·
          refine a_iload_n C dX6_expression_93 (i := 3) rfl rfl ?_
          exact a_iret Rt dX6_expression_94 (nar_z (by omega)).1 (⟨hG32, ho32, hR32, (show 0 ≤ y10_3.toInt ∧ y10_3.toInt ≤ 1 by intros; omega)⟩)
        ·
          refine a_aload_n C dX6_expression_40 (i := 0) rfl rfl ?_
          refine a_get C fl_RX6_53 (i := 1) kd_1 (hid 1 (by decide)) (v := .int (σ32.1 1 6)) rfl dX6_expression_41 ?_
          refine a_istore C dX6_expression_44 (by decide) rfl (vs1 := [some (.ref (ad 1)), some (.ref (ad 43)), some (.int x2), some (.int y10_3), some (.int y10_4), some (.int (σ32.1 1 6))]) rfl ?_
          refine a_aload_n C dX6_expression_46 (i := 0) rfl rfl ?_
          refine a_iload C dX6_expression_47 rfl ?_
          refine a_callVi C (i := 1) kd_1 (hid 1 (by decide)) ⟨_, _, rfl⟩ (by decide) (S_X6_take_1 (x1 := (σ32.1 1 6)) hid hG32 hR32) mi_X6_take ml_RX6_77 rfl rfl (Nat.le_of_ble_eq_true rfl) (Nat.le_of_ble_eq_true rfl) (Nat.le_of_ble_eq_true rfl) dX6_expression_49 (fun z21 σ22 q23 => ?_)
          obtain ⟨hG24, ho25, hR26, w27, w28, w29⟩ := q23
          refine s_if_eq C dX6_expression_52 (tgt := 68) rfl (fun c30 => ?_) (fun c30 => ?_)
          ·
            refine AW.sub (vs' := [some (.ref (ad 1)), some (.ref (ad 43)), some (.int x2), none, some (.int y10_4), some (.int (σ32.1 1 6))]) (lsub_of (by simp [lsubB])) ?_
            exact j68 _ (σ32.1 1 6) hG24 (ony.tr ho32 (ony.mono ho25 (by decide))) hR26 (by omega)
          ·
            refine a_aload_n C dX6_expression_55 (i := 0) rfl rfl ?_
            refine a_aload_n C dX6_expression_56 (i := 1) rfl rfl ?_
            refine a_iload_n C dX6_expression_57 (i := 2) rfl rfl ?_
            refine a_callVi C (i := 1) kd_1 (hid 1 (by decide)) ⟨_, _, rfl⟩ (by decide) (S_X6_product_1_43_w6 (x2 := x2) hid hG24 hR26 (by omega)) mi_X6_product ml_RX6_144 rfl rfl (Nat.le_of_ble_eq_true rfl) (Nat.le_of_ble_eq_true rfl) (Nat.le_of_ble_eq_true rfl) dX6_expression_58 (fun z31 σ32 q33 => ?_)
            obtain ⟨hG34, ho35, hR36, w37⟩ := q33
            refine s_if_eq C dX6_expression_61 (tgt := 68) rfl (fun c38 => ?_) (fun c38 => ?_)
            ·
              refine AW.sub (vs' := [some (.ref (ad 1)), some (.ref (ad 43)), some (.int x2), none, some (.int y10_4), some (.int (σ32.1 1 6))]) (lsub_of (by simp [lsubB])) ?_
              exact j68 _ (σ32.1 1 6) hG34 (ony.tr (ony.tr ho32 (ony.mono ho25 (by decide))) (ony.mono ho35 (by decide))) hR36 (by omega)
            ·
              refine s_iconst C dX6_expression_64 (1) (by decide) (fun z39 h40 => ?_)
              refine a_goto C dX6_expression_65 (tgt := 69) rfl ?_
              refine AW.sub (vs' := [some (.ref (ad 1)), some (.ref (ad 43)), some (.int x2), none, some (.int y10_4), some (.int (σ32.1 1 6))]) (lsub_of (by simp [lsubB])) ?_
              exact j69 _ (σ32.1 1 6) z39 hG34 (ony.tr (ony.tr ho32 (ony.mono ho25 (by decide))) (ony.mono ho35 (by decide))) hR36 (by omega) (by omega)
      refine a_iload_n C dX6_expression_10 (i := 3) rfl rfl ?_
      refine s_if_eq C dX6_expression_11 (tgt := 93) rfl (fun c41 => ?_) (fun c41 => ?_)
      ·
        refine a_iload_n C dX6_expression_93 (i := 3) rfl rfl ?_
        exact a_iret Rt dX6_expression_94 (nar_z (by omega)).1 (⟨hG10, ho10, hR10, (show 0 ≤ y10_3.toInt ∧ y10_3.toInt ≤ 1 by intros; omega)⟩)
      ·
        refine a_aload_n C dX6_expression_14 (i := 0) rfl rfl ?_
        refine a_get C fl_RX6_53 (i := 1) kd_1 (hid 1 (by decide)) (v := .int (σ10.1 1 6)) rfl dX6_expression_15 ?_
        refine s_bipush C dX6_expression_18 (43) (by decide) (fun z42 h43 => ?_)
        refine s_ic_eq C dX6_expression_20 (tgt := 32) rfl (fun c44 => ?_) (fun c44 => ?_)
        ·
          exact j32 _ hG10 ho10 hR10 (by omega)
        ·
          refine a_aload_n C dX6_expression_23 (i := 0) rfl rfl ?_
          refine a_get C fl_RX6_53 (i := 1) kd_1 (hid 1 (by decide)) (v := .int (σ10.1 1 6)) rfl dX6_expression_24 ?_
          refine s_bipush C dX6_expression_27 (45) (by decide) (fun z45 h46 => ?_)
          refine s_ic_ne C dX6_expression_29 (tgt := 93) rfl (fun c47 => ?_) (fun c47 => ?_)
          ·
            refine a_iload_n C dX6_expression_93 (i := 3) rfl rfl ?_
            exact a_iret Rt dX6_expression_94 (nar_z (by omega)).1 (⟨hG10, ho10, hR10, (show 0 ≤ y10_3.toInt ∧ y10_3.toInt ≤ 1 by intros; omega)⟩)
          ·
            exact j32 _ hG10 ho10 hR10 (by omega)
  refine a_aload_n C dX6_expression_0 (i := 0) rfl rfl ?_
  refine a_aload_n C dX6_expression_1 (i := 1) rfl rfl ?_
  refine a_iload_n C dX6_expression_2 (i := 2) rfl rfl ?_
  refine a_callVi C (i := 1) kd_1 (hid 1 (by decide)) ⟨_, _, rfl⟩ (by decide) (S_X6_product_1_43_w6 (x2 := x2) hid hG hR (by omega)) mi_X6_product ml_RX6_144 rfl rfl (Nat.le_of_ble_eq_true rfl) (Nat.le_of_ble_eq_true rfl) (Nat.le_of_ble_eq_true rfl) dX6_expression_3 (fun z48 σ49 q50 => ?_)
  obtain ⟨hG51, ho52, hR53, w54⟩ := q50
  refine a_istore_n C dX6_expression_6 (i := 3) rfl (by decide) rfl (vs1 := [some (.ref (ad 1)), some (.ref (ad 43)), some (.int x2), some (.int z48), none, none]) rfl ?_
  refine s_iconst C dX6_expression_7 (0) (by decide) (fun z55 h56 => ?_)
  refine a_istore C dX6_expression_8 (by decide) rfl (vs1 := [some (.ref (ad 1)), some (.ref (ad 43)), some (.int x2), some (.int z48), some (.int z55), none]) rfl ?_
  exact j10 100000 _ z48 z55 (by omega) hG51 (ony.tr ony.rf (ony.mono ho52 (by decide))) hR53 (by omega) (by omega)
set_option maxHeartbeats 4000000 in
set_option maxRecDepth 100000 in
theorem S_X6_unit_1_43_w5 {l : Launch} {D : va_G} {ids : List Nat} {ad : Nat → Nat} {ca : Nat → ClassId} {σ : HS} {x2 : Int32} (hid : ∀ i, i < 277 → i ∈ ids) (hG : GIc σ) (hR : RK σ) (hx2 : 5 ≤ x2.toInt ∧ x2.toInt ≤ 5) : Ki l D ids ad ca yX6_unit cX6_unit 4 .boolean 5 115 [.ref (ad 1), .ref (ad 43), .int x2] σ (fun r σ1 => (GIc σ1) ∧ (ony [1, 43, 54] σ σ1) ∧ (RK σ1) ∧ (0 ≤ r.toInt ∧ r.toInt ≤ 1)) := by
  refine Ki.of (by decide) (Nat.le_of_ble_eq_true rfl) 1 (fun Γ C Rt => ?_)
  show AW ids ad ca Γ 0 [some (.ref (ad 1)), some (.ref (ad 43)), some (.int x2), none] [] σ
  have j88 : ∀ (σ88 : HS), GIc σ88 → ony [1, 43, 54] σ σ88 → RK σ88 → AW ids ad ca Γ 88 [some (.ref (ad 1)), some (.ref (ad 43)), some (.int x2), none] [] σ88 := by
    intro σ88 hG88 ho88 hR88
    refine a_aload_n C dX6_unit_88 (i := 0) rfl rfl ?_
    refine s_bipush C dX6_unit_89 (40) (by decide) (fun z1 h2 => ?_)
    refine a_callVi C (i := 1) kd_1 (hid 1 (by decide)) ⟨_, _, rfl⟩ (by decide) (S_X6_take_1 (x1 := z1) hid hG88 hR88) mi_X6_take ml_RX6_77 rfl rfl (Nat.le_of_ble_eq_true rfl) (Nat.le_of_ble_eq_true rfl) (Nat.le_of_ble_eq_true rfl) dX6_unit_91 (fun z3 σ4 q5 => ?_)
    obtain ⟨hG6, ho7, hR8, w9, w10, w11⟩ := q5
    refine s_if_eq C dX6_unit_94 (tgt := 121) rfl (fun c12 => ?_) (fun c12 => ?_)
    ·
      refine s_iconst C dX6_unit_121 (0) (by decide) (fun z13 h14 => ?_)
      exact a_iret Rt dX6_unit_122 (nar_z (by omega)).1 (⟨hG6, (ony.tr ho88 (ony.mono ho7 (by decide))), hR8, (show 0 ≤ z13.toInt ∧ z13.toInt ≤ 1 by intros; omega)⟩)
    ·
      refine a_aload_n C dX6_unit_97 (i := 0) rfl rfl ?_
      refine a_aload_n C dX6_unit_98 (i := 1) rfl rfl ?_
      refine a_iload_n C dX6_unit_99 (i := 2) rfl rfl ?_
      refine s_iconst C dX6_unit_100 (1) (by decide) (fun z15 h16 => ?_)
      refine s_iadd C dX6_unit_101 (by omega) (fun z17 h18 => ?_)
      refine a_callVi C (i := 1) kd_1 (hid 1 (by decide)) ⟨_, _, rfl⟩ (by decide) (S_X6_expression_1_43_w6 (x2 := z17) hid hG6 hR8 (by omega)) mi_X6_expression ml_RX6_135 rfl rfl (Nat.le_of_ble_eq_true rfl) (Nat.le_of_ble_eq_true rfl) (Nat.le_of_ble_eq_true rfl) dX6_unit_102 (fun z19 σ20 q21 => ?_)
      obtain ⟨hG22, ho23, hR24, w25⟩ := q21
      refine s_if_eq C dX6_unit_105 (tgt := 121) rfl (fun c26 => ?_) (fun c26 => ?_)
      ·
        refine s_iconst C dX6_unit_121 (0) (by decide) (fun z27 h28 => ?_)
        exact a_iret Rt dX6_unit_122 (nar_z (by omega)).1 (⟨hG22, (ony.tr (ony.tr ho88 (ony.mono ho7 (by decide))) (ony.mono ho23 (by decide))), hR24, (show 0 ≤ z27.toInt ∧ z27.toInt ≤ 1 by intros; omega)⟩)
      ·
        refine a_aload_n C dX6_unit_108 (i := 0) rfl rfl ?_
        refine s_bipush C dX6_unit_109 (41) (by decide) (fun z29 h30 => ?_)
        refine a_callVi C (i := 1) kd_1 (hid 1 (by decide)) ⟨_, _, rfl⟩ (by decide) (S_X6_take_1 (x1 := z29) hid hG22 hR24) mi_X6_take ml_RX6_77 rfl rfl (Nat.le_of_ble_eq_true rfl) (Nat.le_of_ble_eq_true rfl) (Nat.le_of_ble_eq_true rfl) dX6_unit_111 (fun z31 σ32 q33 => ?_)
        obtain ⟨hG34, ho35, hR36, w37, w38, w39⟩ := q33
        refine s_if_eq C dX6_unit_114 (tgt := 121) rfl (fun c40 => ?_) (fun c40 => ?_)
        ·
          refine s_iconst C dX6_unit_121 (0) (by decide) (fun z41 h42 => ?_)
          exact a_iret Rt dX6_unit_122 (nar_z (by omega)).1 (⟨hG34, (ony.tr (ony.tr (ony.tr ho88 (ony.mono ho7 (by decide))) (ony.mono ho23 (by decide))) (ony.mono ho35 (by decide))), hR36, (show 0 ≤ z41.toInt ∧ z41.toInt ≤ 1 by intros; omega)⟩)
        ·
          refine s_iconst C dX6_unit_117 (1) (by decide) (fun z43 h44 => ?_)
          refine a_goto C dX6_unit_118 (tgt := 122) rfl ?_
          exact a_iret Rt dX6_unit_122 (nar_z (by omega)).1 (⟨hG34, (ony.tr (ony.tr (ony.tr ho88 (ony.mono ho7 (by decide))) (ony.mono ho23 (by decide))) (ony.mono ho35 (by decide))), hR36, (show 0 ≤ z43.toInt ∧ z43.toInt ≤ 1 by intros; omega)⟩)
  have j67 : ∀ (σ67 : HS), GIc σ67 → ony [1, 43, 54] σ σ67 → RK σ67 → AW ids ad ca Γ 67 [some (.ref (ad 1)), some (.ref (ad 43)), some (.int x2), none] [] σ67 := by
    intro σ67 hG67 ho67 hR67
    refine a_aload_n C dX6_unit_67 (i := 0) rfl rfl ?_
    refine a_get C fl_RX6_53 (i := 1) kd_1 (hid 1 (by decide)) (v := .int (σ67.1 1 6)) rfl dX6_unit_68 ?_
    refine s_bipush C dX6_unit_71 (40) (by decide) (fun z45 h46 => ?_)
    refine s_ic_ne C dX6_unit_73 (tgt := 88) rfl (fun c47 => ?_) (fun c47 => ?_)
    ·
      exact j88 _ hG67 ho67 hR67
    ·
      refine a_iload_n C dX6_unit_76 (i := 2) rfl rfl ?_
      refine s_bipush C dX6_unit_77 (6) (by decide) (fun z48 h49 => ?_)
      refine s_ic_lt C dX6_unit_79 (tgt := 88) rfl (fun c50 => ?_) (fun c50 => absurd c50 (by omega))
      exact j88 _ hG67 ho67 hR67
  refine a_aload_n C dX6_unit_0 (i := 0) rfl rfl ?_
  refine a_get C fl_RX6_53 (i := 1) kd_1 (hid 1 (by decide)) (v := .int (σ.1 1 6)) rfl dX6_unit_1 ?_
  refine s_bipush C dX6_unit_4 (21) (by decide) (fun z51 h52 => ?_)
  refine s_ic_ne C dX6_unit_6 (tgt := 26) rfl (fun c53 => ?_) (fun c53 => ?_)
  ·
    refine a_aload_n C dX6_unit_26 (i := 0) rfl rfl ?_
    refine a_get C fl_RX6_53 (i := 1) kd_1 (hid 1 (by decide)) (v := .int (σ.1 1 6)) rfl dX6_unit_27 ?_
    refine s_bipush C dX6_unit_30 (11) (by decide) (fun z54 h55 => ?_)
    refine s_ic_lt C dX6_unit_32 (tgt := 67) rfl (fun c56 => ?_) (fun c56 => ?_)
    ·
      exact j67 _ hG ony.rf hR
    ·
      refine a_aload_n C dX6_unit_35 (i := 0) rfl rfl ?_
      refine a_get C fl_RX6_53 (i := 1) kd_1 (hid 1 (by decide)) (v := .int (σ.1 1 6)) rfl dX6_unit_36 ?_
      refine s_bipush C dX6_unit_39 (19) (by decide) (fun z57 h58 => ?_)
      refine s_ic_gt C dX6_unit_41 (tgt := 67) rfl (fun c59 => ?_) (fun c59 => ?_)
      ·
        exact j67 _ hG ony.rf hR
      ·
        refine a_aload_n C dX6_unit_44 (i := 1) rfl rfl ?_
        refine s_bipush C dX6_unit_45 (-10) (by decide) (fun z60 h61 => ?_)
        refine a_aload_n C dX6_unit_47 (i := 0) rfl rfl ?_
        refine a_get C fl_RX6_53 (i := 1) kd_1 (hid 1 (by decide)) (v := .int (σ.1 1 6)) rfl dX6_unit_48 ?_
        refine s_bipush C dX6_unit_51 (11) (by decide) (fun z62 h63 => ?_)
        refine s_isubU C dX6_unit_53 (fun z64 => ?_)
        refine s_isubU C dX6_unit_54 (fun z66 => ?_)
        refine a_callVv C (i := 43) kd_43 (hid 43 (by decide)) ⟨_, _, rfl⟩ (by decide) (S_X10_emit_43 (x1 := z66) hid hG) mi_X10_emit ml_RX6_138 rfl rfl (Nat.le_of_ble_eq_true rfl) (Nat.le_of_ble_eq_true rfl) (Nat.le_of_ble_eq_true rfl) dX6_unit_55 (fun σ69 q70 => ?_)
        obtain ⟨hG71, ho72⟩ := q70
        have hR73 := RK.ony hR ho72 (by decide) (by decide)
        refine a_aload_n C dX6_unit_58 (i := 0) rfl rfl ?_
        refine a_aload_n C dX6_unit_59 (i := 0) rfl rfl ?_
        refine a_get C fl_RX6_53 (i := 1) kd_1 (hid 1 (by decide)) (v := .int (σ69.1 1 6)) rfl dX6_unit_60 ?_
        refine a_callVi C (i := 1) kd_1 (hid 1 (by decide)) ⟨_, _, rfl⟩ (by decide) (S_X6_take_1 (x1 := (σ69.1 1 6)) hid hG71 hR73) mi_X6_take ml_RX6_77 rfl rfl (Nat.le_of_ble_eq_true rfl) (Nat.le_of_ble_eq_true rfl) (Nat.le_of_ble_eq_true rfl) dX6_unit_63 (fun z74 σ75 q76 => ?_)
        obtain ⟨hG77, ho78, hR79, w80, w81, w82⟩ := q76
        exact a_iret Rt dX6_unit_66 (nar_z (by omega)).1 (⟨hG77, (ony.tr (ony.tr ony.rf (ony.mono ho72 (by decide))) (ony.mono ho78 (by decide))), hR79, (show 0 ≤ z74.toInt ∧ z74.toInt ≤ 1 by intros; omega)⟩)
  ·
    refine a_aload_n C dX6_unit_9 (i := 0) rfl rfl ?_
    refine s_bipush C dX6_unit_10 (21) (by decide) (fun z83 h84 => ?_)
    refine a_callVi C (i := 1) kd_1 (hid 1 (by decide)) ⟨_, _, rfl⟩ (by decide) (S_X6_take_1 (x1 := z83) hid hG hR) mi_X6_take ml_RX6_77 rfl rfl (Nat.le_of_ble_eq_true rfl) (Nat.le_of_ble_eq_true rfl) (Nat.le_of_ble_eq_true rfl) dX6_unit_12 (fun z85 σ86 q87 => ?_)
    obtain ⟨hG88, ho89, hR90, w91, w92, w93⟩ := q87
    refine a_istore_n C dX6_unit_15 (i := 3) rfl (by decide) rfl (vs1 := [some (.ref (ad 1)), some (.ref (ad 43)), some (.int x2), some (.int z85)]) rfl ?_
    refine a_aload_n C dX6_unit_16 (i := 1) rfl rfl ?_
    refine a_aload_n C dX6_unit_17 (i := 0) rfl rfl ?_
    refine a_get C fl_RX6_67 (i := 1) kd_1 (hid 1 (by decide)) (v := .int (σ86.1 1 7)) rfl dX6_unit_18 ?_
    refine a_callVv C (i := 43) kd_43 (hid 43 (by decide)) ⟨_, _, rfl⟩ (by decide) (S_X10_emit_43 (x1 := (σ86.1 1 7)) hid hG88) mi_X10_emit ml_RX6_138 rfl rfl (Nat.le_of_ble_eq_true rfl) (Nat.le_of_ble_eq_true rfl) (Nat.le_of_ble_eq_true rfl) dX6_unit_21 (fun σ95 q96 => ?_)
    obtain ⟨hG97, ho98⟩ := q96
    have hR99 := RK.ony hR90 ho98 (by decide) (by decide)
    refine a_iload_n C dX6_unit_24 (i := 3) rfl rfl ?_
    exact a_iret Rt dX6_unit_25 (nar_z (by omega)).1 (⟨hG97, (ony.tr (ony.tr ony.rf (ony.mono ho89 (by decide))) (ony.mono ho98 (by decide))), hR99, (show 0 ≤ z85.toInt ∧ z85.toInt ≤ 1 by intros; omega)⟩)
set_option maxHeartbeats 4000000 in
set_option maxRecDepth 100000 in
theorem S_X6_product_1_43_w5 {l : Launch} {D : va_G} {ids : List Nat} {ad : Nat → Nat} {ca : Nat → ClassId} {σ : HS} {x2 : Int32} (hid : ∀ i, i < 277 → i ∈ ids) (hG : GIc σ) (hR : RK σ) (hx2 : 5 ≤ x2.toInt ∧ x2.toInt ≤ 5) : Ki l D ids ad ca yX6_product cX6_product 6 .boolean 6 138 [.ref (ad 1), .ref (ad 43), .int x2] σ (fun r σ1 => (GIc σ1) ∧ (ony [1, 43, 54] σ σ1) ∧ (RK σ1) ∧ (0 ≤ r.toInt ∧ r.toInt ≤ 1)) := by
  refine Ki.of (by decide) (Nat.le_of_ble_eq_true rfl) 3 (fun Γ C Rt => ?_)
  show AW ids ad ca Γ 0 [some (.ref (ad 1)), some (.ref (ad 43)), some (.int x2), none, none, none] [] σ
  have j10 : ∀ (d10 : Nat) (σ10 : HS) (y10_3 : Int32) (y10_4 : Int32), 400 - y10_4.toInt < d10 → GIc σ10 → ony [1, 43, 54] σ σ10 → RK σ10 → 0 ≤ y10_3.toInt ∧ y10_3.toInt ≤ 1 → 0 ≤ y10_4.toInt ∧ y10_4.toInt ≤ 400 → AW ids ad ca Γ 10 [some (.ref (ad 1)), some (.ref (ad 43)), some (.int x2), some (.int y10_3), some (.int y10_4), none] [] σ10 := by
    intro d10
    induction d10 with
    | zero =>
      intro σ10 y10_3 y10_4 hd10 hG10 ho10 hR10 hx10_0 hx10_1
      exfalso
      omega
    | succ d10 ih10 =>
      intro σ10 y10_3 y10_4 hd10 hG10 ho10 hR10 hx10_0 hx10_1
      have j85 : ∀ (σ85 : HS) (y85_3 : Int32) (u85_0 : Int32), GIc σ85 → ony [1, 43, 54] σ σ85 → RK σ85 → 0 ≤ y85_3.toInt ∧ y85_3.toInt ≤ 1 → -4 ≤ u85_0.toInt ∧ u85_0.toInt ≤ -3 → 0 ≤ y10_4.toInt ∧ y10_4.toInt ≤ 399 → AW ids ad ca Γ 85 [some (.ref (ad 1)), some (.ref (ad 43)), some (.int x2), some (.int y85_3), some (.int y10_4), none] [.int u85_0, .ref (ad 43)] σ85 := by
        intro σ85 y85_3 u85_0 hG85 ho85 hR85 hx85_0 hx85_1 hx85_2
        refine a_callVv C (i := 43) kd_43 (hid 43 (by decide)) ⟨_, _, rfl⟩ (by decide) (S_X10_emit_43 (x1 := u85_0) hid hG85) mi_X10_emit ml_RX6_138 rfl rfl (Nat.le_of_ble_eq_true rfl) (Nat.le_of_ble_eq_true rfl) (Nat.le_of_ble_eq_true rfl) dX6_product_85 (fun σ2 q3 => ?_)
        obtain ⟨hG4, ho5⟩ := q3
        have hR6 := RK.ony hR85 ho5 (by decide) (by decide)
        refine s_iinc C dX6_product_88 rfl (1) (by decide) (by omega) (by decide) rfl (fun z7 h8 => ?_)
        show AW ids ad ca Γ 91 [some (.ref (ad 1)), some (.ref (ad 43)), some (.int x2), some (.int y85_3), some (.int z7), none] _ _
        refine a_goto C dX6_product_91 (tgt := 10) rfl ?_
        exact ih10 _ y85_3 z7 (by omega) hG4 (ony.tr ho85 (ony.mono ho5 (by decide))) hR6 (by omega) (by omega)
      have j69 : ∀ (σ69 : HS) (y69_5 : Int32) (u69_0 : Int32), GIc σ69 → ony [1, 43, 54] σ σ69 → RK σ69 → 0 ≤ u69_0.toInt ∧ u69_0.toInt ≤ 1 → 0 ≤ y10_4.toInt ∧ y10_4.toInt ≤ 399 → AW ids ad ca Γ 69 [some (.ref (ad 1)), some (.ref (ad 43)), some (.int x2), none, some (.int y10_4), some (.int y69_5)] [.int u69_0] σ69 := by
        intro σ69 y69_5 u69_0 hG69 ho69 hR69 hx69_0 hx69_1
        refine a_istore_n C dX6_product_69 (i := 3) rfl (by decide) rfl (vs1 := [some (.ref (ad 1)), some (.ref (ad 43)), some (.int x2), some (.int u69_0), some (.int y10_4), some (.int y69_5)]) rfl ?_
        refine a_aload_n C dX6_product_70 (i := 1) rfl rfl ?_
        refine a_iload C dX6_product_71 rfl ?_
        refine s_bipush C dX6_product_73 (42) (by decide) (fun z9 h10 => ?_)
        refine s_ic_ne C dX6_product_75 (tgt := 83) rfl (fun c11 => ?_) (fun c11 => ?_)
        ·
          refine s_bipush C dX6_product_83 (-4) (by decide) (fun z12 h13 => ?_)
          refine AW.sub (vs' := [some (.ref (ad 1)), some (.ref (ad 43)), some (.int x2), some (.int u69_0), some (.int y10_4), none]) (lsub_of (by simp [lsubB])) ?_
          exact j85 _ u69_0 z12 hG69 ho69 hR69 (by omega) (by omega) (by omega)
        ·
          refine s_bipush C dX6_product_78 (-3) (by decide) (fun z14 h15 => ?_)
          refine a_goto C dX6_product_80 (tgt := 85) rfl ?_
          refine AW.sub (vs' := [some (.ref (ad 1)), some (.ref (ad 43)), some (.int x2), some (.int u69_0), some (.int y10_4), none]) (lsub_of (by simp [lsubB])) ?_
          exact j85 _ u69_0 z14 hG69 ho69 hR69 (by omega) (by omega) (by omega)
      have j68 : ∀ (σ68 : HS) (y68_5 : Int32), GIc σ68 → ony [1, 43, 54] σ σ68 → RK σ68 → 0 ≤ y10_4.toInt ∧ y10_4.toInt ≤ 399 → AW ids ad ca Γ 68 [some (.ref (ad 1)), some (.ref (ad 43)), some (.int x2), none, some (.int y10_4), some (.int y68_5)] [] σ68 := by
        intro σ68 y68_5 hG68 ho68 hR68 hx68_0
        refine s_iconst C dX6_product_68 (0) (by decide) (fun z16 h17 => ?_)
        exact j69 _ y68_5 z16 hG68 ho68 hR68 (by omega) (by omega)
      have j32 : ∀ (σ32 : HS), GIc σ32 → ony [1, 43, 54] σ σ32 → RK σ32 → 1 ≤ y10_3.toInt ∧ y10_3.toInt ≤ 1 → AW ids ad ca Γ 32 [some (.ref (ad 1)), some (.ref (ad 43)), some (.int x2), some (.int y10_3), some (.int y10_4), none] [] σ32 := by
        intro σ32 hG32 ho32 hR32 hx32_0
        refine a_iload C dX6_product_32 rfl ?_
        refine s_sipush C dX6_product_34 (400) (by decide) (fun z18 h19 => ?_)
        refine s_ic_ge C dX6_product_37 (tgt := 94) rfl (fun c20 => ?_) (fun c20 => ?_)
        ·
          refine a_iload_n C dX6_product_94 (i := 3) rfl rfl ?_
          exact a_iret Rt dX6_product_95 (nar_z (by omega)).1 (⟨hG32, ho32, hR32, (show 0 ≤ y10_3.toInt ∧ y10_3.toInt ≤ 1 by intros; omega)⟩)
        ·
          refine a_aload_n C dX6_product_40 (i := 0) rfl rfl ?_
          refine a_get C fl_RX6_53 (i := 1) kd_1 (hid 1 (by decide)) (v := .int (σ32.1 1 6)) rfl dX6_product_41 ?_
          refine a_istore C dX6_product_44 (by decide) rfl (vs1 := [some (.ref (ad 1)), some (.ref (ad 43)), some (.int x2), some (.int y10_3), some (.int y10_4), some (.int (σ32.1 1 6))]) rfl ?_
          refine a_aload_n C dX6_product_46 (i := 0) rfl rfl ?_
          refine a_iload C dX6_product_47 rfl ?_
          refine a_callVi C (i := 1) kd_1 (hid 1 (by decide)) ⟨_, _, rfl⟩ (by decide) (S_X6_take_1 (x1 := (σ32.1 1 6)) hid hG32 hR32) mi_X6_take ml_RX6_77 rfl rfl (Nat.le_of_ble_eq_true rfl) (Nat.le_of_ble_eq_true rfl) (Nat.le_of_ble_eq_true rfl) dX6_product_49 (fun z21 σ22 q23 => ?_)
          obtain ⟨hG24, ho25, hR26, w27, w28, w29⟩ := q23
          refine s_if_eq C dX6_product_52 (tgt := 68) rfl (fun c30 => ?_) (fun c30 => ?_)
          ·
            refine AW.sub (vs' := [some (.ref (ad 1)), some (.ref (ad 43)), some (.int x2), none, some (.int y10_4), some (.int (σ32.1 1 6))]) (lsub_of (by simp [lsubB])) ?_
            exact j68 _ (σ32.1 1 6) hG24 (ony.tr ho32 (ony.mono ho25 (by decide))) hR26 (by omega)
          ·
            refine a_aload_n C dX6_product_55 (i := 0) rfl rfl ?_
            refine a_aload_n C dX6_product_56 (i := 1) rfl rfl ?_
            refine a_iload_n C dX6_product_57 (i := 2) rfl rfl ?_
            refine a_callVi C (i := 1) kd_1 (hid 1 (by decide)) ⟨_, _, rfl⟩ (by decide) (S_X6_unit_1_43_w5 (x2 := x2) hid hG24 hR26 (by omega)) mi_X6_unit ml_RX6_147 rfl rfl (Nat.le_of_ble_eq_true rfl) (Nat.le_of_ble_eq_true rfl) (Nat.le_of_ble_eq_true rfl) dX6_product_58 (fun z31 σ32 q33 => ?_)
            obtain ⟨hG34, ho35, hR36, w37⟩ := q33
            refine s_if_eq C dX6_product_61 (tgt := 68) rfl (fun c38 => ?_) (fun c38 => ?_)
            ·
              refine AW.sub (vs' := [some (.ref (ad 1)), some (.ref (ad 43)), some (.int x2), none, some (.int y10_4), some (.int (σ32.1 1 6))]) (lsub_of (by simp [lsubB])) ?_
              exact j68 _ (σ32.1 1 6) hG34 (ony.tr (ony.tr ho32 (ony.mono ho25 (by decide))) (ony.mono ho35 (by decide))) hR36 (by omega)
            ·
              refine s_iconst C dX6_product_64 (1) (by decide) (fun z39 h40 => ?_)
              refine a_goto C dX6_product_65 (tgt := 69) rfl ?_
              refine AW.sub (vs' := [some (.ref (ad 1)), some (.ref (ad 43)), some (.int x2), none, some (.int y10_4), some (.int (σ32.1 1 6))]) (lsub_of (by simp [lsubB])) ?_
              exact j69 _ (σ32.1 1 6) z39 hG34 (ony.tr (ony.tr ho32 (ony.mono ho25 (by decide))) (ony.mono ho35 (by decide))) hR36 (by omega) (by omega)
      refine a_iload_n C dX6_product_10 (i := 3) rfl rfl ?_
      refine s_if_eq C dX6_product_11 (tgt := 94) rfl (fun c41 => ?_) (fun c41 => ?_)
      ·
        refine a_iload_n C dX6_product_94 (i := 3) rfl rfl ?_
        exact a_iret Rt dX6_product_95 (nar_z (by omega)).1 (⟨hG10, ho10, hR10, (show 0 ≤ y10_3.toInt ∧ y10_3.toInt ≤ 1 by intros; omega)⟩)
      ·
        refine a_aload_n C dX6_product_14 (i := 0) rfl rfl ?_
        refine a_get C fl_RX6_53 (i := 1) kd_1 (hid 1 (by decide)) (v := .int (σ10.1 1 6)) rfl dX6_product_15 ?_
        refine s_bipush C dX6_product_18 (42) (by decide) (fun z42 h43 => ?_)
        refine s_ic_eq C dX6_product_20 (tgt := 32) rfl (fun c44 => ?_) (fun c44 => ?_)
        ·
          exact j32 _ hG10 ho10 hR10 (by omega)
        ·
          refine a_aload_n C dX6_product_23 (i := 0) rfl rfl ?_
          refine a_get C fl_RX6_53 (i := 1) kd_1 (hid 1 (by decide)) (v := .int (σ10.1 1 6)) rfl dX6_product_24 ?_
          refine s_bipush C dX6_product_27 (47) (by decide) (fun z45 h46 => ?_)
          refine s_ic_ne C dX6_product_29 (tgt := 94) rfl (fun c47 => ?_) (fun c47 => ?_)
          ·
            refine a_iload_n C dX6_product_94 (i := 3) rfl rfl ?_
            exact a_iret Rt dX6_product_95 (nar_z (by omega)).1 (⟨hG10, ho10, hR10, (show 0 ≤ y10_3.toInt ∧ y10_3.toInt ≤ 1 by intros; omega)⟩)
          ·
            exact j32 _ hG10 ho10 hR10 (by omega)
  refine a_aload_n C dX6_product_0 (i := 0) rfl rfl ?_
  refine a_aload_n C dX6_product_1 (i := 1) rfl rfl ?_
  refine a_iload_n C dX6_product_2 (i := 2) rfl rfl ?_
  refine a_callVi C (i := 1) kd_1 (hid 1 (by decide)) ⟨_, _, rfl⟩ (by decide) (S_X6_unit_1_43_w5 (x2 := x2) hid hG hR (by omega)) mi_X6_unit ml_RX6_147 rfl rfl (Nat.le_of_ble_eq_true rfl) (Nat.le_of_ble_eq_true rfl) (Nat.le_of_ble_eq_true rfl) dX6_product_3 (fun z48 σ49 q50 => ?_)
  obtain ⟨hG51, ho52, hR53, w54⟩ := q50
  refine a_istore_n C dX6_product_6 (i := 3) rfl (by decide) rfl (vs1 := [some (.ref (ad 1)), some (.ref (ad 43)), some (.int x2), some (.int z48), none, none]) rfl ?_
  refine s_iconst C dX6_product_7 (0) (by decide) (fun z55 h56 => ?_)
  refine a_istore C dX6_product_8 (by decide) rfl (vs1 := [some (.ref (ad 1)), some (.ref (ad 43)), some (.int x2), some (.int z48), some (.int z55), none]) rfl ?_
  exact j10 100000 _ z48 z55 (by omega) hG51 (ony.tr ony.rf (ony.mono ho52 (by decide))) hR53 (by omega) (by omega)
set_option maxHeartbeats 4000000 in
set_option maxRecDepth 100000 in
theorem S_X6_expression_1_43_w5 {l : Launch} {D : va_G} {ids : List Nat} {ad : Nat → Nat} {ca : Nat → ClassId} {σ : HS} {x2 : Int32} (hid : ∀ i, i < 277 → i ∈ ids) (hG : GIc σ) (hR : RK σ) (hx2 : 5 ≤ x2.toInt ∧ x2.toInt ≤ 5) : Ki l D ids ad ca yX6_expression cX6_expression 6 .boolean 7 163 [.ref (ad 1), .ref (ad 43), .int x2] σ (fun r σ1 => (GIc σ1) ∧ (ony [1, 43, 54] σ σ1) ∧ (RK σ1) ∧ (0 ≤ r.toInt ∧ r.toInt ≤ 1)) := by
  refine Ki.of (by decide) (Nat.le_of_ble_eq_true rfl) 3 (fun Γ C Rt => ?_)
  show AW ids ad ca Γ 0 [some (.ref (ad 1)), some (.ref (ad 43)), some (.int x2), none, none, none] [] σ
  have j10 : ∀ (d10 : Nat) (σ10 : HS) (y10_3 : Int32) (y10_4 : Int32), 400 - y10_4.toInt < d10 → GIc σ10 → ony [1, 43, 54] σ σ10 → RK σ10 → 0 ≤ y10_3.toInt ∧ y10_3.toInt ≤ 1 → 0 ≤ y10_4.toInt ∧ y10_4.toInt ≤ 400 → AW ids ad ca Γ 10 [some (.ref (ad 1)), some (.ref (ad 43)), some (.int x2), some (.int y10_3), some (.int y10_4), none] [] σ10 := by
    intro d10
    induction d10 with
    | zero =>
      intro σ10 y10_3 y10_4 hd10 hG10 ho10 hR10 hx10_0 hx10_1
      exfalso
      omega
    | succ d10 ih10 =>
      intro σ10 y10_3 y10_4 hd10 hG10 ho10 hR10 hx10_0 hx10_1
      have j84 : ∀ (σ84 : HS) (y84_3 : Int32) (u84_0 : Int32), GIc σ84 → ony [1, 43, 54] σ σ84 → RK σ84 → 0 ≤ y84_3.toInt ∧ y84_3.toInt ≤ 1 → -2 ≤ u84_0.toInt ∧ u84_0.toInt ≤ -1 → 0 ≤ y10_4.toInt ∧ y10_4.toInt ≤ 399 → AW ids ad ca Γ 84 [some (.ref (ad 1)), some (.ref (ad 43)), some (.int x2), some (.int y84_3), some (.int y10_4), none] [.int u84_0, .ref (ad 43)] σ84 := by
        intro σ84 y84_3 u84_0 hG84 ho84 hR84 hx84_0 hx84_1 hx84_2
        refine a_callVv C (i := 43) kd_43 (hid 43 (by decide)) ⟨_, _, rfl⟩ (by decide) (S_X10_emit_43 (x1 := u84_0) hid hG84) mi_X10_emit ml_RX6_138 rfl rfl (Nat.le_of_ble_eq_true rfl) (Nat.le_of_ble_eq_true rfl) (Nat.le_of_ble_eq_true rfl) dX6_expression_84 (fun σ2 q3 => ?_)
        obtain ⟨hG4, ho5⟩ := q3
        have hR6 := RK.ony hR84 ho5 (by decide) (by decide)
        refine s_iinc C dX6_expression_87 rfl (1) (by decide) (by omega) (by decide) rfl (fun z7 h8 => ?_)
        show AW ids ad ca Γ 90 [some (.ref (ad 1)), some (.ref (ad 43)), some (.int x2), some (.int y84_3), some (.int z7), none] _ _
        refine a_goto C dX6_expression_90 (tgt := 10) rfl ?_
        exact ih10 _ y84_3 z7 (by omega) hG4 (ony.tr ho84 (ony.mono ho5 (by decide))) hR6 (by omega) (by omega)
      have j69 : ∀ (σ69 : HS) (y69_5 : Int32) (u69_0 : Int32), GIc σ69 → ony [1, 43, 54] σ σ69 → RK σ69 → 0 ≤ u69_0.toInt ∧ u69_0.toInt ≤ 1 → 0 ≤ y10_4.toInt ∧ y10_4.toInt ≤ 399 → AW ids ad ca Γ 69 [some (.ref (ad 1)), some (.ref (ad 43)), some (.int x2), none, some (.int y10_4), some (.int y69_5)] [.int u69_0] σ69 := by
        intro σ69 y69_5 u69_0 hG69 ho69 hR69 hx69_0 hx69_1
        refine a_istore_n C dX6_expression_69 (i := 3) rfl (by decide) rfl (vs1 := [some (.ref (ad 1)), some (.ref (ad 43)), some (.int x2), some (.int u69_0), some (.int y10_4), some (.int y69_5)]) rfl ?_
        refine a_aload_n C dX6_expression_70 (i := 1) rfl rfl ?_
        refine a_iload C dX6_expression_71 rfl ?_
        refine s_bipush C dX6_expression_73 (43) (by decide) (fun z9 h10 => ?_)
        refine s_ic_ne C dX6_expression_75 (tgt := 82) rfl (fun c11 => ?_) (fun c11 => ?_)
        ·
          refine s_bipush C dX6_expression_82 (-2) (by decide) (fun z12 h13 => ?_)
          refine AW.sub (vs' := [some (.ref (ad 1)), some (.ref (ad 43)), some (.int x2), some (.int u69_0), some (.int y10_4), none]) (lsub_of (by simp [lsubB])) ?_
          exact j84 _ u69_0 z12 hG69 ho69 hR69 (by omega) (by omega) (by omega)
        ·
          refine s_iconst C dX6_expression_78 (-1) (by decide) (fun z14 h15 => ?_)
          refine a_goto C dX6_expression_79 (tgt := 84) rfl ?_
          refine AW.sub (vs' := [some (.ref (ad 1)), some (.ref (ad 43)), some (.int x2), some (.int u69_0), some (.int y10_4), none]) (lsub_of (by simp [lsubB])) ?_
          exact j84 _ u69_0 z14 hG69 ho69 hR69 (by omega) (by omega) (by omega)
      have j68 : ∀ (σ68 : HS) (y68_5 : Int32), GIc σ68 → ony [1, 43, 54] σ σ68 → RK σ68 → 0 ≤ y10_4.toInt ∧ y10_4.toInt ≤ 399 → AW ids ad ca Γ 68 [some (.ref (ad 1)), some (.ref (ad 43)), some (.int x2), none, some (.int y10_4), some (.int y68_5)] [] σ68 := by
        intro σ68 y68_5 hG68 ho68 hR68 hx68_0
        refine s_iconst C dX6_expression_68 (0) (by decide) (fun z16 h17 => ?_)
        exact j69 _ y68_5 z16 hG68 ho68 hR68 (by omega) (by omega)
      have j32 : ∀ (σ32 : HS), GIc σ32 → ony [1, 43, 54] σ σ32 → RK σ32 → 1 ≤ y10_3.toInt ∧ y10_3.toInt ≤ 1 → AW ids ad ca Γ 32 [some (.ref (ad 1)), some (.ref (ad 43)), some (.int x2), some (.int y10_3), some (.int y10_4), none] [] σ32 := by
        intro σ32 hG32 ho32 hR32 hx32_0
        refine a_iload C dX6_expression_32 rfl ?_
        refine s_sipush C dX6_expression_34 (400) (by decide) (fun z18 h19 => ?_)
        refine s_ic_ge C dX6_expression_37 (tgt := 93) rfl (fun c20 => ?_) (fun c20 => ?_)
        ·
          refine a_iload_n C dX6_expression_93 (i := 3) rfl rfl ?_
          exact a_iret Rt dX6_expression_94 (nar_z (by omega)).1 (⟨hG32, ho32, hR32, (show 0 ≤ y10_3.toInt ∧ y10_3.toInt ≤ 1 by intros; omega)⟩)
        ·
          refine a_aload_n C dX6_expression_40 (i := 0) rfl rfl ?_
          refine a_get C fl_RX6_53 (i := 1) kd_1 (hid 1 (by decide)) (v := .int (σ32.1 1 6)) rfl dX6_expression_41 ?_
          refine a_istore C dX6_expression_44 (by decide) rfl (vs1 := [some (.ref (ad 1)), some (.ref (ad 43)), some (.int x2), some (.int y10_3), some (.int y10_4), some (.int (σ32.1 1 6))]) rfl ?_
          refine a_aload_n C dX6_expression_46 (i := 0) rfl rfl ?_
          refine a_iload C dX6_expression_47 rfl ?_
          refine a_callVi C (i := 1) kd_1 (hid 1 (by decide)) ⟨_, _, rfl⟩ (by decide) (S_X6_take_1 (x1 := (σ32.1 1 6)) hid hG32 hR32) mi_X6_take ml_RX6_77 rfl rfl (Nat.le_of_ble_eq_true rfl) (Nat.le_of_ble_eq_true rfl) (Nat.le_of_ble_eq_true rfl) dX6_expression_49 (fun z21 σ22 q23 => ?_)
          obtain ⟨hG24, ho25, hR26, w27, w28, w29⟩ := q23
          refine s_if_eq C dX6_expression_52 (tgt := 68) rfl (fun c30 => ?_) (fun c30 => ?_)
          ·
            refine AW.sub (vs' := [some (.ref (ad 1)), some (.ref (ad 43)), some (.int x2), none, some (.int y10_4), some (.int (σ32.1 1 6))]) (lsub_of (by simp [lsubB])) ?_
            exact j68 _ (σ32.1 1 6) hG24 (ony.tr ho32 (ony.mono ho25 (by decide))) hR26 (by omega)
          ·
            refine a_aload_n C dX6_expression_55 (i := 0) rfl rfl ?_
            refine a_aload_n C dX6_expression_56 (i := 1) rfl rfl ?_
            refine a_iload_n C dX6_expression_57 (i := 2) rfl rfl ?_
            refine a_callVi C (i := 1) kd_1 (hid 1 (by decide)) ⟨_, _, rfl⟩ (by decide) (S_X6_product_1_43_w5 (x2 := x2) hid hG24 hR26 (by omega)) mi_X6_product ml_RX6_144 rfl rfl (Nat.le_of_ble_eq_true rfl) (Nat.le_of_ble_eq_true rfl) (Nat.le_of_ble_eq_true rfl) dX6_expression_58 (fun z31 σ32 q33 => ?_)
            obtain ⟨hG34, ho35, hR36, w37⟩ := q33
            refine s_if_eq C dX6_expression_61 (tgt := 68) rfl (fun c38 => ?_) (fun c38 => ?_)
            ·
              refine AW.sub (vs' := [some (.ref (ad 1)), some (.ref (ad 43)), some (.int x2), none, some (.int y10_4), some (.int (σ32.1 1 6))]) (lsub_of (by simp [lsubB])) ?_
              exact j68 _ (σ32.1 1 6) hG34 (ony.tr (ony.tr ho32 (ony.mono ho25 (by decide))) (ony.mono ho35 (by decide))) hR36 (by omega)
            ·
              refine s_iconst C dX6_expression_64 (1) (by decide) (fun z39 h40 => ?_)
              refine a_goto C dX6_expression_65 (tgt := 69) rfl ?_
              refine AW.sub (vs' := [some (.ref (ad 1)), some (.ref (ad 43)), some (.int x2), none, some (.int y10_4), some (.int (σ32.1 1 6))]) (lsub_of (by simp [lsubB])) ?_
              exact j69 _ (σ32.1 1 6) z39 hG34 (ony.tr (ony.tr ho32 (ony.mono ho25 (by decide))) (ony.mono ho35 (by decide))) hR36 (by omega) (by omega)
      refine a_iload_n C dX6_expression_10 (i := 3) rfl rfl ?_
      refine s_if_eq C dX6_expression_11 (tgt := 93) rfl (fun c41 => ?_) (fun c41 => ?_)
      ·
        refine a_iload_n C dX6_expression_93 (i := 3) rfl rfl ?_
        exact a_iret Rt dX6_expression_94 (nar_z (by omega)).1 (⟨hG10, ho10, hR10, (show 0 ≤ y10_3.toInt ∧ y10_3.toInt ≤ 1 by intros; omega)⟩)
      ·
        refine a_aload_n C dX6_expression_14 (i := 0) rfl rfl ?_
        refine a_get C fl_RX6_53 (i := 1) kd_1 (hid 1 (by decide)) (v := .int (σ10.1 1 6)) rfl dX6_expression_15 ?_
        refine s_bipush C dX6_expression_18 (43) (by decide) (fun z42 h43 => ?_)
        refine s_ic_eq C dX6_expression_20 (tgt := 32) rfl (fun c44 => ?_) (fun c44 => ?_)
        ·
          exact j32 _ hG10 ho10 hR10 (by omega)
        ·
          refine a_aload_n C dX6_expression_23 (i := 0) rfl rfl ?_
          refine a_get C fl_RX6_53 (i := 1) kd_1 (hid 1 (by decide)) (v := .int (σ10.1 1 6)) rfl dX6_expression_24 ?_
          refine s_bipush C dX6_expression_27 (45) (by decide) (fun z45 h46 => ?_)
          refine s_ic_ne C dX6_expression_29 (tgt := 93) rfl (fun c47 => ?_) (fun c47 => ?_)
          ·
            refine a_iload_n C dX6_expression_93 (i := 3) rfl rfl ?_
            exact a_iret Rt dX6_expression_94 (nar_z (by omega)).1 (⟨hG10, ho10, hR10, (show 0 ≤ y10_3.toInt ∧ y10_3.toInt ≤ 1 by intros; omega)⟩)
          ·
            exact j32 _ hG10 ho10 hR10 (by omega)
  refine a_aload_n C dX6_expression_0 (i := 0) rfl rfl ?_
  refine a_aload_n C dX6_expression_1 (i := 1) rfl rfl ?_
  refine a_iload_n C dX6_expression_2 (i := 2) rfl rfl ?_
  refine a_callVi C (i := 1) kd_1 (hid 1 (by decide)) ⟨_, _, rfl⟩ (by decide) (S_X6_product_1_43_w5 (x2 := x2) hid hG hR (by omega)) mi_X6_product ml_RX6_144 rfl rfl (Nat.le_of_ble_eq_true rfl) (Nat.le_of_ble_eq_true rfl) (Nat.le_of_ble_eq_true rfl) dX6_expression_3 (fun z48 σ49 q50 => ?_)
  obtain ⟨hG51, ho52, hR53, w54⟩ := q50
  refine a_istore_n C dX6_expression_6 (i := 3) rfl (by decide) rfl (vs1 := [some (.ref (ad 1)), some (.ref (ad 43)), some (.int x2), some (.int z48), none, none]) rfl ?_
  refine s_iconst C dX6_expression_7 (0) (by decide) (fun z55 h56 => ?_)
  refine a_istore C dX6_expression_8 (by decide) rfl (vs1 := [some (.ref (ad 1)), some (.ref (ad 43)), some (.int x2), some (.int z48), some (.int z55), none]) rfl ?_
  exact j10 100000 _ z48 z55 (by omega) hG51 (ony.tr ony.rf (ony.mono ho52 (by decide))) hR53 (by omega) (by omega)
set_option maxHeartbeats 4000000 in
set_option maxRecDepth 100000 in
theorem S_X6_unit_1_43_w4 {l : Launch} {D : va_G} {ids : List Nat} {ad : Nat → Nat} {ca : Nat → ClassId} {σ : HS} {x2 : Int32} (hid : ∀ i, i < 277 → i ∈ ids) (hG : GIc σ) (hR : RK σ) (hx2 : 4 ≤ x2.toInt ∧ x2.toInt ≤ 4) : Ki l D ids ad ca yX6_unit cX6_unit 4 .boolean 8 188 [.ref (ad 1), .ref (ad 43), .int x2] σ (fun r σ1 => (GIc σ1) ∧ (ony [1, 43, 54] σ σ1) ∧ (RK σ1) ∧ (0 ≤ r.toInt ∧ r.toInt ≤ 1)) := by
  refine Ki.of (by decide) (Nat.le_of_ble_eq_true rfl) 1 (fun Γ C Rt => ?_)
  show AW ids ad ca Γ 0 [some (.ref (ad 1)), some (.ref (ad 43)), some (.int x2), none] [] σ
  have j88 : ∀ (σ88 : HS), GIc σ88 → ony [1, 43, 54] σ σ88 → RK σ88 → AW ids ad ca Γ 88 [some (.ref (ad 1)), some (.ref (ad 43)), some (.int x2), none] [] σ88 := by
    intro σ88 hG88 ho88 hR88
    refine a_aload_n C dX6_unit_88 (i := 0) rfl rfl ?_
    refine s_bipush C dX6_unit_89 (40) (by decide) (fun z1 h2 => ?_)
    refine a_callVi C (i := 1) kd_1 (hid 1 (by decide)) ⟨_, _, rfl⟩ (by decide) (S_X6_take_1 (x1 := z1) hid hG88 hR88) mi_X6_take ml_RX6_77 rfl rfl (Nat.le_of_ble_eq_true rfl) (Nat.le_of_ble_eq_true rfl) (Nat.le_of_ble_eq_true rfl) dX6_unit_91 (fun z3 σ4 q5 => ?_)
    obtain ⟨hG6, ho7, hR8, w9, w10, w11⟩ := q5
    refine s_if_eq C dX6_unit_94 (tgt := 121) rfl (fun c12 => ?_) (fun c12 => ?_)
    ·
      refine s_iconst C dX6_unit_121 (0) (by decide) (fun z13 h14 => ?_)
      exact a_iret Rt dX6_unit_122 (nar_z (by omega)).1 (⟨hG6, (ony.tr ho88 (ony.mono ho7 (by decide))), hR8, (show 0 ≤ z13.toInt ∧ z13.toInt ≤ 1 by intros; omega)⟩)
    ·
      refine a_aload_n C dX6_unit_97 (i := 0) rfl rfl ?_
      refine a_aload_n C dX6_unit_98 (i := 1) rfl rfl ?_
      refine a_iload_n C dX6_unit_99 (i := 2) rfl rfl ?_
      refine s_iconst C dX6_unit_100 (1) (by decide) (fun z15 h16 => ?_)
      refine s_iadd C dX6_unit_101 (by omega) (fun z17 h18 => ?_)
      refine a_callVi C (i := 1) kd_1 (hid 1 (by decide)) ⟨_, _, rfl⟩ (by decide) (S_X6_expression_1_43_w5 (x2 := z17) hid hG6 hR8 (by omega)) mi_X6_expression ml_RX6_135 rfl rfl (Nat.le_of_ble_eq_true rfl) (Nat.le_of_ble_eq_true rfl) (Nat.le_of_ble_eq_true rfl) dX6_unit_102 (fun z19 σ20 q21 => ?_)
      obtain ⟨hG22, ho23, hR24, w25⟩ := q21
      refine s_if_eq C dX6_unit_105 (tgt := 121) rfl (fun c26 => ?_) (fun c26 => ?_)
      ·
        refine s_iconst C dX6_unit_121 (0) (by decide) (fun z27 h28 => ?_)
        exact a_iret Rt dX6_unit_122 (nar_z (by omega)).1 (⟨hG22, (ony.tr (ony.tr ho88 (ony.mono ho7 (by decide))) (ony.mono ho23 (by decide))), hR24, (show 0 ≤ z27.toInt ∧ z27.toInt ≤ 1 by intros; omega)⟩)
      ·
        refine a_aload_n C dX6_unit_108 (i := 0) rfl rfl ?_
        refine s_bipush C dX6_unit_109 (41) (by decide) (fun z29 h30 => ?_)
        refine a_callVi C (i := 1) kd_1 (hid 1 (by decide)) ⟨_, _, rfl⟩ (by decide) (S_X6_take_1 (x1 := z29) hid hG22 hR24) mi_X6_take ml_RX6_77 rfl rfl (Nat.le_of_ble_eq_true rfl) (Nat.le_of_ble_eq_true rfl) (Nat.le_of_ble_eq_true rfl) dX6_unit_111 (fun z31 σ32 q33 => ?_)
        obtain ⟨hG34, ho35, hR36, w37, w38, w39⟩ := q33
        refine s_if_eq C dX6_unit_114 (tgt := 121) rfl (fun c40 => ?_) (fun c40 => ?_)
        ·
          refine s_iconst C dX6_unit_121 (0) (by decide) (fun z41 h42 => ?_)
          exact a_iret Rt dX6_unit_122 (nar_z (by omega)).1 (⟨hG34, (ony.tr (ony.tr (ony.tr ho88 (ony.mono ho7 (by decide))) (ony.mono ho23 (by decide))) (ony.mono ho35 (by decide))), hR36, (show 0 ≤ z41.toInt ∧ z41.toInt ≤ 1 by intros; omega)⟩)
        ·
          refine s_iconst C dX6_unit_117 (1) (by decide) (fun z43 h44 => ?_)
          refine a_goto C dX6_unit_118 (tgt := 122) rfl ?_
          exact a_iret Rt dX6_unit_122 (nar_z (by omega)).1 (⟨hG34, (ony.tr (ony.tr (ony.tr ho88 (ony.mono ho7 (by decide))) (ony.mono ho23 (by decide))) (ony.mono ho35 (by decide))), hR36, (show 0 ≤ z43.toInt ∧ z43.toInt ≤ 1 by intros; omega)⟩)
  have j67 : ∀ (σ67 : HS), GIc σ67 → ony [1, 43, 54] σ σ67 → RK σ67 → AW ids ad ca Γ 67 [some (.ref (ad 1)), some (.ref (ad 43)), some (.int x2), none] [] σ67 := by
    intro σ67 hG67 ho67 hR67
    refine a_aload_n C dX6_unit_67 (i := 0) rfl rfl ?_
    refine a_get C fl_RX6_53 (i := 1) kd_1 (hid 1 (by decide)) (v := .int (σ67.1 1 6)) rfl dX6_unit_68 ?_
    refine s_bipush C dX6_unit_71 (40) (by decide) (fun z45 h46 => ?_)
    refine s_ic_ne C dX6_unit_73 (tgt := 88) rfl (fun c47 => ?_) (fun c47 => ?_)
    ·
      exact j88 _ hG67 ho67 hR67
    ·
      refine a_iload_n C dX6_unit_76 (i := 2) rfl rfl ?_
      refine s_bipush C dX6_unit_77 (6) (by decide) (fun z48 h49 => ?_)
      refine s_ic_lt C dX6_unit_79 (tgt := 88) rfl (fun c50 => ?_) (fun c50 => absurd c50 (by omega))
      exact j88 _ hG67 ho67 hR67
  refine a_aload_n C dX6_unit_0 (i := 0) rfl rfl ?_
  refine a_get C fl_RX6_53 (i := 1) kd_1 (hid 1 (by decide)) (v := .int (σ.1 1 6)) rfl dX6_unit_1 ?_
  refine s_bipush C dX6_unit_4 (21) (by decide) (fun z51 h52 => ?_)
  refine s_ic_ne C dX6_unit_6 (tgt := 26) rfl (fun c53 => ?_) (fun c53 => ?_)
  ·
    refine a_aload_n C dX6_unit_26 (i := 0) rfl rfl ?_
    refine a_get C fl_RX6_53 (i := 1) kd_1 (hid 1 (by decide)) (v := .int (σ.1 1 6)) rfl dX6_unit_27 ?_
    refine s_bipush C dX6_unit_30 (11) (by decide) (fun z54 h55 => ?_)
    refine s_ic_lt C dX6_unit_32 (tgt := 67) rfl (fun c56 => ?_) (fun c56 => ?_)
    ·
      exact j67 _ hG ony.rf hR
    ·
      refine a_aload_n C dX6_unit_35 (i := 0) rfl rfl ?_
      refine a_get C fl_RX6_53 (i := 1) kd_1 (hid 1 (by decide)) (v := .int (σ.1 1 6)) rfl dX6_unit_36 ?_
      refine s_bipush C dX6_unit_39 (19) (by decide) (fun z57 h58 => ?_)
      refine s_ic_gt C dX6_unit_41 (tgt := 67) rfl (fun c59 => ?_) (fun c59 => ?_)
      ·
        exact j67 _ hG ony.rf hR
      ·
        refine a_aload_n C dX6_unit_44 (i := 1) rfl rfl ?_
        refine s_bipush C dX6_unit_45 (-10) (by decide) (fun z60 h61 => ?_)
        refine a_aload_n C dX6_unit_47 (i := 0) rfl rfl ?_
        refine a_get C fl_RX6_53 (i := 1) kd_1 (hid 1 (by decide)) (v := .int (σ.1 1 6)) rfl dX6_unit_48 ?_
        refine s_bipush C dX6_unit_51 (11) (by decide) (fun z62 h63 => ?_)
        refine s_isubU C dX6_unit_53 (fun z64 => ?_)
        refine s_isubU C dX6_unit_54 (fun z66 => ?_)
        refine a_callVv C (i := 43) kd_43 (hid 43 (by decide)) ⟨_, _, rfl⟩ (by decide) (S_X10_emit_43 (x1 := z66) hid hG) mi_X10_emit ml_RX6_138 rfl rfl (Nat.le_of_ble_eq_true rfl) (Nat.le_of_ble_eq_true rfl) (Nat.le_of_ble_eq_true rfl) dX6_unit_55 (fun σ69 q70 => ?_)
        obtain ⟨hG71, ho72⟩ := q70
        have hR73 := RK.ony hR ho72 (by decide) (by decide)
        refine a_aload_n C dX6_unit_58 (i := 0) rfl rfl ?_
        refine a_aload_n C dX6_unit_59 (i := 0) rfl rfl ?_
        refine a_get C fl_RX6_53 (i := 1) kd_1 (hid 1 (by decide)) (v := .int (σ69.1 1 6)) rfl dX6_unit_60 ?_
        refine a_callVi C (i := 1) kd_1 (hid 1 (by decide)) ⟨_, _, rfl⟩ (by decide) (S_X6_take_1 (x1 := (σ69.1 1 6)) hid hG71 hR73) mi_X6_take ml_RX6_77 rfl rfl (Nat.le_of_ble_eq_true rfl) (Nat.le_of_ble_eq_true rfl) (Nat.le_of_ble_eq_true rfl) dX6_unit_63 (fun z74 σ75 q76 => ?_)
        obtain ⟨hG77, ho78, hR79, w80, w81, w82⟩ := q76
        exact a_iret Rt dX6_unit_66 (nar_z (by omega)).1 (⟨hG77, (ony.tr (ony.tr ony.rf (ony.mono ho72 (by decide))) (ony.mono ho78 (by decide))), hR79, (show 0 ≤ z74.toInt ∧ z74.toInt ≤ 1 by intros; omega)⟩)
  ·
    refine a_aload_n C dX6_unit_9 (i := 0) rfl rfl ?_
    refine s_bipush C dX6_unit_10 (21) (by decide) (fun z83 h84 => ?_)
    refine a_callVi C (i := 1) kd_1 (hid 1 (by decide)) ⟨_, _, rfl⟩ (by decide) (S_X6_take_1 (x1 := z83) hid hG hR) mi_X6_take ml_RX6_77 rfl rfl (Nat.le_of_ble_eq_true rfl) (Nat.le_of_ble_eq_true rfl) (Nat.le_of_ble_eq_true rfl) dX6_unit_12 (fun z85 σ86 q87 => ?_)
    obtain ⟨hG88, ho89, hR90, w91, w92, w93⟩ := q87
    refine a_istore_n C dX6_unit_15 (i := 3) rfl (by decide) rfl (vs1 := [some (.ref (ad 1)), some (.ref (ad 43)), some (.int x2), some (.int z85)]) rfl ?_
    refine a_aload_n C dX6_unit_16 (i := 1) rfl rfl ?_
    refine a_aload_n C dX6_unit_17 (i := 0) rfl rfl ?_
    refine a_get C fl_RX6_67 (i := 1) kd_1 (hid 1 (by decide)) (v := .int (σ86.1 1 7)) rfl dX6_unit_18 ?_
    refine a_callVv C (i := 43) kd_43 (hid 43 (by decide)) ⟨_, _, rfl⟩ (by decide) (S_X10_emit_43 (x1 := (σ86.1 1 7)) hid hG88) mi_X10_emit ml_RX6_138 rfl rfl (Nat.le_of_ble_eq_true rfl) (Nat.le_of_ble_eq_true rfl) (Nat.le_of_ble_eq_true rfl) dX6_unit_21 (fun σ95 q96 => ?_)
    obtain ⟨hG97, ho98⟩ := q96
    have hR99 := RK.ony hR90 ho98 (by decide) (by decide)
    refine a_iload_n C dX6_unit_24 (i := 3) rfl rfl ?_
    exact a_iret Rt dX6_unit_25 (nar_z (by omega)).1 (⟨hG97, (ony.tr (ony.tr ony.rf (ony.mono ho89 (by decide))) (ony.mono ho98 (by decide))), hR99, (show 0 ≤ z85.toInt ∧ z85.toInt ≤ 1 by intros; omega)⟩)
set_option maxHeartbeats 4000000 in
set_option maxRecDepth 100000 in
theorem S_X6_product_1_43_w4 {l : Launch} {D : va_G} {ids : List Nat} {ad : Nat → Nat} {ca : Nat → ClassId} {σ : HS} {x2 : Int32} (hid : ∀ i, i < 277 → i ∈ ids) (hG : GIc σ) (hR : RK σ) (hx2 : 4 ≤ x2.toInt ∧ x2.toInt ≤ 4) : Ki l D ids ad ca yX6_product cX6_product 6 .boolean 9 211 [.ref (ad 1), .ref (ad 43), .int x2] σ (fun r σ1 => (GIc σ1) ∧ (ony [1, 43, 54] σ σ1) ∧ (RK σ1) ∧ (0 ≤ r.toInt ∧ r.toInt ≤ 1)) := by
  refine Ki.of (by decide) (Nat.le_of_ble_eq_true rfl) 3 (fun Γ C Rt => ?_)
  show AW ids ad ca Γ 0 [some (.ref (ad 1)), some (.ref (ad 43)), some (.int x2), none, none, none] [] σ
  have j10 : ∀ (d10 : Nat) (σ10 : HS) (y10_3 : Int32) (y10_4 : Int32), 400 - y10_4.toInt < d10 → GIc σ10 → ony [1, 43, 54] σ σ10 → RK σ10 → 0 ≤ y10_3.toInt ∧ y10_3.toInt ≤ 1 → 0 ≤ y10_4.toInt ∧ y10_4.toInt ≤ 400 → AW ids ad ca Γ 10 [some (.ref (ad 1)), some (.ref (ad 43)), some (.int x2), some (.int y10_3), some (.int y10_4), none] [] σ10 := by
    intro d10
    induction d10 with
    | zero =>
      intro σ10 y10_3 y10_4 hd10 hG10 ho10 hR10 hx10_0 hx10_1
      exfalso
      omega
    | succ d10 ih10 =>
      intro σ10 y10_3 y10_4 hd10 hG10 ho10 hR10 hx10_0 hx10_1
      have j85 : ∀ (σ85 : HS) (y85_3 : Int32) (u85_0 : Int32), GIc σ85 → ony [1, 43, 54] σ σ85 → RK σ85 → 0 ≤ y85_3.toInt ∧ y85_3.toInt ≤ 1 → -4 ≤ u85_0.toInt ∧ u85_0.toInt ≤ -3 → 0 ≤ y10_4.toInt ∧ y10_4.toInt ≤ 399 → AW ids ad ca Γ 85 [some (.ref (ad 1)), some (.ref (ad 43)), some (.int x2), some (.int y85_3), some (.int y10_4), none] [.int u85_0, .ref (ad 43)] σ85 := by
        intro σ85 y85_3 u85_0 hG85 ho85 hR85 hx85_0 hx85_1 hx85_2
        refine a_callVv C (i := 43) kd_43 (hid 43 (by decide)) ⟨_, _, rfl⟩ (by decide) (S_X10_emit_43 (x1 := u85_0) hid hG85) mi_X10_emit ml_RX6_138 rfl rfl (Nat.le_of_ble_eq_true rfl) (Nat.le_of_ble_eq_true rfl) (Nat.le_of_ble_eq_true rfl) dX6_product_85 (fun σ2 q3 => ?_)
        obtain ⟨hG4, ho5⟩ := q3
        have hR6 := RK.ony hR85 ho5 (by decide) (by decide)
        refine s_iinc C dX6_product_88 rfl (1) (by decide) (by omega) (by decide) rfl (fun z7 h8 => ?_)
        show AW ids ad ca Γ 91 [some (.ref (ad 1)), some (.ref (ad 43)), some (.int x2), some (.int y85_3), some (.int z7), none] _ _
        refine a_goto C dX6_product_91 (tgt := 10) rfl ?_
        exact ih10 _ y85_3 z7 (by omega) hG4 (ony.tr ho85 (ony.mono ho5 (by decide))) hR6 (by omega) (by omega)
      have j69 : ∀ (σ69 : HS) (y69_5 : Int32) (u69_0 : Int32), GIc σ69 → ony [1, 43, 54] σ σ69 → RK σ69 → 0 ≤ u69_0.toInt ∧ u69_0.toInt ≤ 1 → 0 ≤ y10_4.toInt ∧ y10_4.toInt ≤ 399 → AW ids ad ca Γ 69 [some (.ref (ad 1)), some (.ref (ad 43)), some (.int x2), none, some (.int y10_4), some (.int y69_5)] [.int u69_0] σ69 := by
        intro σ69 y69_5 u69_0 hG69 ho69 hR69 hx69_0 hx69_1
        refine a_istore_n C dX6_product_69 (i := 3) rfl (by decide) rfl (vs1 := [some (.ref (ad 1)), some (.ref (ad 43)), some (.int x2), some (.int u69_0), some (.int y10_4), some (.int y69_5)]) rfl ?_
        refine a_aload_n C dX6_product_70 (i := 1) rfl rfl ?_
        refine a_iload C dX6_product_71 rfl ?_
        refine s_bipush C dX6_product_73 (42) (by decide) (fun z9 h10 => ?_)
        refine s_ic_ne C dX6_product_75 (tgt := 83) rfl (fun c11 => ?_) (fun c11 => ?_)
        ·
          refine s_bipush C dX6_product_83 (-4) (by decide) (fun z12 h13 => ?_)
          refine AW.sub (vs' := [some (.ref (ad 1)), some (.ref (ad 43)), some (.int x2), some (.int u69_0), some (.int y10_4), none]) (lsub_of (by simp [lsubB])) ?_
          exact j85 _ u69_0 z12 hG69 ho69 hR69 (by omega) (by omega) (by omega)
        ·
          refine s_bipush C dX6_product_78 (-3) (by decide) (fun z14 h15 => ?_)
          refine a_goto C dX6_product_80 (tgt := 85) rfl ?_
          refine AW.sub (vs' := [some (.ref (ad 1)), some (.ref (ad 43)), some (.int x2), some (.int u69_0), some (.int y10_4), none]) (lsub_of (by simp [lsubB])) ?_
          exact j85 _ u69_0 z14 hG69 ho69 hR69 (by omega) (by omega) (by omega)
      have j68 : ∀ (σ68 : HS) (y68_5 : Int32), GIc σ68 → ony [1, 43, 54] σ σ68 → RK σ68 → 0 ≤ y10_4.toInt ∧ y10_4.toInt ≤ 399 → AW ids ad ca Γ 68 [some (.ref (ad 1)), some (.ref (ad 43)), some (.int x2), none, some (.int y10_4), some (.int y68_5)] [] σ68 := by
        intro σ68 y68_5 hG68 ho68 hR68 hx68_0
        refine s_iconst C dX6_product_68 (0) (by decide) (fun z16 h17 => ?_)
        exact j69 _ y68_5 z16 hG68 ho68 hR68 (by omega) (by omega)
      have j32 : ∀ (σ32 : HS), GIc σ32 → ony [1, 43, 54] σ σ32 → RK σ32 → 1 ≤ y10_3.toInt ∧ y10_3.toInt ≤ 1 → AW ids ad ca Γ 32 [some (.ref (ad 1)), some (.ref (ad 43)), some (.int x2), some (.int y10_3), some (.int y10_4), none] [] σ32 := by
        intro σ32 hG32 ho32 hR32 hx32_0
        refine a_iload C dX6_product_32 rfl ?_
        refine s_sipush C dX6_product_34 (400) (by decide) (fun z18 h19 => ?_)
        refine s_ic_ge C dX6_product_37 (tgt := 94) rfl (fun c20 => ?_) (fun c20 => ?_)
        ·
          refine a_iload_n C dX6_product_94 (i := 3) rfl rfl ?_
          exact a_iret Rt dX6_product_95 (nar_z (by omega)).1 (⟨hG32, ho32, hR32, (show 0 ≤ y10_3.toInt ∧ y10_3.toInt ≤ 1 by intros; omega)⟩)
        ·
          refine a_aload_n C dX6_product_40 (i := 0) rfl rfl ?_
          refine a_get C fl_RX6_53 (i := 1) kd_1 (hid 1 (by decide)) (v := .int (σ32.1 1 6)) rfl dX6_product_41 ?_
          refine a_istore C dX6_product_44 (by decide) rfl (vs1 := [some (.ref (ad 1)), some (.ref (ad 43)), some (.int x2), some (.int y10_3), some (.int y10_4), some (.int (σ32.1 1 6))]) rfl ?_
          refine a_aload_n C dX6_product_46 (i := 0) rfl rfl ?_
          refine a_iload C dX6_product_47 rfl ?_
          refine a_callVi C (i := 1) kd_1 (hid 1 (by decide)) ⟨_, _, rfl⟩ (by decide) (S_X6_take_1 (x1 := (σ32.1 1 6)) hid hG32 hR32) mi_X6_take ml_RX6_77 rfl rfl (Nat.le_of_ble_eq_true rfl) (Nat.le_of_ble_eq_true rfl) (Nat.le_of_ble_eq_true rfl) dX6_product_49 (fun z21 σ22 q23 => ?_)
          obtain ⟨hG24, ho25, hR26, w27, w28, w29⟩ := q23
          refine s_if_eq C dX6_product_52 (tgt := 68) rfl (fun c30 => ?_) (fun c30 => ?_)
          ·
            refine AW.sub (vs' := [some (.ref (ad 1)), some (.ref (ad 43)), some (.int x2), none, some (.int y10_4), some (.int (σ32.1 1 6))]) (lsub_of (by simp [lsubB])) ?_
            exact j68 _ (σ32.1 1 6) hG24 (ony.tr ho32 (ony.mono ho25 (by decide))) hR26 (by omega)
          ·
            refine a_aload_n C dX6_product_55 (i := 0) rfl rfl ?_
            refine a_aload_n C dX6_product_56 (i := 1) rfl rfl ?_
            refine a_iload_n C dX6_product_57 (i := 2) rfl rfl ?_
            refine a_callVi C (i := 1) kd_1 (hid 1 (by decide)) ⟨_, _, rfl⟩ (by decide) (S_X6_unit_1_43_w4 (x2 := x2) hid hG24 hR26 (by omega)) mi_X6_unit ml_RX6_147 rfl rfl (Nat.le_of_ble_eq_true rfl) (Nat.le_of_ble_eq_true rfl) (Nat.le_of_ble_eq_true rfl) dX6_product_58 (fun z31 σ32 q33 => ?_)
            obtain ⟨hG34, ho35, hR36, w37⟩ := q33
            refine s_if_eq C dX6_product_61 (tgt := 68) rfl (fun c38 => ?_) (fun c38 => ?_)
            ·
              refine AW.sub (vs' := [some (.ref (ad 1)), some (.ref (ad 43)), some (.int x2), none, some (.int y10_4), some (.int (σ32.1 1 6))]) (lsub_of (by simp [lsubB])) ?_
              exact j68 _ (σ32.1 1 6) hG34 (ony.tr (ony.tr ho32 (ony.mono ho25 (by decide))) (ony.mono ho35 (by decide))) hR36 (by omega)
            ·
              refine s_iconst C dX6_product_64 (1) (by decide) (fun z39 h40 => ?_)
              refine a_goto C dX6_product_65 (tgt := 69) rfl ?_
              refine AW.sub (vs' := [some (.ref (ad 1)), some (.ref (ad 43)), some (.int x2), none, some (.int y10_4), some (.int (σ32.1 1 6))]) (lsub_of (by simp [lsubB])) ?_
              exact j69 _ (σ32.1 1 6) z39 hG34 (ony.tr (ony.tr ho32 (ony.mono ho25 (by decide))) (ony.mono ho35 (by decide))) hR36 (by omega) (by omega)
      refine a_iload_n C dX6_product_10 (i := 3) rfl rfl ?_
      refine s_if_eq C dX6_product_11 (tgt := 94) rfl (fun c41 => ?_) (fun c41 => ?_)
      ·
        refine a_iload_n C dX6_product_94 (i := 3) rfl rfl ?_
        exact a_iret Rt dX6_product_95 (nar_z (by omega)).1 (⟨hG10, ho10, hR10, (show 0 ≤ y10_3.toInt ∧ y10_3.toInt ≤ 1 by intros; omega)⟩)
      ·
        refine a_aload_n C dX6_product_14 (i := 0) rfl rfl ?_
        refine a_get C fl_RX6_53 (i := 1) kd_1 (hid 1 (by decide)) (v := .int (σ10.1 1 6)) rfl dX6_product_15 ?_
        refine s_bipush C dX6_product_18 (42) (by decide) (fun z42 h43 => ?_)
        refine s_ic_eq C dX6_product_20 (tgt := 32) rfl (fun c44 => ?_) (fun c44 => ?_)
        ·
          exact j32 _ hG10 ho10 hR10 (by omega)
        ·
          refine a_aload_n C dX6_product_23 (i := 0) rfl rfl ?_
          refine a_get C fl_RX6_53 (i := 1) kd_1 (hid 1 (by decide)) (v := .int (σ10.1 1 6)) rfl dX6_product_24 ?_
          refine s_bipush C dX6_product_27 (47) (by decide) (fun z45 h46 => ?_)
          refine s_ic_ne C dX6_product_29 (tgt := 94) rfl (fun c47 => ?_) (fun c47 => ?_)
          ·
            refine a_iload_n C dX6_product_94 (i := 3) rfl rfl ?_
            exact a_iret Rt dX6_product_95 (nar_z (by omega)).1 (⟨hG10, ho10, hR10, (show 0 ≤ y10_3.toInt ∧ y10_3.toInt ≤ 1 by intros; omega)⟩)
          ·
            exact j32 _ hG10 ho10 hR10 (by omega)
  refine a_aload_n C dX6_product_0 (i := 0) rfl rfl ?_
  refine a_aload_n C dX6_product_1 (i := 1) rfl rfl ?_
  refine a_iload_n C dX6_product_2 (i := 2) rfl rfl ?_
  refine a_callVi C (i := 1) kd_1 (hid 1 (by decide)) ⟨_, _, rfl⟩ (by decide) (S_X6_unit_1_43_w4 (x2 := x2) hid hG hR (by omega)) mi_X6_unit ml_RX6_147 rfl rfl (Nat.le_of_ble_eq_true rfl) (Nat.le_of_ble_eq_true rfl) (Nat.le_of_ble_eq_true rfl) dX6_product_3 (fun z48 σ49 q50 => ?_)
  obtain ⟨hG51, ho52, hR53, w54⟩ := q50
  refine a_istore_n C dX6_product_6 (i := 3) rfl (by decide) rfl (vs1 := [some (.ref (ad 1)), some (.ref (ad 43)), some (.int x2), some (.int z48), none, none]) rfl ?_
  refine s_iconst C dX6_product_7 (0) (by decide) (fun z55 h56 => ?_)
  refine a_istore C dX6_product_8 (by decide) rfl (vs1 := [some (.ref (ad 1)), some (.ref (ad 43)), some (.int x2), some (.int z48), some (.int z55), none]) rfl ?_
  exact j10 100000 _ z48 z55 (by omega) hG51 (ony.tr ony.rf (ony.mono ho52 (by decide))) hR53 (by omega) (by omega)
