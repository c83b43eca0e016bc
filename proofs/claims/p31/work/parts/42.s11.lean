set_option maxHeartbeats 4000000 in
set_option maxRecDepth 100000 in
theorem S_X6_expression_1_43_w1 {l : Launch} {D : va_G} {ids : List Nat} {ad : Nat → Nat} {ca : Nat → ClassId} {σ : HS} {x2 : Int32} (hid : ∀ i, i < 277 → i ∈ ids) (hG : GIc σ) (hR : RK σ) (hx2 : 1 ≤ x2.toInt ∧ x2.toInt ≤ 1) : Ki l D ids ad ca yX6_expression cX6_expression 6 .boolean 19 455 [.ref (ad 1), .ref (ad 43), .int x2] σ (fun r σ1 => (GIc σ1) ∧ (ony [1, 43, 54] σ σ1) ∧ (RK σ1) ∧ (0 ≤ r.toInt ∧ r.toInt ≤ 1)) := by
  refine Ki.of (by decide) (Nat.le_of_ble_eq_true rfl) 3 (fun Γ C Rt => ?_)
  show AW ids ad ca Γ 0 [some (.ref (ad 1)), some (.ref (ad 43)), some (.int x2), none, none, none] [] σ
  have j10 : ∀ (d10 : Nat) (σq10 : HS) (y10_3 : Int32) (y10_4 : Int32), 400 - y10_4.toInt < d10 → GIc σq10 → ony [1, 43, 54] σ σq10 → RK σq10 → 0 ≤ y10_3.toInt ∧ y10_3.toInt ≤ 1 → 0 ≤ y10_4.toInt ∧ y10_4.toInt ≤ 400 → AW ids ad ca Γ 10 [some (.ref (ad 1)), some (.ref (ad 43)), some (.int x2), some (.int y10_3), some (.int y10_4), none] [] σq10 := by
    intro d10
    induction d10 with
    | zero =>
      intro σq10 y10_3 y10_4 hd10 hGq10 hoq10 hRq10 hx10_0 hx10_1
      exfalso
      omega
    | succ d10 ih10 =>
      intro σq10 y10_3 y10_4 hd10 hGq10 hoq10 hRq10 hx10_0 hx10_1
      have j84 : ∀ (σq84 : HS) (y84_3 : Int32) (u84_0 : Int32), GIc σq84 → ony [1, 43, 54] σ σq84 → RK σq84 → 0 ≤ y84_3.toInt ∧ y84_3.toInt ≤ 1 → -2 ≤ u84_0.toInt ∧ u84_0.toInt ≤ -1 → 0 ≤ y10_4.toInt ∧ y10_4.toInt ≤ 399 → AW ids ad ca Γ 84 [some (.ref (ad 1)), some (.ref (ad 43)), some (.int x2), some (.int y84_3), some (.int y10_4), none] [.int u84_0, .ref (ad 43)] σq84 := by
        intro σq84 y84_3 u84_0 hGq84 hoq84 hRq84 hx84_0 hx84_1 hx84_2
        refine a_callVv C (i := 43) kd_43 (hid 43 (by decide)) ⟨_, _, rfl⟩ (by decide) (S_X10_emit_43 (x1 := u84_0) hid hGq84) mi_X10_emit ml_RX6_138 rfl rfl (Nat.le_of_ble_eq_true rfl) (Nat.le_of_ble_eq_true rfl) (Nat.le_of_ble_eq_true rfl) dX6_expression_84 (fun σ2 q3 => ?_)
        obtain ⟨hG4, ho5⟩ := q3
        have hR6 := RK.ony hRq84 ho5 (by decide) (by decide)
        refine s_iinc C dX6_expression_87 rfl (1) (by decide) (by omega) (by decide) rfl (fun z7 h8 => ?_)
        show AW ids ad ca Γ 90 [some (.ref (ad 1)), some (.ref (ad 43)), some (.int x2), some (.int y84_3), some (.int z7), none] _ _
        refine a_goto C dX6_expression_90 (tgt := 10) rfl ?_
        exact ih10 _ y84_3 z7 (by omega) hG4 (ony.tr hoq84 (ony.mono ho5 (by decide))) hR6 (by omega) (by omega)
      have j69 : ∀ (σq69 : HS) (y69_5 : Int32) (u69_0 : Int32), GIc σq69 → ony [1, 43, 54] σ σq69 → RK σq69 → 0 ≤ u69_0.toInt ∧ u69_0.toInt ≤ 1 → 0 ≤ y10_4.toInt ∧ y10_4.toInt ≤ 399 → AW ids ad ca Γ 69 [some (.ref (ad 1)), some (.ref (ad 43)), some (.int x2), none, some (.int y10_4), some (.int y69_5)] [.int u69_0] σq69 := by
        intro σq69 y69_5 u69_0 hGq69 hoq69 hRq69 hx69_0 hx69_1
        refine a_istore_n C dX6_expression_69 (i := 3) rfl (by decide) rfl (vs1 := [some (.ref (ad 1)), some (.ref (ad 43)), some (.int x2), some (.int u69_0), some (.int y10_4), some (.int y69_5)]) rfl ?_
        refine a_aload_n C dX6_expression_70 (i := 1) rfl rfl ?_
        refine a_iload C dX6_expression_71 rfl ?_
        refine s_bipush C dX6_expression_73 (43) (by decide) (fun z9 h10 => ?_)
        refine s_ic_ne C dX6_expression_75 (tgt := 82) rfl (fun c11 => ?_) (fun c11 => ?_)
        ·
          refine s_bipush C dX6_expression_82 (-2) (by decide) (fun z12 h13 => ?_)
          refine AW.sub (vs' := [some (.ref (ad 1)), some (.ref (ad 43)), some (.int x2), some (.int u69_0), some (.int y10_4), none]) (lsub_of (by simp [lsubB])) ?_
          exact j84 _ u69_0 z12 hGq69 hoq69 hRq69 (by omega) (by omega) (by omega)
        ·
          refine s_iconst C dX6_expression_78 (-1) (by decide) (fun z14 h15 => ?_)
          refine a_goto C dX6_expression_79 (tgt := 84) rfl ?_
          refine AW.sub (vs' := [some (.ref (ad 1)), some (.ref (ad 43)), some (.int x2), some (.int u69_0), some (.int y10_4), none]) (lsub_of (by simp [lsubB])) ?_
          exact j84 _ u69_0 z14 hGq69 hoq69 hRq69 (by omega) (by omega) (by omega)
      have j68 : ∀ (σq68 : HS) (y68_5 : Int32), GIc σq68 → ony [1, 43, 54] σ σq68 → RK σq68 → 0 ≤ y10_4.toInt ∧ y10_4.toInt ≤ 399 → AW ids ad ca Γ 68 [some (.ref (ad 1)), some (.ref (ad 43)), some (.int x2), none, some (.int y10_4), some (.int y68_5)] [] σq68 := by
        intro σq68 y68_5 hGq68 hoq68 hRq68 hx68_0
        refine s_iconst C dX6_expression_68 (0) (by decide) (fun z16 h17 => ?_)
        exact j69 _ y68_5 z16 hGq68 hoq68 hRq68 (by omega) (by omega)
      have j32 : ∀ (σq32 : HS), GIc σq32 → ony [1, 43, 54] σ σq32 → RK σq32 → 1 ≤ y10_3.toInt ∧ y10_3.toInt ≤ 1 → AW ids ad ca Γ 32 [some (.ref (ad 1)), some (.ref (ad 43)), some (.int x2), some (.int y10_3), some (.int y10_4), none] [] σq32 := by
        intro σq32 hGq32 hoq32 hRq32 hx32_0
        refine a_iload C dX6_expression_32 rfl ?_
        refine s_sipush C dX6_expression_34 (400) (by decide) (fun z18 h19 => ?_)
        refine s_ic_ge C dX6_expression_37 (tgt := 93) rfl (fun c20 => ?_) (fun c20 => ?_)
        ·
          refine a_iload_n C dX6_expression_93 (i := 3) rfl rfl ?_
          exact a_iret Rt dX6_expression_94 (nar_z (by omega)).1 (⟨hGq32, hoq32, hRq32, (show 0 ≤ y10_3.toInt ∧ y10_3.toInt ≤ 1 by intros; omega)⟩)
        ·
          refine a_aload_n C dX6_expression_40 (i := 0) rfl rfl ?_
          refine a_get C fl_RX6_53 (i := 1) kd_1 (hid 1 (by decide)) (v := .int (σq32.1 1 6)) rfl dX6_expression_41 ?_
          refine a_istore C dX6_expression_44 (by decide) rfl (vs1 := [some (.ref (ad 1)), some (.ref (ad 43)), some (.int x2), some (.int y10_3), some (.int y10_4), some (.int (σq32.1 1 6))]) rfl ?_
          refine a_aload_n C dX6_expression_46 (i := 0) rfl rfl ?_
          refine a_iload C dX6_expression_47 rfl ?_
          refine a_callVi C (i := 1) kd_1 (hid 1 (by decide)) ⟨_, _, rfl⟩ (by decide) (S_X6_take_1 (x1 := (σq32.1 1 6)) hid hGq32 hRq32) mi_X6_take ml_RX6_77 rfl rfl (Nat.le_of_ble_eq_true rfl) (Nat.le_of_ble_eq_true rfl) (Nat.le_of_ble_eq_true rfl) dX6_expression_49 (fun z21 σ22 q23 => ?_)
          obtain ⟨hG24, ho25, hR26, w27, w28, w29⟩ := q23
          refine s_if_eq C dX6_expression_52 (tgt := 68) rfl (fun c30 => ?_) (fun c30 => ?_)
          ·
            refine AW.sub (vs' := [some (.ref (ad 1)), some (.ref (ad 43)), some (.int x2), none, some (.int y10_4), some (.int (σq32.1 1 6))]) (lsub_of (by simp [lsubB])) ?_
            exact j68 _ (σq32.1 1 6) hG24 (ony.tr hoq32 (ony.mono ho25 (by decide))) hR26 (by omega)
          ·
            refine a_aload_n C dX6_expression_55 (i := 0) rfl rfl ?_
            refine a_aload_n C dX6_expression_56 (i := 1) rfl rfl ?_
            refine a_iload_n C dX6_expression_57 (i := 2) rfl rfl ?_
            refine a_callVi C (i := 1) kd_1 (hid 1 (by decide)) ⟨_, _, rfl⟩ (by decide) (S_X6_product_1_43_w1 (x2 := x2) hid hG24 hR26 (by omega)) mi_X6_product ml_RX6_144 rfl rfl (Nat.le_of_ble_eq_true rfl) (Nat.le_of_ble_eq_true rfl) (Nat.le_of_ble_eq_true rfl) dX6_expression_58 (fun z31 σ32 q33 => ?_)
            obtain ⟨hG34, ho35, hR36, w37⟩ := q33
            refine s_if_eq C dX6_expression_61 (tgt := 68) rfl (fun c38 => ?_) (fun c38 => ?_)
            ·
              refine AW.sub (vs' := [some (.ref (ad 1)), some (.ref (ad 43)), some (.int x2), none, some (.int y10_4), some (.int (σq32.1 1 6))]) (lsub_of (by simp [lsubB])) ?_
              exact j68 _ (σq32.1 1 6) hG34 (ony.tr (ony.tr hoq32 (ony.mono ho25 (by decide))) (ony.mono ho35 (by decide))) hR36 (by omega)
            ·
              refine s_iconst C dX6_expression_64 (1) (by decide) (fun z39 h40 => ?_)
              refine a_goto C dX6_expression_65 (tgt := 69) rfl ?_
              refine AW.sub (vs' := [some (.ref (ad 1)), some (.ref (ad 43)), some (.int x2), none, some (.int y10_4), some (.int (σq32.1 1 6))]) (lsub_of (by simp [lsubB])) ?_
              exact j69 _ (σq32.1 1 6) z39 hG34 (ony.tr (ony.tr hoq32 (ony.mono ho25 (by decide))) (ony.mono ho35 (by decide))) hR36 (by omega) (by omega)
      refine a_iload_n C dX6_expression_10 (i := 3) rfl rfl ?_
      refine s_if_eq C dX6_expression_11 (tgt := 93) rfl (fun c41 => ?_) (fun c41 => ?_)
      ·
        refine a_iload_n C dX6_expression_93 (i := 3) rfl rfl ?_
        exact a_iret Rt dX6_expression_94 (nar_z (by omega)).1 (⟨hGq10, hoq10, hRq10, (show 0 ≤ y10_3.toInt ∧ y10_3.toInt ≤ 1 by intros; omega)⟩)
      ·
        refine a_aload_n C dX6_expression_14 (i := 0) rfl rfl ?_
        refine a_get C fl_RX6_53 (i := 1) kd_1 (hid 1 (by decide)) (v := .int (σq10.1 1 6)) rfl dX6_expression_15 ?_
        refine s_bipush C dX6_expression_18 (43) (by decide) (fun z42 h43 => ?_)
        refine s_ic_eq C dX6_expression_20 (tgt := 32) rfl (fun c44 => ?_) (fun c44 => ?_)
        ·
          exact j32 _ hGq10 hoq10 hRq10 (by omega)
        ·
          refine a_aload_n C dX6_expression_23 (i := 0) rfl rfl ?_
          refine a_get C fl_RX6_53 (i := 1) kd_1 (hid 1 (by decide)) (v := .int (σq10.1 1 6)) rfl dX6_expression_24 ?_
          refine s_bipush C dX6_expression_27 (45) (by decide) (fun z45 h46 => ?_)
          refine s_ic_ne C dX6_expression_29 (tgt := 93) rfl (fun c47 => ?_) (fun c47 => ?_)
          ·
            refine a_iload_n C dX6_expression_93 (i := 3) rfl rfl ?_
            exact a_iret Rt dX6_expression_94 (nar_z (by omega)).1 (⟨hGq10, hoq10, hRq10, (show 0 ≤ y10_3.toInt ∧ y10_3.toInt ≤ 1 by intros; omega)⟩)
          ·
            exact j32 _ hGq10 hoq10 hRq10 (by omega)
  refine a_aload_n C dX6_expression_0 (i := 0) rfl rfl ?_
  refine a_aload_n C dX6_expression_1 (i := 1) rfl rfl ?_
  refine a_iload_n C dX6_expression_2 (i := 2) rfl rfl ?_
  refine a_callVi C (i := 1) kd_1 (hid 1 (by decide)) ⟨_, _, rfl⟩ (by decide) (S_X6_product_1_43_w1 (x2 := x2) hid hG hR (by omega)) mi_X6_product ml_RX6_144 rfl rfl (Nat.le_of_ble_eq_true rfl) (Nat.le_of_ble_eq_true rfl) (Nat.le_of_ble_eq_true rfl) dX6_expression_3 (fun z48 σ49 q50 => ?_)
  obtain ⟨hG51, ho52, hR53, w54⟩ := q50
  refine a_istore_n C dX6_expression_6 (i := 3) rfl (by decide) rfl (vs1 := [some (.ref (ad 1)), some (.ref (ad 43)), some (.int x2), some (.int z48), none, none]) rfl ?_
  refine s_iconst C dX6_expression_7 (0) (by decide) (fun z55 h56 => ?_)
  refine a_istore C dX6_expression_8 (by decide) rfl (vs1 := [some (.ref (ad 1)), some (.ref (ad 43)), some (.int x2), some (.int z48), some (.int z55), none]) rfl ?_
  exact j10 100000 _ z48 z55 (by omega) hG51 (ony.tr ony.rf (ony.mono ho52 (by decide))) hR53 (by omega) (by omega)
set_option maxHeartbeats 4000000 in
set_option maxRecDepth 100000 in
theorem S_X6_unit_1_43_w0 {l : Launch} {D : va_G} {ids : List Nat} {ad : Nat → Nat} {ca : Nat → ClassId} {σ : HS} {x2 : Int32} (hid : ∀ i, i < 277 → i ∈ ids) (hG : GIc σ) (hR : RK σ) (hx2 : 0 ≤ x2.toInt ∧ x2.toInt ≤ 0) : Ki l D ids ad ca yX6_unit cX6_unit 4 .boolean 20 480 [.ref (ad 1), .ref (ad 43), .int x2] σ (fun r σ1 => (GIc σ1) ∧ (ony [1, 43, 54] σ σ1) ∧ (RK σ1) ∧ (0 ≤ r.toInt ∧ r.toInt ≤ 1)) := by
  refine Ki.of (by decide) (Nat.le_of_ble_eq_true rfl) 1 (fun Γ C Rt => ?_)
  show AW ids ad ca Γ 0 [some (.ref (ad 1)), some (.ref (ad 43)), some (.int x2), none] [] σ
  have j88 : ∀ (σq88 : HS), GIc σq88 → ony [1, 43, 54] σ σq88 → RK σq88 → AW ids ad ca Γ 88 [some (.ref (ad 1)), some (.ref (ad 43)), some (.int x2), none] [] σq88 := by
    intro σq88 hGq88 hoq88 hRq88
    refine a_aload_n C dX6_unit_88 (i := 0) rfl rfl ?_
    refine s_bipush C dX6_unit_89 (40) (by decide) (fun z1 h2 => ?_)
    refine a_callVi C (i := 1) kd_1 (hid 1 (by decide)) ⟨_, _, rfl⟩ (by decide) (S_X6_take_1 (x1 := z1) hid hGq88 hRq88) mi_X6_take ml_RX6_77 rfl rfl (Nat.le_of_ble_eq_true rfl) (Nat.le_of_ble_eq_true rfl) (Nat.le_of_ble_eq_true rfl) dX6_unit_91 (fun z3 σ4 q5 => ?_)
    obtain ⟨hG6, ho7, hR8, w9, w10, w11⟩ := q5
    refine s_if_eq C dX6_unit_94 (tgt := 121) rfl (fun c12 => ?_) (fun c12 => ?_)
    ·
      refine s_iconst C dX6_unit_121 (0) (by decide) (fun z13 h14 => ?_)
      exact a_iret Rt dX6_unit_122 (nar_z (by omega)).1 (⟨hG6, (ony.tr hoq88 (ony.mono ho7 (by decide))), hR8, (show 0 ≤ z13.toInt ∧ z13.toInt ≤ 1 by intros; omega)⟩)
    ·
      refine a_aload_n C dX6_unit_97 (i := 0) rfl rfl ?_
      refine a_aload_n C dX6_unit_98 (i := 1) rfl rfl ?_
      refine a_iload_n C dX6_unit_99 (i := 2) rfl rfl ?_
      refine s_iconst C dX6_unit_100 (1) (by decide) (fun z15 h16 => ?_)
      refine s_iadd C dX6_unit_101 (by omega) (fun z17 h18 => ?_)
      refine a_callVi C (i := 1) kd_1 (hid 1 (by decide)) ⟨_, _, rfl⟩ (by decide) (S_X6_expression_1_43_w1 (x2 := z17) hid hG6 hR8 (by omega)) mi_X6_expression ml_RX6_135 rfl rfl (Nat.le_of_ble_eq_true rfl) (Nat.le_of_ble_eq_true rfl) (Nat.le_of_ble_eq_true rfl) dX6_unit_102 (fun z19 σ20 q21 => ?_)
      obtain ⟨hG22, ho23, hR24, w25⟩ := q21
      refine s_if_eq C dX6_unit_105 (tgt := 121) rfl (fun c26 => ?_) (fun c26 => ?_)
      ·
        refine s_iconst C dX6_unit_121 (0) (by decide) (fun z27 h28 => ?_)
        exact a_iret Rt dX6_unit_122 (nar_z (by omega)).1 (⟨hG22, (ony.tr (ony.tr hoq88 (ony.mono ho7 (by decide))) (ony.mono ho23 (by decide))), hR24, (show 0 ≤ z27.toInt ∧ z27.toInt ≤ 1 by intros; omega)⟩)
      ·
        refine a_aload_n C dX6_unit_108 (i := 0) rfl rfl ?_
        refine s_bipush C dX6_unit_109 (41) (by decide) (fun z29 h30 => ?_)
        refine a_callVi C (i := 1) kd_1 (hid 1 (by decide)) ⟨_, _, rfl⟩ (by decide) (S_X6_take_1 (x1 := z29) hid hG22 hR24) mi_X6_take ml_RX6_77 rfl rfl (Nat.le_of_ble_eq_true rfl) (Nat.le_of_ble_eq_true rfl) (Nat.le_of_ble_eq_true rfl) dX6_unit_111 (fun z31 σ32 q33 => ?_)
        obtain ⟨hG34, ho35, hR36, w37, w38, w39⟩ := q33
        refine s_if_eq C dX6_unit_114 (tgt := 121) rfl (fun c40 => ?_) (fun c40 => ?_)
        ·
          refine s_iconst C dX6_unit_121 (0) (by decide) (fun z41 h42 => ?_)
          exact a_iret Rt dX6_unit_122 (nar_z (by omega)).1 (⟨hG34, (ony.tr (ony.tr (ony.tr hoq88 (ony.mono ho7 (by decide))) (ony.mono ho23 (by decide))) (ony.mono ho35 (by decide))), hR36, (show 0 ≤ z41.toInt ∧ z41.toInt ≤ 1 by intros; omega)⟩)
        ·
          refine s_iconst C dX6_unit_117 (1) (by decide) (fun z43 h44 => ?_)
          refine a_goto C dX6_unit_118 (tgt := 122) rfl ?_
          exact a_iret Rt dX6_unit_122 (nar_z (by omega)).1 (⟨hG34, (ony.tr (ony.tr (ony.tr hoq88 (ony.mono ho7 (by decide))) (ony.mono ho23 (by decide))) (ony.mono ho35 (by decide))), hR36, (show 0 ≤ z43.toInt ∧ z43.toInt ≤ 1 by intros; omega)⟩)
  have j67 : ∀ (σq67 : HS), GIc σq67 → ony [1, 43, 54] σ σq67 → RK σq67 → AW ids ad ca Γ 67 [some (.ref (ad 1)), some (.ref (ad 43)), some (.int x2), none] [] σq67 := by
    intro σq67 hGq67 hoq67 hRq67
    refine a_aload_n C dX6_unit_67 (i := 0) rfl rfl ?_
    refine a_get C fl_RX6_53 (i := 1) kd_1 (hid 1 (by decide)) (v := .int (σq67.1 1 6)) rfl dX6_unit_68 ?_
    refine s_bipush C dX6_unit_71 (40) (by decide) (fun z45 h46 => ?_)
    refine s_ic_ne C dX6_unit_73 (tgt := 88) rfl (fun c47 => ?_) (fun c47 => ?_)
    ·
      exact j88 _ hGq67 hoq67 hRq67
    ·
      refine a_iload_n C dX6_unit_76 (i := 2) rfl rfl ?_
      refine s_bipush C dX6_unit_77 (6) (by decide) (fun z48 h49 => ?_)
      refine s_ic_lt C dX6_unit_79 (tgt := 88) rfl (fun c50 => ?_) (fun c50 => absurd c50 (by omega))
      exact j88 _ hGq67 hoq67 hRq67
  refine a_aload_n C dX6_unit_0 (i := 0) rfl rfl ?_
  refine a_get C fl_RX6_53 (i := 1) kd_1 (hid 1 (by decide)) (v := .int (σ.1 1 6)) rfl dX6_unit_1 ?_
  refine s_bipush C dX6_unit_4 (21) (by decide) (fun z51 h52 => ?_)
  refine s_ic_ne C dX6_unit_6 (tgt := 26) rfl (fun c53 => ?_) (fun c53 => ?_)
  ·
    refine a_aload_n C dX6_unit_26 (i := 0) rfl rfl ?_
    refine a_get C fl_RX6_53 (i := 1) kd_1 (hid 1 (by decide)) (v := .int (σ.1 1 6)) rfl dX6_unit_27 ?_
    refine s_bipush C dX6_unit_30 (11) (by decide) (fun z54 h55 => ?_)
    refine s_ic_lt C dX6_unit_32 (tgt := 67) rfl (fun c56 => ?_) (fun c56 => ?_)
    ·
      exact j67 _ hG ony.rf hR
    ·
      refine a_aload_n C dX6_unit_35 (i := 0) rfl rfl ?_
      refine a_get C fl_RX6_53 (i := 1) kd_1 (hid 1 (by decide)) (v := .int (σ.1 1 6)) rfl dX6_unit_36 ?_
      refine s_bipush C dX6_unit_39 (19) (by decide) (fun z57 h58 => ?_)
      refine s_ic_gt C dX6_unit_41 (tgt := 67) rfl (fun c59 => ?_) (fun c59 => ?_)
      ·
        exact j67 _ hG ony.rf hR
      ·
        refine a_aload_n C dX6_unit_44 (i := 1) rfl rfl ?_
        refine s_bipush C dX6_unit_45 (-10) (by decide) (fun z60 h61 => ?_)
        refine a_aload_n C dX6_unit_47 (i := 0) rfl rfl ?_
        refine a_get C fl_RX6_53 (i := 1) kd_1 (hid 1 (by decide)) (v := .int (σ.1 1 6)) rfl dX6_unit_48 ?_
        refine s_bipush C dX6_unit_51 (11) (by decide) (fun z62 h63 => ?_)
        refine s_isubU C dX6_unit_53 (fun z64 => ?_)
        refine s_isubU C dX6_unit_54 (fun z66 => ?_)
        refine a_callVv C (i := 43) kd_43 (hid 43 (by decide)) ⟨_, _, rfl⟩ (by decide) (S_X10_emit_43 (x1 := z66) hid hG) mi_X10_emit ml_RX6_138 rfl rfl (Nat.le_of_ble_eq_true rfl) (Nat.le_of_ble_eq_true rfl) (Nat.le_of_ble_eq_true rfl) dX6_unit_55 (fun σ69 q70 => ?_)
        obtain ⟨hG71, ho72⟩ := q70
        have hR73 := RK.ony hR ho72 (by decide) (by decide)
        refine a_aload_n C dX6_unit_58 (i := 0) rfl rfl ?_
        refine a_aload_n C dX6_unit_59 (i := 0) rfl rfl ?_
        refine a_get C fl_RX6_53 (i := 1) kd_1 (hid 1 (by decide)) (v := .int (σ69.1 1 6)) rfl dX6_unit_60 ?_
        refine a_callVi C (i := 1) kd_1 (hid 1 (by decide)) ⟨_, _, rfl⟩ (by decide) (S_X6_take_1 (x1 := (σ69.1 1 6)) hid hG71 hR73) mi_X6_take ml_RX6_77 rfl rfl (Nat.le_of_ble_eq_true rfl) (Nat.le_of_ble_eq_true rfl) (Nat.le_of_ble_eq_true rfl) dX6_unit_63 (fun z74 σ75 q76 => ?_)
        obtain ⟨hG77, ho78, hR79, w80, w81, w82⟩ := q76
        exact a_iret Rt dX6_unit_66 (nar_z (by omega)).1 (⟨hG77, (ony.tr (ony.tr ony.rf (ony.mono ho72 (by decide))) (ony.mono ho78 (by decide))), hR79, (show 0 ≤ z74.toInt ∧ z74.toInt ≤ 1 by intros; omega)⟩)
  ·
    refine a_aload_n C dX6_unit_9 (i := 0) rfl rfl ?_
    refine s_bipush C dX6_unit_10 (21) (by decide) (fun z83 h84 => ?_)
    refine a_callVi C (i := 1) kd_1 (hid 1 (by decide)) ⟨_, _, rfl⟩ (by decide) (S_X6_take_1 (x1 := z83) hid hG hR) mi_X6_take ml_RX6_77 rfl rfl (Nat.le_of_ble_eq_true rfl) (Nat.le_of_ble_eq_true rfl) (Nat.le_of_ble_eq_true rfl) dX6_unit_12 (fun z85 σ86 q87 => ?_)
    obtain ⟨hG88, ho89, hR90, w91, w92, w93⟩ := q87
    refine a_istore_n C dX6_unit_15 (i := 3) rfl (by decide) rfl (vs1 := [some (.ref (ad 1)), some (.ref (ad 43)), some (.int x2), some (.int z85)]) rfl ?_
    refine a_aload_n C dX6_unit_16 (i := 1) rfl rfl ?_
    refine a_aload_n C dX6_unit_17 (i := 0) rfl rfl ?_
    refine a_get C fl_RX6_67 (i := 1) kd_1 (hid 1 (by decide)) (v := .int (σ86.1 1 7)) rfl dX6_unit_18 ?_
    refine a_callVv C (i := 43) kd_43 (hid 43 (by decide)) ⟨_, _, rfl⟩ (by decide) (S_X10_emit_43 (x1 := (σ86.1 1 7)) hid hG88) mi_X10_emit ml_RX6_138 rfl rfl (Nat.le_of_ble_eq_true rfl) (Nat.le_of_ble_eq_true rfl) (Nat.le_of_ble_eq_true rfl) dX6_unit_21 (fun σ95 q96 => ?_)
    obtain ⟨hG97, ho98⟩ := q96
    have hR99 := RK.ony hR90 ho98 (by decide) (by decide)
    refine a_iload_n C dX6_unit_24 (i := 3) rfl rfl ?_
    exact a_iret Rt dX6_unit_25 (nar_z (by omega)).1 (⟨hG97, (ony.tr (ony.tr ony.rf (ony.mono ho89 (by decide))) (ony.mono ho98 (by decide))), hR99, (show 0 ≤ z85.toInt ∧ z85.toInt ≤ 1 by intros; omega)⟩)
set_option maxHeartbeats 4000000 in
set_option maxRecDepth 100000 in
theorem S_X6_product_1_43_w0 {l : Launch} {D : va_G} {ids : List Nat} {ad : Nat → Nat} {ca : Nat → ClassId} {σ : HS} {x2 : Int32} (hid : ∀ i, i < 277 → i ∈ ids) (hG : GIc σ) (hR : RK σ) (hx2 : 0 ≤ x2.toInt ∧ x2.toInt ≤ 0) : Ki l D ids ad ca yX6_product cX6_product 6 .boolean 21 503 [.ref (ad 1), .ref (ad 43), .int x2] σ (fun r σ1 => (GIc σ1) ∧ (ony [1, 43, 54] σ σ1) ∧ (RK σ1) ∧ (0 ≤ r.toInt ∧ r.toInt ≤ 1)) := by
  refine Ki.of (by decide) (Nat.le_of_ble_eq_true rfl) 3 (fun Γ C Rt => ?_)
  show AW ids ad ca Γ 0 [some (.ref (ad 1)), some (.ref (ad 43)), some (.int x2), none, none, none] [] σ
  have j10 : ∀ (d10 : Nat) (σq10 : HS) (y10_3 : Int32) (y10_4 : Int32), 400 - y10_4.toInt < d10 → GIc σq10 → ony [1, 43, 54] σ σq10 → RK σq10 → 0 ≤ y10_3.toInt ∧ y10_3.toInt ≤ 1 → 0 ≤ y10_4.toInt ∧ y10_4.toInt ≤ 400 → AW ids ad ca Γ 10 [some (.ref (ad 1)), some (.ref (ad 43)), some (.int x2), some (.int y10_3), some (.int y10_4), none] [] σq10 := by
    intro d10
    induction d10 with
    | zero =>
      intro σq10 y10_3 y10_4 hd10 hGq10 hoq10 hRq10 hx10_0 hx10_1
      exfalso
      omega
    | succ d10 ih10 =>
      intro σq10 y10_3 y10_4 hd10 hGq10 hoq10 hRq10 hx10_0 hx10_1
      have j85 : ∀ (σq85 : HS) (y85_3 : Int32) (u85_0 : Int32), GIc σq85 → ony [1, 43, 54] σ σq85 → RK σq85 → 0 ≤ y85_3.toInt ∧ y85_3.toInt ≤ 1 → -4 ≤ u85_0.toInt ∧ u85_0.toInt ≤ -3 → 0 ≤ y10_4.toInt ∧ y10_4.toInt ≤ 399 → AW ids ad ca Γ 85 [some (.ref (ad 1)), some (.ref (ad 43)), some (.int x2), some (.int y85_3), some (.int y10_4), none] [.int u85_0, .ref (ad 43)] σq85 := by
        intro σq85 y85_3 u85_0 hGq85 hoq85 hRq85 hx85_0 hx85_1 hx85_2
        refine a_callVv C (i := 43) kd_43 (hid 43 (by decide)) ⟨_, _, rfl⟩ (by decide) (S_X10_emit_43 (x1 := u85_0) hid hGq85) mi_X10_emit ml_RX6_138 rfl rfl (Nat.le_of_ble_eq_true rfl) (Nat.le_of_ble_eq_true rfl) (Nat.le_of_ble_eq_true rfl) dX6_product_85 (fun σ2 q3 => ?_)
        obtain ⟨hG4, ho5⟩ := q3
        have hR6 := RK.ony hRq85 ho5 (by decide) (by decide)
        refine s_iinc C dX6_product_88 rfl (1) (by decide) (by omega) (by decide) rfl (fun z7 h8 => ?_)
        show AW ids ad ca Γ 91 [some (.ref (ad 1)), some (.ref (ad 43)), some (.int x2), some (.int y85_3), some (.int z7), none] _ _
        refine a_goto C dX6_product_91 (tgt := 10) rfl ?_
        exact ih10 _ y85_3 z7 (by omega) hG4 (ony.tr hoq85 (ony.mono ho5 (by decide))) hR6 (by omega) (by omega)
      have j69 : ∀ (σq69 : HS) (y69_5 : Int32) (u69_0 : Int32), GIc σq69 → ony [1, 43, 54] σ σq69 → RK σq69 → 0 ≤ u69_0.toInt ∧ u69_0.toInt ≤ 1 → 0 ≤ y10_4.toInt ∧ y10_4.toInt ≤ 399 → AW ids ad ca Γ 69 [some (.ref (ad 1)), some (.ref (ad 43)), some (.int x2), none, some (.int y10_4), some (.int y69_5)] [.int u69_0] σq69 := by
        intro σq69 y69_5 u69_0 hGq69 hoq69 hRq69 hx69_0 hx69_1
        refine a_istore_n C dX6_product_69 (i := 3) rfl (by decide) rfl (vs1 := [some (.ref (ad 1)), some (.ref (ad 43)), some (.int x2), some (.int u69_0), some (.int y10_4), some (.int y69_5)]) rfl ?_
        refine a_aload_n C dX6_product_70 (i := 1) rfl rfl ?_
        refine a_iload C dX6_product_71 rfl ?_
        refine s_bipush C dX6_product_73 (42) (by decide) (fun z9 h10 => ?_)
        refine s_ic_ne C dX6_product_75 (tgt := 83) rfl (fun c11 => ?_) (fun c11 => ?_)
        ·
          refine s_bipush C dX6_product_83 (-4) (by decide) (fun z12 h13 => ?_)
          refine AW.sub (vs' := [some (.ref (ad 1)), some (.ref (ad 43)), some (.int x2), some (.int u69_0), some (.int y10_4), none]) (lsub_of (by simp [lsubB])) ?_
          exact j85 _ u69_0 z12 hGq69 hoq69 hRq69 (by omega) (by omega) (by omega)
        ·
          refine s_bipush C dX6_product_78 (-3) (by decide) (fun z14 h15 => ?_)
          refine a_goto C dX6_product_80 (tgt := 85) rfl ?_
          refine AW.sub (vs' := [some (.ref (ad 1)), some (.ref (ad 43)), some (.int x2), some (.int u69_0), some (.int y10_4), none]) (lsub_of (by simp [lsubB])) ?_
          exact j85 _ u69_0 z14 hGq69 hoq69 hRq69 (by omega) (by omega) (by omega)
      have j68 : ∀ (σq68 : HS) (y68_5 : Int32), GIc σq68 → ony [1, 43, 54] σ σq68 → RK σq68 → 0 ≤ y10_4.toInt ∧ y10_4.toInt ≤ 399 → AW ids ad ca Γ 68 [some (.ref (ad 1)), some (.ref (ad 43)), some (.int x2), none, some (.int y10_4), some (.int y68_5)] [] σq68 := by
        intro σq68 y68_5 hGq68 hoq68 hRq68 hx68_0
        refine s_iconst C dX6_product_68 (0) (by decide) (fun z16 h17 => ?_)
        exact j69 _ y68_5 z16 hGq68 hoq68 hRq68 (by omega) (by omega)
      have j32 : ∀ (σq32 : HS), GIc σq32 → ony [1, 43, 54] σ σq32 → RK σq32 → 1 ≤ y10_3.toInt ∧ y10_3.toInt ≤ 1 → AW ids ad ca Γ 32 [some (.ref (ad 1)), some (.ref (ad 43)), some (.int x2), some (.int y10_3), some (.int y10_4), none] [] σq32 := by
        intro σq32 hGq32 hoq32 hRq32 hx32_0
        refine a_iload C dX6_product_32 rfl ?_
        refine s_sipush C dX6_product_34 (400) (by decide) (fun z18 h19 => ?_)
        refine s_ic_ge C dX6_product_37 (tgt := 94) rfl (fun c20 => ?_) (fun c20 => ?_)
        ·
          refine a_iload_n C dX6_product_94 (i := 3) rfl rfl ?_
          exact a_iret Rt dX6_product_95 (nar_z (by omega)).1 (⟨hGq32, hoq32, hRq32, (show 0 ≤ y10_3.toInt ∧ y10_3.toInt ≤ 1 by intros; omega)⟩)
        ·
          refine a_aload_n C dX6_product_40 (i := 0) rfl rfl ?_
          refine a_get C fl_RX6_53 (i := 1) kd_1 (hid 1 (by decide)) (v := .int (σq32.1 1 6)) rfl dX6_product_41 ?_
          refine a_istore C dX6_product_44 (by decide) rfl (vs1 := [some (.ref (ad 1)), some (.ref (ad 43)), some (.int x2), some (.int y10_3), some (.int y10_4), some (.int (σq32.1 1 6))]) rfl ?_
          refine a_aload_n C dX6_product_46 (i := 0) rfl rfl ?_
          refine a_iload C dX6_product_47 rfl ?_
          refine a_callVi C (i := 1) kd_1 (hid 1 (by decide)) ⟨_, _, rfl⟩ (by decide) (S_X6_take_1 (x1 := (σq32.1 1 6)) hid hGq32 hRq32) mi_X6_take ml_RX6_77 rfl rfl (Nat.le_of_ble_eq_true rfl) (Nat.le_of_ble_eq_true rfl) (Nat.le_of_ble_eq_true rfl) dX6_product_49 (fun z21 σ22 q23 => ?_)
          obtain ⟨hG24, ho25, hR26, w27, w28, w29⟩ := q23
          refine s_if_eq C dX6_product_52 (tgt := 68) rfl (fun c30 => ?_) (fun c30 => ?_)
          ·
            refine AW.sub (vs' := [some (.ref (ad 1)), some (.ref (ad 43)), some (.int x2), none, some (.int y10_4), some (.int (σq32.1 1 6))]) (lsub_of (by simp [lsubB])) ?_
            exact j68 _ (σq32.1 1 6) hG24 (ony.tr hoq32 (ony.mono ho25 (by decide))) hR26 (by omega)
          ·
            refine a_aload_n C dX6_product_55 (i := 0) rfl rfl ?_
            refine a_aload_n C dX6_product_56 (i := 1) rfl rfl ?_
            refine a_iload_n C dX6_product_57 (i := 2) rfl rfl ?_
            refine a_callVi C (i := 1) kd_1 (hid 1 (by decide)) ⟨_, _, rfl⟩ (by decide) (S_X6_unit_1_43_w0 (x2 := x2) hid hG24 hR26 (by omega)) mi_X6_unit ml_RX6_147 rfl rfl (Nat.le_of_ble_eq_true rfl) (Nat.le_of_ble_eq_true rfl) (Nat.le_of_ble_eq_true rfl) dX6_product_58 (fun z31 σ32 q33 => ?_)
            obtain ⟨hG34, ho35, hR36, w37⟩ := q33
            refine s_if_eq C dX6_product_61 (tgt := 68) rfl (fun c38 => ?_) (fun c38 => ?_)
            ·
              refine AW.sub (vs' := [some (.ref (ad 1)), some (.ref (ad 43)), some (.int x2), none, some (.int y10_4), some (.int (σq32.1 1 6))]) (lsub_of (by simp [lsubB])) ?_
              exact j68 _ (σq32.1 1 6) hG34 (ony.tr (ony.tr hoq32 (ony.mono ho25 (by decide))) (ony.mono ho35 (by decide))) hR36 (by omega)
            ·
              refine s_iconst C dX6_product_64 (1) (by decide) (fun z39 h40 => ?_)
              refine a_goto C dX6_product_65 (tgt := 69) rfl ?_
              refine AW.sub (vs' := [some (.ref (ad 1)), some (.ref (ad 43)), some (.int x2), none, some (.int y10_4), some (.int (σq32.1 1 6))]) (lsub_of (by simp [lsubB])) ?_
              exact j69 _ (σq32.1 1 6) z39 hG34 (ony.tr (ony.tr hoq32 (ony.mono ho25 (by decide))) (ony.mono ho35 (by decide))) hR36 (by omega) (by omega)
      refine a_iload_n C dX6_product_10 (i := 3) rfl rfl ?_
      refine s_if_eq C dX6_product_11 (tgt := 94) rfl (fun c41 => ?_) (fun c41 => ?_)
      ·
        refine a_iload_n C dX6_product_94 (i := 3) rfl rfl ?_
        exact a_iret Rt dX6_product_95 (nar_z (by omega)).1 (⟨hGq10, hoq10, hRq10, (show 0 ≤ y10_3.toInt ∧ y10_3.toInt ≤ 1 by intros; omega)⟩)
      ·
        refine a_aload_n C dX6_product_14 (i := 0) rfl rfl ?_
        refine a_get C fl_RX6_53 (i := 1) kd_1 (hid 1 (by decide)) (v := .int (σq10.1 1 6)) rfl dX6_product_15 ?_
        refine s_bipush C dX6_product_18 (42) (by decide) (fun z42 h43 => ?_)
        refine s_ic_eq C dX6_product_20 (tgt := 32) rfl (fun c44 => ?_) (fun c44 => ?_)
        ·
          exact j32 _ hGq10 hoq10 hRq10 (by omega)
        ·
          refine a_aload_n C dX6_product_23 (i := 0) rfl rfl ?_
          refine a_get C fl_RX6_53 (i := 1) kd_1 (hid 1 (by decide)) (v := .int (σq10.1 1 6)) rfl dX6_product_24 ?_
          refine s_bipush C dX6_product_27 (47) (by decide) (fun z45 h46 => ?_)
          refine s_ic_ne C dX6_product_29 (tgt := 94) rfl (fun c47 => ?_) (fun c47 => ?_)
          ·
            refine a_iload_n C dX6_product_94 (i := 3) rfl rfl ?_
            exact a_iret Rt dX6_product_95 (nar_z (by omega)).1 (⟨hGq10, hoq10, hRq10, (show 0 ≤ y10_3.toInt ∧ y10_3.toInt ≤ 1 by intros; omega)⟩)
          ·
            exact j32 _ hGq10 hoq10 hRq10 (by omega)
  refine a_aload_n C dX6_product_0 (i := 0) rfl rfl ?_
  refine a_aload_n C dX6_product_1 (i := 1) rfl rfl ?_
  refine a_iload_n C dX6_product_2 (i := 2) rfl rfl ?_
  refine a_callVi C (i := 1) kd_1 (hid 1 (by decide)) ⟨_, _, rfl⟩ (by decide) (S_X6_unit_1_43_w0 (x2 := x2) hid hG hR (by omega)) mi_X6_unit ml_RX6_147 rfl rfl (Nat.le_of_ble_eq_true rfl) (Nat.le_of_ble_eq_true rfl) (Nat.le_of_ble_eq_true rfl) dX6_product_3 (fun z48 σ49 q50 => ?_)
  obtain ⟨hG51, ho52, hR53, w54⟩ := q50
  refine a_istore_n C dX6_product_6 (i := 3) rfl (by decide) rfl (vs1 := [some (.ref (ad 1)), some (.ref (ad 43)), some (.int x2), some (.int z48), none, none]) rfl ?_
  refine s_iconst C dX6_product_7 (0) (by decide) (fun z55 h56 => ?_)
  refine a_istore C dX6_product_8 (by decide) rfl (vs1 := [some (.ref (ad 1)), some (.ref (ad 43)), some (.int x2), some (.int z48), some (.int z55), none]) rfl ?_
  exact j10 100000 _ z48 z55 (by omega) hG51 (ony.tr ony.rf (ony.mono ho52 (by decide))) hR53 (by omega) (by omega)
set_option maxHeartbeats 4000000 in
set_option maxRecDepth 100000 in
theorem S_X6_expression_1_43_w0 {l : Launch} {D : va_G} {ids : List Nat} {ad : Nat → Nat} {ca : Nat → ClassId} {σ : HS} {x2 : Int32} (hid : ∀ i, i < 277 → i ∈ ids) (hG : GIc σ) (hR : RK σ) (hx2 : 0 ≤ x2.toInt ∧ x2.toInt ≤ 0) : Ki l D ids ad ca yX6_expression cX6_expression 6 .boolean 22 528 [.ref (ad 1), .ref (ad 43), .int x2] σ (fun r σ1 => (GIc σ1) ∧ (ony [1, 43, 54] σ σ1) ∧ (RK σ1) ∧ (0 ≤ r.toInt ∧ r.toInt ≤ 1)) := by
  refine Ki.of (by decide) (Nat.le_of_ble_eq_true rfl) 3 (fun Γ C Rt => ?_)
  show AW ids ad ca Γ 0 [some (.ref (ad 1)), some (.ref (ad 43)), some (.int x2), none, none, none] [] σ
  have j10 : ∀ (d10 : Nat) (σq10 : HS) (y10_3 : Int32) (y10_4 : Int32), 400 - y10_4.toInt < d10 → GIc σq10 → ony [1, 43, 54] σ σq10 → RK σq10 → 0 ≤ y10_3.toInt ∧ y10_3.toInt ≤ 1 → 0 ≤ y10_4.toInt ∧ y10_4.toInt ≤ 400 → AW ids ad ca Γ 10 [some (.ref (ad 1)), some (.ref (ad 43)), some (.int x2), some (.int y10_3), some (.int y10_4), none] [] σq10 := by
    intro d10
    induction d10 with
    | zero =>
      intro σq10 y10_3 y10_4 hd10 hGq10 hoq10 hRq10 hx10_0 hx10_1
      exfalso
      omega
    | succ d10 ih10 =>
      intro σq10 y10_3 y10_4 hd10 hGq10 hoq10 hRq10 hx10_0 hx10_1
      have j84 : ∀ (σq84 : HS) (y84_3 : Int32) (u84_0 : Int32), GIc σq84 → ony [1, 43, 54] σ σq84 → RK σq84 → 0 ≤ y84_3.toInt ∧ y84_3.toInt ≤ 1 → -2 ≤ u84_0.toInt ∧ u84_0.toInt ≤ -1 → 0 ≤ y10_4.toInt ∧ y10_4.toInt ≤ 399 → AW ids ad ca Γ 84 [some (.ref (ad 1)), some (.ref (ad 43)), some (.int x2), some (.int y84_3), some (.int y10_4), none] [.int u84_0, .ref (ad 43)] σq84 := by
        intro σq84 y84_3 u84_0 hGq84 hoq84 hRq84 hx84_0 hx84_1 hx84_2
        refine a_callVv C (i := 43) kd_43 (hid 43 (by decide)) ⟨_, _, rfl⟩ (by decide) (S_X10_emit_43 (x1 := u84_0) hid hGq84) mi_X10_emit ml_RX6_138 rfl rfl (Nat.le_of_ble_eq_true rfl) (Nat.le_of_ble_eq_true rfl) (Nat.le_of_ble_eq_true rfl) dX6_expression_84 (fun σ2 q3 => ?_)
        obtain ⟨hG4, ho5⟩ := q3
        have hR6 := RK.ony hRq84 ho5 (by decide) (by decide)
        refine s_iinc C dX6_expression_87 rfl (1) (by decide) (by omega) (by decide) rfl (fun z7 h8 => ?_)
        show AW ids ad ca Γ 90 [some (.ref (ad 1)), some (.ref (ad 43)), some (.int x2), some (.int y84_3), some (.int z7), none] _ _
        refine a_goto C dX6_expression_90 (tgt := 10) rfl ?_
        exact ih10 _ y84_3 z7 (by omega) hG4 (ony.tr hoq84 (ony.mono ho5 (by decide))) hR6 (by omega) (by omega)
      have j69 : ∀ (σq69 : HS) (y69_5 : Int32) (u69_0 : Int32), GIc σq69 → ony [1, 43, 54] σ σq69 → RK σq69 → 0 ≤ u69_0.toInt ∧ u69_0.toInt ≤ 1 → 0 ≤ y10_4.toInt ∧ y10_4.toInt ≤ 399 → AW ids ad ca Γ 69 [some (.ref (ad 1)), some (.ref (ad 43)), some (.int x2), none, some (.int y10_4), some (.int y69_5)] [.int u69_0] σq69 := by
        intro σq69 y69_5 u69_0 hGq69 hoq69 hRq69 hx69_0 hx69_1
        refine a_istore_n C dX6_expression_69 (i := 3) rfl (by decide) rfl (vs1 := [some (.ref (ad 1)), some (.ref (ad 43)), some (.int x2), some (.int u69_0), some (.int y10_4), some (.int y69_5)]) rfl ?_
        refine a_aload_n C dX6_expression_70 (i := 1) rfl rfl ?_
        refine a_iload C dX6_expression_71 rfl ?_
        refine s_bipush C dX6_expression_73 (43) (by decide) (fun z9 h10 => ?_)
        refine s_ic_ne C dX6_expression_75 (tgt := 82) rfl (fun c11 => ?_) (fun c11 => ?_)
        ·
          refine s_bipush C dX6_expression_82 (-2) (by decide) (fun z12 h13 => ?_)
          refine AW.sub (vs' := [some (.ref (ad 1)), some (.ref (ad 43)), some (.int x2), some (.int u69_0), some (.int y10_4), none]) (lsub_of (by simp [lsubB])) ?_
          exact j84 _ u69_0 z12 hGq69 hoq69 hRq69 (by omega) (by omega) (by omega)
        ·
          refine s_iconst C dX6_expression_78 (-1) (by decide) (fun z14 h15 => ?_)
          refine a_goto C dX6_expression_79 (tgt := 84) rfl ?_
          refine AW.sub (vs' := [some (.ref (ad 1)), some (.ref (ad 43)), some (.int x2), some (.int u69_0), some (.int y10_4), none]) (lsub_of (by simp [lsubB])) ?_
          exact j84 _ u69_0 z14 hGq69 hoq69 hRq69 (by omega) (by omega) (by omega)
      have j68 : ∀ (σq68 : HS) (y68_5 : Int32), GIc σq68 → ony [1, 43, 54] σ σq68 → RK σq68 → 0 ≤ y10_4.toInt ∧ y10_4.toInt ≤ 399 → AW ids ad ca Γ 68 [some (.ref (ad 1)), some (.ref (ad 43)), some (.int x2), none, some (.int y10_4), some (.int y68_5)] [] σq68 := by
        intro σq68 y68_5 hGq68 hoq68 hRq68 hx68_0
        refine s_iconst C dX6_expression_68 (0) (by decide) (fun z16 h17 => ?_)
        exact j69 _ y68_5 z16 hGq68 hoq68 hRq68 (by omega) (by omega)
      have j32 : ∀ (σq32 : HS), GIc σq32 → ony [1, 43, 54] σ σq32 → RK σq32 → 1 ≤ y10_3.toInt ∧ y10_3.toInt ≤ 1 → AW ids ad ca Γ 32 [some (.ref (ad 1)), some (.ref (ad 43)), some (.int x2), some (.int y10_3), some (.int y10_4), none] [] σq32 := by
        intro σq32 hGq32 hoq32 hRq32 hx32_0
        refine a_iload C dX6_expression_32 rfl ?_
        refine s_sipush C dX6_expression_34 (400) (by decide) (fun z18 h19 => ?_)
        refine s_ic_ge C dX6_expression_37 (tgt := 93) rfl (fun c20 => ?_) (fun c20 => ?_)
        ·
          refine a_iload_n C dX6_expression_93 (i := 3) rfl rfl ?_
          exact a_iret Rt dX6_expression_94 (nar_z (by omega)).1 (⟨hGq32, hoq32, hRq32, (show 0 ≤ y10_3.toInt ∧ y10_3.toInt ≤ 1 by intros; omega)⟩)
        ·
          refine a_aload_n C dX6_expression_40 (i := 0) rfl rfl ?_
          refine a_get C fl_RX6_53 (i := 1) kd_1 (hid 1 (by decide)) (v := .int (σq32.1 1 6)) rfl dX6_expression_41 ?_
          refine a_istore C dX6_expression_44 (by decide) rfl (vs1 := [some (.ref (ad 1)), some (.ref (ad 43)), some (.int x2), some (.int y10_3), some (.int y10_4), some (.int (σq32.1 1 6))]) rfl ?_
          refine a_aload_n C dX6_expression_46 (i := 0) rfl rfl ?_
          refine a_iload C dX6_expression_47 rfl ?_
          refine a_callVi C (i := 1) kd_1 (hid 1 (by decide)) ⟨_, _, rfl⟩ (by decide) (S_X6_take_1 (x1 := (σq32.1 1 6)) hid hGq32 hRq32) mi_X6_take ml_RX6_77 rfl rfl (Nat.le_of_ble_eq_true rfl) (Nat.le_of_ble_eq_true rfl) (Nat.le_of_ble_eq_true rfl) dX6_expression_49 (fun z21 σ22 q23 => ?_)
          obtain ⟨hG24, ho25, hR26, w27, w28, w29⟩ := q23
          refine s_if_eq C dX6_expression_52 (tgt := 68) rfl (fun c30 => ?_) (fun c30 => ?_)
          ·
            refine AW.sub (vs' := [some (.ref (ad 1)), some (.ref (ad 43)), some (.int x2), none, some (.int y10_4), some (.int (σq32.1 1 6))]) (lsub_of (by simp [lsubB])) ?_
            exact j68 _ (σq32.1 1 6) hG24 (ony.tr hoq32 (ony.mono ho25 (by decide))) hR26 (by omega)
          ·
            refine a_aload_n C dX6_expression_55 (i := 0) rfl rfl ?_
            refine a_aload_n C dX6_expression_56 (i := 1) rfl rfl ?_
            refine a_iload_n C dX6_expression_57 (i := 2) rfl rfl ?_
            refine a_callVi C (i := 1) kd_1 (hid 1 (by decide)) ⟨_, _, rfl⟩ (by decide) (S_X6_product_1_43_w0 (x2 := x2) hid hG24 hR26 (by omega)) mi_X6_product ml_RX6_144 rfl rfl (Nat.le_of_ble_eq_true rfl) (Nat.le_of_ble_eq_true rfl) (Nat.le_of_ble_eq_true rfl) dX6_expression_58 (fun z31 σ32 q33 => ?_)
            obtain ⟨hG34, ho35, hR36, w37⟩ := q33
            refine s_if_eq C dX6_expression_61 (tgt := 68) rfl (fun c38 => ?_) (fun c38 => ?_)
            ·
              refine AW.sub (vs' := [some (.ref (ad 1)), some (.ref (ad 43)), some (.int x2), none, some (.int y10_4), some (.int (σq32.1 1 6))]) (lsub_of (by simp [lsubB])) ?_
              exact j68 _ (σq32.1 1 6) hG34 (ony.tr (ony.tr hoq32 (ony.mono ho25 (by decide))) (ony.mono ho35 (by decide))) hR36 (by omega)
            ·
              refine s_iconst C dX6_expression_64 (1) (by decide) (fun z39 h40 => ?_)
              refine a_goto C dX6_expression_65 (tgt := 69) rfl ?_
              refine AW.sub (vs' := [some (.ref (ad 1)), some (.ref (ad 43)), some (.int x2), none, some (.int y10_4), some (.int (σq32.1 1 6))]) (lsub_of (by simp [lsubB])) ?_
              exact j69 _ (σq32.1 1 6) z39 hG34 (ony.tr (ony.tr hoq32 (ony.mono ho25 (by decide))) (ony.mono ho35 (by decide))) hR36 (by omega) (by omega)
      refine a_iload_n C dX6_expression_10 (i := 3) rfl rfl ?_
      refine s_if_eq C dX6_expression_11 (tgt := 93) rfl (fun c41 => ?_) (fun c41 => ?_)
      ·
        refine a_iload_n C dX6_expression_93 (i := 3) rfl rfl ?_
        exact a_iret Rt dX6_expression_94 (nar_z (by omega)).1 (⟨hGq10, hoq10, hRq10, (show 0 ≤ y10_3.toInt ∧ y10_3.toInt ≤ 1 by intros; omega)⟩)
      ·
        refine a_aload_n C dX6_expression_14 (i := 0) rfl rfl ?_
        refine a_get C fl_RX6_53 (i := 1) kd_1 (hid 1 (by decide)) (v := .int (σq10.1 1 6)) rfl dX6_expression_15 ?_
        refine s_bipush C dX6_expression_18 (43) (by decide) (fun z42 h43 => ?_)
        refine s_ic_eq C dX6_expression_20 (tgt := 32) rfl (fun c44 => ?_) (fun c44 => ?_)
        ·
          exact j32 _ hGq10 hoq10 hRq10 (by omega)
        ·
          refine a_aload_n C dX6_expression_23 (i := 0) rfl rfl ?_
          refine a_get C fl_RX6_53 (i := 1) kd_1 (hid 1 (by decide)) (v := .int (σq10.1 1 6)) rfl dX6_expression_24 ?_
          refine s_bipush C dX6_expression_27 (45) (by decide) (fun z45 h46 => ?_)
          refine s_ic_ne C dX6_expression_29 (tgt := 93) rfl (fun c47 => ?_) (fun c47 => ?_)
          ·
            refine a_iload_n C dX6_expression_93 (i := 3) rfl rfl ?_
            exact a_iret Rt dX6_expression_94 (nar_z (by omega)).1 (⟨hGq10, hoq10, hRq10, (show 0 ≤ y10_3.toInt ∧ y10_3.toInt ≤ 1 by intros; omega)⟩)
          ·
            exact j32 _ hGq10 hoq10 hRq10 (by omega)
  refine a_aload_n C dX6_expression_0 (i := 0) rfl rfl ?_
  refine a_aload_n C dX6_expression_1 (i := 1) rfl rfl ?_
  refine a_iload_n C dX6_expression_2 (i := 2) rfl rfl ?_
  refine a_callVi C (i := 1) kd_1 (hid 1 (by decide)) ⟨_, _, rfl⟩ (by decide) (S_X6_product_1_43_w0 (x2 := x2) hid hG hR (by omega)) mi_X6_product ml_RX6_144 rfl rfl (Nat.le_of_ble_eq_true rfl) (Nat.le_of_ble_eq_true rfl) (Nat.le_of_ble_eq_true rfl) dX6_expression_3 (fun z48 σ49 q50 => ?_)
  obtain ⟨hG51, ho52, hR53, w54⟩ := q50
  refine a_istore_n C dX6_expression_6 (i := 3) rfl (by decide) rfl (vs1 := [some (.ref (ad 1)), some (.ref (ad 43)), some (.int x2), some (.int z48), none, none]) rfl ?_
  refine s_iconst C dX6_expression_7 (0) (by decide) (fun z55 h56 => ?_)
  refine a_istore C dX6_expression_8 (by decide) rfl (vs1 := [some (.ref (ad 1)), some (.ref (ad 43)), some (.int x2), some (.int z48), some (.int z55), none]) rfl ?_
  exact j10 100000 _ z48 z55 (by omega) hG51 (ony.tr ony.rf (ony.mono ho52 (by decide))) hR53 (by omega) (by omega)
set_option maxHeartbeats 4000000 in
set_option maxRecDepth 100000 in
theorem S_X6_condition_1_43 {l : Launch} {D : va_G} {ids : List Nat} {ad : Nat → Nat} {ca : Nat → ClassId} {σ : HS} (hid : ∀ i, i < 277 → i ∈ ids) (hG : GIc σ) (hR : RK σ) : Ki l D ids ad ca yX6_condition cX6_condition 3 .boolean 23 553 [.ref (ad 1), .ref (ad 43)] σ (fun r σ1 => (GIc σ1) ∧ (ony [1, 43, 54] σ σ1) ∧ (RK σ1) ∧ (0 ≤ r.toInt ∧ r.toInt ≤ 1)) := by
  refine Ki.of (by decide) (Nat.le_of_ble_eq_true rfl) 1 (fun Γ C Rt => ?_)
  show AW ids ad ca Γ 0 [some (.ref (ad 1)), some (.ref (ad 43)), none] [] σ
  refine a_aload_n C dX6_condition_0 (i := 0) rfl rfl ?_
  refine s_bipush C dX6_condition_1 (8) (by decide) (fun z1 h2 => ?_)
  refine a_callVi C (i := 1) kd_1 (hid 1 (by decide)) ⟨_, _, rfl⟩ (by decide) (S_X6_take_1 (x1 := z1) hid hG hR) mi_X6_take ml_RX6_77 rfl rfl (Nat.le_of_ble_eq_true rfl) (Nat.le_of_ble_eq_true rfl) (Nat.le_of_ble_eq_true rfl) dX6_condition_3 (fun z3 σ4 q5 => ?_)
  obtain ⟨hG6, ho7, hR8, w9, w10, w11⟩ := q5
  refine s_if_eq C dX6_condition_6 (tgt := 45) rfl (fun c12 => ?_) (fun c12 => ?_)
  ·
    refine s_iconst C dX6_condition_45 (0) (by decide) (fun z13 h14 => ?_)
    exact a_iret Rt dX6_condition_46 (nar_z (by omega)).1 (⟨hG6, (ony.tr ony.rf (ony.mono ho7 (by decide))), hR8, (show 0 ≤ z13.toInt ∧ z13.toInt ≤ 1 by intros; omega)⟩)
  ·
    refine a_aload_n C dX6_condition_9 (i := 0) rfl rfl ?_
    refine a_aload_n C dX6_condition_10 (i := 1) rfl rfl ?_
    refine s_iconst C dX6_condition_11 (0) (by decide) (fun z15 h16 => ?_)
    refine a_callVi C (i := 1) kd_1 (hid 1 (by decide)) ⟨_, _, rfl⟩ (by decide) (S_X6_expression_1_43_w0 (x2 := z15) hid hG6 hR8 (by omega)) mi_X6_expression ml_RX6_135 rfl rfl (Nat.le_of_ble_eq_true rfl) (Nat.le_of_ble_eq_true rfl) (Nat.le_of_ble_eq_true rfl) dX6_condition_12 (fun z17 σ18 q19 => ?_)
    obtain ⟨hG20, ho21, hR22, w23⟩ := q19
    refine s_if_eq C dX6_condition_15 (tgt := 45) rfl (fun c24 => ?_) (fun c24 => ?_)
    ·
      refine s_iconst C dX6_condition_45 (0) (by decide) (fun z25 h26 => ?_)
      exact a_iret Rt dX6_condition_46 (nar_z (by omega)).1 (⟨hG20, (ony.tr (ony.tr ony.rf (ony.mono ho7 (by decide))) (ony.mono ho21 (by decide))), hR22, (show 0 ≤ z25.toInt ∧ z25.toInt ≤ 1 by intros; omega)⟩)
    ·
      refine a_aload_n C dX6_condition_18 (i := 0) rfl rfl ?_
      refine s_bipush C dX6_condition_19 (60) (by decide) (fun z27 h28 => ?_)
      refine a_callVi C (i := 1) kd_1 (hid 1 (by decide)) ⟨_, _, rfl⟩ (by decide) (S_X6_take_1 (x1 := z27) hid hG20 hR22) mi_X6_take ml_RX6_77 rfl rfl (Nat.le_of_ble_eq_true rfl) (Nat.le_of_ble_eq_true rfl) (Nat.le_of_ble_eq_true rfl) dX6_condition_21 (fun z29 σ30 q31 => ?_)
      obtain ⟨hG32, ho33, hR34, w35, w36, w37⟩ := q31
      refine s_if_eq C dX6_condition_24 (tgt := 45) rfl (fun c38 => ?_) (fun c38 => ?_)
      ·
        refine s_iconst C dX6_condition_45 (0) (by decide) (fun z39 h40 => ?_)
        exact a_iret Rt dX6_condition_46 (nar_z (by omega)).1 (⟨hG32, (ony.tr (ony.tr (ony.tr ony.rf (ony.mono ho7 (by decide))) (ony.mono ho21 (by decide))) (ony.mono ho33 (by decide))), hR34, (show 0 ≤ z39.toInt ∧ z39.toInt ≤ 1 by intros; omega)⟩)
      ·
        refine a_aload_n C dX6_condition_27 (i := 0) rfl rfl ?_
        refine a_aload_n C dX6_condition_28 (i := 1) rfl rfl ?_
        refine s_iconst C dX6_condition_29 (0) (by decide) (fun z41 h42 => ?_)
        refine a_callVi C (i := 1) kd_1 (hid 1 (by decide)) ⟨_, _, rfl⟩ (by decide) (S_X6_expression_1_43_w0 (x2 := z41) hid hG32 hR34 (by omega)) mi_X6_expression ml_RX6_135 rfl rfl (Nat.le_of_ble_eq_true rfl) (Nat.le_of_ble_eq_true rfl) (Nat.le_of_ble_eq_true rfl) dX6_condition_30 (fun z43 σ44 q45 => ?_)
        obtain ⟨hG46, ho47, hR48, w49⟩ := q45
        refine s_if_eq C dX6_condition_33 (tgt := 45) rfl (fun c50 => ?_) (fun c50 => ?_)
        ·
          refine s_iconst C dX6_condition_45 (0) (by decide) (fun z51 h52 => ?_)
          exact a_iret Rt dX6_condition_46 (nar_z (by omega)).1 (⟨hG46, (ony.tr (ony.tr (ony.tr (ony.tr ony.rf (ony.mono ho7 (by decide))) (ony.mono ho21 (by decide))) (ony.mono ho33 (by decide))) (ony.mono ho47 (by decide))), hR48, (show 0 ≤ z51.toInt ∧ z51.toInt ≤ 1 by intros; omega)⟩)
        ·
          refine a_aload_n C dX6_condition_36 (i := 0) rfl rfl ?_
          refine s_bipush C dX6_condition_37 (9) (by decide) (fun z53 h54 => ?_)
          refine a_callVi C (i := 1) kd_1 (hid 1 (by decide)) ⟨_, _, rfl⟩ (by decide) (S_X6_take_1 (x1 := z53) hid hG46 hR48) mi_X6_take ml_RX6_77 rfl rfl (Nat.le_of_ble_eq_true rfl) (Nat.le_of_ble_eq_true rfl) (Nat.le_of_ble_eq_true rfl) dX6_condition_39 (fun z55 σ56 q57 => ?_)
          obtain ⟨hG58, ho59, hR60, w61, w62, w63⟩ := q57
          refine s_if_ne C dX6_condition_42 (tgt := 47) rfl (fun c64 => ?_) (fun c64 => ?_)
          ·
            refine a_aload_n C dX6_condition_47 (i := 1) rfl rfl ?_
            refine s_bipush C dX6_condition_48 (-5) (by decide) (fun z65 h66 => ?_)
            refine a_callVv C (i := 43) kd_43 (hid 43 (by decide)) ⟨_, _, rfl⟩ (by decide) (S_X10_emit_43 (x1 := z65) hid hG58) mi_X10_emit ml_RX6_138 rfl rfl (Nat.le_of_ble_eq_true rfl) (Nat.le_of_ble_eq_true rfl) (Nat.le_of_ble_eq_true rfl) dX6_condition_50 (fun σ68 q69 => ?_)
            obtain ⟨hG70, ho71⟩ := q69
            have hR72 := RK.ony hR60 ho71 (by decide) (by decide)
            refine a_aload_n C dX6_condition_53 (i := 1) rfl rfl ?_
            have g73 := bF_43_8 hG70
            refine a_get C fl_RX6_129 (i := 43) kd_43 (hid 43 (by decide)) (v := .int (σ68.1 43 8)) rfl dX6_condition_54 ?_
            refine a_istore_n C dX6_condition_57 (i := 2) rfl (by decide) rfl (vs1 := [some (.ref (ad 1)), some (.ref (ad 43)), some (.int (σ68.1 43 8))]) rfl ?_
            refine a_aload_n C dX6_condition_58 (i := 1) rfl rfl ?_
            refine s_iconst C dX6_condition_59 (0) (by decide) (fun z74 h75 => ?_)
            refine a_callVv C (i := 43) kd_43 (hid 43 (by decide)) ⟨_, _, rfl⟩ (by decide) (S_X10_emit_43 (x1 := z74) hid hG70) mi_X10_emit ml_RX6_138 rfl rfl (Nat.le_of_ble_eq_true rfl) (Nat.le_of_ble_eq_true rfl) (Nat.le_of_ble_eq_true rfl) dX6_condition_60 (fun σ77 q78 => ?_)
            obtain ⟨hG79, ho80⟩ := q78
            have hR81 := RK.ony hR72 ho80 (by decide) (by decide)
            refine a_aload_n C dX6_condition_63 (i := 0) rfl rfl ?_
            refine a_aload_n C dX6_condition_64 (i := 1) rfl rfl ?_
            refine s_iconst C dX6_condition_65 (0) (by decide) (fun z82 h83 => ?_)
            refine a_callVi C (i := 1) kd_1 (hid 1 (by decide)) ⟨_, _, rfl⟩ (by decide) (S_X6_expression_1_43_w0 (x2 := z82) hid hG79 hR81 (by omega)) mi_X6_expression ml_RX6_135 rfl rfl (Nat.le_of_ble_eq_true rfl) (Nat.le_of_ble_eq_true rfl) (Nat.le_of_ble_eq_true rfl) dX6_condition_66 (fun z84 σ85 q86 => ?_)
            obtain ⟨hG87, ho88, hR89, w90⟩ := q86
            refine s_if_eq C dX6_condition_69 (tgt := 81) rfl (fun c91 => ?_) (fun c91 => ?_)
            ·
              refine s_iconst C dX6_condition_81 (0) (by decide) (fun z92 h93 => ?_)
              exact a_iret Rt dX6_condition_82 (nar_z (by omega)).1 (⟨hG87, (ony.tr (ony.tr (ony.tr (ony.tr (ony.tr (ony.tr (ony.tr (ony.tr ony.rf (ony.mono ho7 (by decide))) (ony.mono ho21 (by decide))) (ony.mono ho33 (by decide))) (ony.mono ho47 (by decide))) (ony.mono ho59 (by decide))) (ony.mono ho71 (by decide))) (ony.mono ho80 (by decide))) (ony.mono ho88 (by decide))), hR89, (show 0 ≤ z92.toInt ∧ z92.toInt ≤ 1 by intros; omega)⟩)
            ·
              refine a_aload_n C dX6_condition_72 (i := 0) rfl rfl ?_
              refine s_bipush C dX6_condition_73 (10) (by decide) (fun z94 h95 => ?_)
              refine a_callVi C (i := 1) kd_1 (hid 1 (by decide)) ⟨_, _, rfl⟩ (by decide) (S_X6_take_1 (x1 := z94) hid hG87 hR89) mi_X6_take ml_RX6_77 rfl rfl (Nat.le_of_ble_eq_true rfl) (Nat.le_of_ble_eq_true rfl) (Nat.le_of_ble_eq_true rfl) dX6_condition_75 (fun z96 σ97 q98 => ?_)
              obtain ⟨hG99, ho100, hR101, w102, w103, w104⟩ := q98
              refine s_if_ne C dX6_condition_78 (tgt := 83) rfl (fun c105 => ?_) (fun c105 => ?_)
              ·
                refine a_aload_n C dX6_condition_83 (i := 1) rfl rfl ?_
                refine s_bipush C dX6_condition_84 (-6) (by decide) (fun z106 h107 => ?_)
                refine a_callVv C (i := 43) kd_43 (hid 43 (by decide)) ⟨_, _, rfl⟩ (by decide) (S_X10_emit_43 (x1 := z106) hid hG99) mi_X10_emit ml_RX6_138 rfl rfl (Nat.le_of_ble_eq_true rfl) (Nat.le_of_ble_eq_true rfl) (Nat.le_of_ble_eq_true rfl) dX6_condition_86 (fun σ109 q110 => ?_)
                obtain ⟨hG111, ho112⟩ := q110
                have hR113 := RK.ony hR101 ho112 (by decide) (by decide)
                refine a_iload_n C dX6_condition_89 (i := 2) rfl rfl ?_
                refine a_aload_n C dX6_condition_90 (i := 1) rfl rfl ?_
                refine a_get C fl_RX6_141 (i := 43) kd_43 (hid 43 (by decide)) (v := .ref (ad 54)) rfl dX6_condition_91 ?_
                refine s_alen C (by rw [kd_54]; decide) (hid 54 (by decide)) al_54 (by decide) dX6_condition_94 (fun z114 h115 => ?_)
                refine s_ic_ge C dX6_condition_95 (tgt := 108) rfl (fun c116 => ?_) (fun c116 => ?_)
                ·
                  refine s_iconst C dX6_condition_108 (1) (by decide) (fun z117 h118 => ?_)
                  exact a_iret Rt dX6_condition_109 (nar_z (by omega)).1 (⟨hG111, (ony.tr (ony.tr (ony.tr (ony.tr (ony.tr (ony.tr (ony.tr (ony.tr (ony.tr (ony.tr ony.rf (ony.mono ho7 (by decide))) (ony.mono ho21 (by decide))) (ony.mono ho33 (by decide))) (ony.mono ho47 (by decide))) (ony.mono ho59 (by decide))) (ony.mono ho71 (by decide))) (ony.mono ho80 (by decide))) (ony.mono ho88 (by decide))) (ony.mono ho100 (by decide))) (ony.mono ho112 (by decide))), hR113, (show 0 ≤ z117.toInt ∧ z117.toInt ≤ 1 by intros; omega)⟩)
                ·
                  refine a_aload_n C dX6_condition_98 (i := 1) rfl rfl ?_
                  refine a_get C fl_RX6_141 (i := 43) kd_43 (hid 43 (by decide)) (v := .ref (ad 54)) rfl dX6_condition_99 ?_
                  refine a_iload_n C dX6_condition_102 (i := 2) rfl rfl ?_
                  refine a_aload_n C dX6_condition_103 (i := 1) rfl rfl ?_
                  have g119 := bF_43_8 hG111
                  refine a_get C fl_RX6_129 (i := 43) kd_43 (hid 43 (by decide)) (v := .int (σ109.1 43 8)) rfl dX6_condition_104 ?_
                  refine s_iast C (i := 54) kd_54 (hid 54 (by decide)) al_54 (by omega) (by omega) dX6_condition_107 (fun n120 h121 => ?_)
                  have hG122 := wA_54 (v := (σ109.1 43 8)) (j := n120) hG111
                  have hR123 := RK.I (i := 54) (k := n120) (v := (σ109.1 43 8)) hR113 (by decide) (fun e => absurd e (by decide))
                  refine s_iconst C dX6_condition_108 (1) (by decide) (fun z124 h125 => ?_)
                  exact a_iret Rt dX6_condition_109 (nar_z (by omega)).1 (⟨hG122, (ony.I (ony.tr (ony.tr (ony.tr (ony.tr (ony.tr (ony.tr (ony.tr (ony.tr (ony.tr (ony.tr ony.rf (ony.mono ho7 (by decide))) (ony.mono ho21 (by decide))) (ony.mono ho33 (by decide))) (ony.mono ho47 (by decide))) (ony.mono ho59 (by decide))) (ony.mono ho71 (by decide))) (ony.mono ho80 (by decide))) (ony.mono ho88 (by decide))) (ony.mono ho100 (by decide))) (ony.mono ho112 (by decide))) (by decide)), hR123, (show 0 ≤ z124.toInt ∧ z124.toInt ≤ 1 by intros; omega)⟩)
              ·
                refine s_iconst C dX6_condition_81 (0) (by decide) (fun z126 h127 => ?_)
                exact a_iret Rt dX6_condition_82 (nar_z (by omega)).1 (⟨hG99, (ony.tr (ony.tr (ony.tr (ony.tr (ony.tr (ony.tr (ony.tr (ony.tr (ony.tr ony.rf (ony.mono ho7 (by decide))) (ony.mono ho21 (by decide))) (ony.mono ho33 (by decide))) (ony.mono ho47 (by decide))) (ony.mono ho59 (by decide))) (ony.mono ho71 (by decide))) (ony.mono ho80 (by decide))) (ony.mono ho88 (by decide))) (ony.mono ho100 (by decide))), hR101, (show 0 ≤ z126.toInt ∧ z126.toInt ≤ 1 by intros; omega)⟩)
          ·
            refine s_iconst C dX6_condition_45 (0) (by decide) (fun z128 h129 => ?_)
            exact a_iret Rt dX6_condition_46 (nar_z (by omega)).1 (⟨hG58, (ony.tr (ony.tr (ony.tr (ony.tr (ony.tr ony.rf (ony.mono ho7 (by decide))) (ony.mono ho21 (by decide))) (ony.mono ho33 (by decide))) (ony.mono ho47 (by decide))) (ony.mono ho59 (by decide))), hR60, (show 0 ≤ z128.toInt ∧ z128.toInt ≤ 1 by intros; omega)⟩)
set_option maxHeartbeats 4000000 in
set_option maxRecDepth 100000 in
theorem S_X6_tellingLaw_1_43 {l : Launch} {D : va_G} {ids : List Nat} {ad : Nat → Nat} {ca : Nat → ClassId} {σ : HS} {x2 : Int32} (hid : ∀ i, i < 277 → i ∈ ids) (hG : GIc σ) (hR : RK σ) (hx2 : 2 ≤ x2.toInt ∧ x2.toInt ≤ 5) : Ki l D ids ad ca yX6_tellingLaw cX6_tellingLaw 4 .boolean 24 575 [.ref (ad 1), .ref (ad 43), .int x2] σ (fun r σ1 => (GIc σ1) ∧ (ony [1, 43, 54, 55] σ σ1) ∧ (RK σ1) ∧ (0 ≤ r.toInt ∧ r.toInt ≤ 1)) := by
  refine Ki.of (by decide) (Nat.le_of_ble_eq_true rfl) 1 (fun Γ C Rt => ?_)
  show AW ids ad ca Γ 0 [some (.ref (ad 1)), some (.ref (ad 43)), some (.int x2), none] [] σ
  have j63 : ∀ (σq63 : HS), GIc σq63 → ony [1, 43, 54, 55] σ σq63 → RK σq63 → AW ids ad ca Γ 63 [some (.ref (ad 1)), some (.ref (ad 43)), none, none] [] σq63 := by
    intro σq63 hGq63 hoq63 hRq63
    refine a_aload_n C dX6_tellingLaw_63 (i := 0) rfl rfl ?_
    refine a_get C fl_RX6_53 (i := 1) kd_1 (hid 1 (by decide)) (v := .int (σq63.1 1 6)) rfl dX6_tellingLaw_64 ?_
    refine s_bipush C dX6_tellingLaw_67 (8) (by decide) (fun z1 h2 => ?_)
    refine s_ic_ne C dX6_tellingLaw_69 (tgt := 78) rfl (fun c3 => ?_) (fun c3 => ?_)
    ·
      refine a_aload_n C dX6_tellingLaw_78 (i := 0) rfl rfl ?_
      refine a_aload_n C dX6_tellingLaw_79 (i := 1) rfl rfl ?_
      refine s_iconst C dX6_tellingLaw_80 (0) (by decide) (fun z4 h5 => ?_)
      refine a_callVi C (i := 1) kd_1 (hid 1 (by decide)) ⟨_, _, rfl⟩ (by decide) (S_X6_expression_1_43_w0 (x2 := z4) hid hGq63 hRq63 (by omega)) mi_X6_expression ml_RX6_135 rfl rfl (Nat.le_of_ble_eq_true rfl) (Nat.le_of_ble_eq_true rfl) (Nat.le_of_ble_eq_true rfl) dX6_tellingLaw_81 (fun z6 σ7 q8 => ?_)
      obtain ⟨hG9, ho10, hR11, w12⟩ := q8
      refine s_if_ne C dX6_tellingLaw_84 (tgt := 89) rfl (fun c13 => ?_) (fun c13 => ?_)
      ·
        refine a_aload_n C dX6_tellingLaw_89 (i := 1) rfl rfl ?_
        refine s_bipush C dX6_tellingLaw_90 (-6) (by decide) (fun z14 h15 => ?_)
        refine a_callVv C (i := 43) kd_43 (hid 43 (by decide)) ⟨_, _, rfl⟩ (by decide) (S_X10_emit_43 (x1 := z14) hid hG9) mi_X10_emit ml_RX6_138 rfl rfl (Nat.le_of_ble_eq_true rfl) (Nat.le_of_ble_eq_true rfl) (Nat.le_of_ble_eq_true rfl) dX6_tellingLaw_92 (fun σ17 q18 => ?_)
        obtain ⟨hG19, ho20⟩ := q18
        have hR21 := RK.ony hR11 ho20 (by decide) (by decide)
        refine a_aload_n C dX6_tellingLaw_95 (i := 0) rfl rfl ?_
        refine s_bipush C dX6_tellingLaw_96 (59) (by decide) (fun z22 h23 => ?_)
        refine a_callVi C (i := 1) kd_1 (hid 1 (by decide)) ⟨_, _, rfl⟩ (by decide) (S_X6_take_1 (x1 := z22) hid hG19 hR21) mi_X6_take ml_RX6_77 rfl rfl (Nat.le_of_ble_eq_true rfl) (Nat.le_of_ble_eq_true rfl) (Nat.le_of_ble_eq_true rfl) dX6_tellingLaw_98 (fun z24 σ25 q26 => ?_)
        obtain ⟨hG27, ho28, hR29, w30, w31, w32⟩ := q26
        exact a_iret Rt dX6_tellingLaw_101 (nar_z (by omega)).1 (⟨hG27, (ony.tr (ony.tr (ony.tr hoq63 (ony.mono ho10 (by decide))) (ony.mono ho20 (by decide))) (ony.mono ho28 (by decide))), hR29, (show 0 ≤ z24.toInt ∧ z24.toInt ≤ 1 by intros; omega)⟩)
      ·
        refine s_iconst C dX6_tellingLaw_87 (0) (by decide) (fun z33 h34 => ?_)
        exact a_iret Rt dX6_tellingLaw_88 (nar_z (by omega)).1 (⟨hG9, (ony.tr hoq63 (ony.mono ho10 (by decide))), hR11, (show 0 ≤ z33.toInt ∧ z33.toInt ≤ 1 by intros; omega)⟩)
    ·
      refine a_aload_n C dX6_tellingLaw_72 (i := 0) rfl rfl ?_
      refine s_iconst C dX6_tellingLaw_73 (2) (by decide) (fun z35 h36 => ?_)
      refine a_callVi C (i := 1) kd_1 (hid 1 (by decide)) ⟨_, _, rfl⟩ (by decide) (S_X6_refuse_1 (x1 := z35) hid hGq63 hRq63) mi_X6_refuse ml_RX6_60 rfl rfl (Nat.le_of_ble_eq_true rfl) (Nat.le_of_ble_eq_true rfl) (Nat.le_of_ble_eq_true rfl) dX6_tellingLaw_74 (fun z37 σ38 q39 => ?_)
      obtain ⟨hG40, ho41, hR42, w43⟩ := q39
      exact a_iret Rt dX6_tellingLaw_77 (nar_z (by omega)).1 (⟨hG40, (ony.tr hoq63 (ony.mono ho41 (by decide))), hR42, (show 0 ≤ z37.toInt ∧ z37.toInt ≤ 1 by intros; omega)⟩)
  have j33 : ∀ (d33 : Nat) (σq33 : HS) (y33_3 : Int32), 4 - y33_3.toInt < d33 → GIc σq33 → ony [1, 43, 54, 55] σ σq33 → RK σq33 → 0 ≤ y33_3.toInt ∧ y33_3.toInt ≤ 4 → AW ids ad ca Γ 33 [some (.ref (ad 1)), some (.ref (ad 43)), none, some (.int y33_3)] [] σq33 := by
    intro d33
    induction d33 with
    | zero =>
      intro σq33 y33_3 hd33 hGq33 hoq33 hRq33 hx33_0
      exfalso
      omega
    | succ d33 ih33 =>
      intro σq33 y33_3 hd33 hGq33 hoq33 hRq33 hx33_0
      refine a_aload_n C dX6_tellingLaw_33 (i := 0) rfl rfl ?_
      refine a_get C fl_RX6_53 (i := 1) kd_1 (hid 1 (by decide)) (v := .int (σq33.1 1 6)) rfl dX6_tellingLaw_34 ?_
      refine s_bipush C dX6_tellingLaw_37 (8) (by decide) (fun z44 h45 => ?_)
      refine s_ic_ne C dX6_tellingLaw_39 (tgt := 63) rfl (fun c46 => ?_) (fun c46 => ?_)
      ·
        refine AW.sub (vs' := [some (.ref (ad 1)), some (.ref (ad 43)), none, none]) (lsub_of (by simp [lsubB])) ?_
        exact j63 _ hGq33 hoq33 hRq33
      ·
        refine a_iload_n C dX6_tellingLaw_42 (i := 3) rfl rfl ?_
        refine s_iconst C dX6_tellingLaw_43 (4) (by decide) (fun z47 h48 => ?_)
        refine s_ic_ge C dX6_tellingLaw_44 (tgt := 63) rfl (fun c49 => ?_) (fun c49 => ?_)
        ·
          refine AW.sub (vs' := [some (.ref (ad 1)), some (.ref (ad 43)), none, none]) (lsub_of (by simp [lsubB])) ?_
          exact j63 _ hGq33 hoq33 hRq33
        ·
          refine a_aload_n C dX6_tellingLaw_47 (i := 0) rfl rfl ?_
          refine a_aload_n C dX6_tellingLaw_48 (i := 1) rfl rfl ?_
          refine a_callVi C (i := 1) kd_1 (hid 1 (by decide)) ⟨_, _, rfl⟩ (by decide) (S_X6_condition_1_43 hid hGq33 hRq33) mi_X6_condition ml_RX6_132 rfl rfl (Nat.le_of_ble_eq_true rfl) (Nat.le_of_ble_eq_true rfl) (Nat.le_of_ble_eq_true rfl) dX6_tellingLaw_49 (fun z50 σ51 q52 => ?_)
          obtain ⟨hG53, ho54, hR55, w56⟩ := q52
          refine s_if_ne C dX6_tellingLaw_52 (tgt := 57) rfl (fun c57 => ?_) (fun c57 => ?_)
          ·
            refine s_iinc C dX6_tellingLaw_57 rfl (1) (by decide) (by omega) (by decide) rfl (fun z58 h59 => ?_)
            show AW ids ad ca Γ 60 [some (.ref (ad 1)), some (.ref (ad 43)), none, some (.int z58)] _ _
            refine a_goto C dX6_tellingLaw_60 (tgt := 33) rfl ?_
            exact ih33 _ z58 (by omega) hG53 (ony.tr hoq33 (ony.mono ho54 (by decide))) hR55 (by omega)
          ·
            refine s_iconst C dX6_tellingLaw_55 (0) (by decide) (fun z60 h61 => ?_)
            exact a_iret Rt dX6_tellingLaw_56 (nar_z (by omega)).1 (⟨hG53, (ony.tr hoq33 (ony.mono ho54 (by decide))), hR55, (show 0 ≤ z60.toInt ∧ z60.toInt ≤ 1 by intros; omega)⟩)
  refine a_aload_n C dX6_tellingLaw_0 (i := 1) rfl rfl ?_
  refine a_get C fl_RX6_126 (i := 43) kd_43 (hid 43 (by decide)) (v := .ref (ad 55)) rfl dX6_tellingLaw_1 ?_
  refine a_iload_n C dX6_tellingLaw_4 (i := 2) rfl rfl ?_
  refine s_iconst C dX6_tellingLaw_5 (2) (by decide) (fun z62 h63 => ?_)
  refine s_isub C dX6_tellingLaw_6 (by omega) (fun z64 h65 => ?_)
  refine a_aload_n C dX6_tellingLaw_7 (i := 1) rfl rfl ?_
  have g66 := bF_43_8 hG
  refine a_get C fl_RX6_129 (i := 43) kd_43 (hid 43 (by decide)) (v := .int (σ.1 43 8)) rfl dX6_tellingLaw_8 ?_
  refine s_iast C (i := 55) kd_55 (hid 55 (by decide)) al_55 (by omega) (by omega) dX6_tellingLaw_11 (fun n67 h68 => ?_)
  have hG69 := wA_55 (v := (σ.1 43 8)) (j := n67) hG
  have hR70 := RK.I (i := 55) (k := n67) (v := (σ.1 43 8)) hR (by decide) (fun e => absurd e (by decide))
  refine a_aload_n C dX6_tellingLaw_12 (i := 0) rfl rfl ?_
  refine a_iload_n C dX6_tellingLaw_13 (i := 2) rfl rfl ?_
  refine a_callVi C (i := 1) kd_1 (hid 1 (by decide)) ⟨_, _, rfl⟩ (by decide) (S_X6_take_1 (x1 := x2) hid hG69 hR70) mi_X6_take ml_RX6_77 rfl rfl (Nat.le_of_ble_eq_true rfl) (Nat.le_of_ble_eq_true rfl) (Nat.le_of_ble_eq_true rfl) dX6_tellingLaw_14 (fun z71 σ72 q73 => ?_)
  obtain ⟨hG74, ho75, hR76, w77, w78, w79⟩ := q73
  refine s_if_eq C dX6_tellingLaw_17 (tgt := 29) rfl (fun c80 => ?_) (fun c80 => ?_)
  ·
    refine s_iconst C dX6_tellingLaw_29 (0) (by decide) (fun z81 h82 => ?_)
    exact a_iret Rt dX6_tellingLaw_30 (nar_z (by omega)).1 (⟨hG74, (ony.tr (ony.I ony.rf (by decide)) (ony.mono ho75 (by decide))), hR76, (show 0 ≤ z81.toInt ∧ z81.toInt ≤ 1 by intros; omega)⟩)
  ·
    refine a_aload_n C dX6_tellingLaw_20 (i := 0) rfl rfl ?_
    refine s_bipush C dX6_tellingLaw_21 (61) (by decide) (fun z83 h84 => ?_)
    refine a_callVi C (i := 1) kd_1 (hid 1 (by decide)) ⟨_, _, rfl⟩ (by decide) (S_X6_take_1 (x1 := z83) hid hG74 hR76) mi_X6_take ml_RX6_77 rfl rfl (Nat.le_of_ble_eq_true rfl) (Nat.le_of_ble_eq_true rfl) (Nat.le_of_ble_eq_true rfl) dX6_tellingLaw_23 (fun z85 σ86 q87 => ?_)
    obtain ⟨hG88, ho89, hR90, w91, w92, w93⟩ := q87
    refine s_if_ne C dX6_tellingLaw_26 (tgt := 31) rfl (fun c94 => ?_) (fun c94 => ?_)
    ·
      refine s_iconst C dX6_tellingLaw_31 (0) (by decide) (fun z95 h96 => ?_)
      refine a_istore_n C dX6_tellingLaw_32 (i := 3) rfl (by decide) rfl (vs1 := [some (.ref (ad 1)), some (.ref (ad 43)), some (.int x2), some (.int z95)]) rfl ?_
      refine AW.sub (vs' := [some (.ref (ad 1)), some (.ref (ad 43)), none, some (.int z95)]) (lsub_of (by simp [lsubB])) ?_
      exact j33 100000 _ z95 (by omega) hG88 (ony.tr (ony.tr (ony.I ony.rf (by decide)) (ony.mono ho75 (by decide))) (ony.mono ho89 (by decide))) hR90 (by omega)
    ·
      refine s_iconst C dX6_tellingLaw_29 (0) (by decide) (fun z97 h98 => ?_)
      exact a_iret Rt dX6_tellingLaw_30 (nar_z (by omega)).1 (⟨hG88, (ony.tr (ony.tr (ony.I ony.rf (by decide)) (ony.mono ho75 (by decide))) (ony.mono ho89 (by decide))), hR90, (show 0 ≤ z97.toInt ∧ z97.toInt ≤ 1 by intros; omega)⟩)
set_option maxHeartbeats 4000000 in
set_option maxRecDepth 100000 in
theorem S_X6_telling_1_43 {l : Launch} {D : va_G} {ids : List Nat} {ad : Nat → Nat} {ca : Nat → ClassId} {σ : HS} (hid : ∀ i, i < 277 → i ∈ ids) (hG : GIc σ) (hR : RK σ) : Ki l D ids ad ca yX6_telling cX6_telling 3 .boolean 25 598 [.ref (ad 1), .ref (ad 43)] σ (fun r σ1 => (GIc σ1) ∧ (ony [1, 7, 43, 44, 45, 46, 48, 49, 50, 51, 52, 53, 54, 55] σ σ1) ∧ (RK σ1) ∧ (0 ≤ r.toInt ∧ r.toInt ≤ 1)) := by
  refine Ki.of (by decide) (Nat.le_of_ble_eq_true rfl) 1 (fun Γ C Rt => ?_)
  show AW ids ad ca Γ 0 [some (.ref (ad 1)), some (.ref (ad 43)), none] [] σ
  have j148 : ∀ (σq148 : HS) (u148_0 : Int32), GIc σq148 → ony [1, 7, 43, 44, 45, 46, 48, 49, 50, 51, 52, 53, 54, 55] σ σq148 → RK σq148 → 0 ≤ u148_0.toInt ∧ u148_0.toInt ≤ 1 → AW ids ad ca Γ 148 [some (.ref (ad 1)), some (.ref (ad 43)), none] [.int u148_0] σq148 := by
    intro σq148 u148_0 hGq148 hoq148 hRq148 hx148_0
    refine a_istore_n C dX6_telling_148 (i := 2) rfl (by decide) rfl (vs1 := [some (.ref (ad 1)), some (.ref (ad 43)), some (.int u148_0)]) rfl ?_
    refine a_aload_n C dX6_telling_149 (i := 1) rfl rfl ?_
    refine a_aload_n C dX6_telling_150 (i := 0) rfl rfl ?_
    refine a_get C fl_RX6_67 (i := 1) kd_1 (hid 1 (by decide)) (v := .int (σq148.1 1 7)) rfl dX6_telling_151 ?_
    refine a_put C fp_RX6_97 (i := 43) kd_43 (hid 43 (by decide)) rfl rfl dX6_telling_154 ?_
    have hG1 := wF_43_11 (v := (σq148.1 1 7)) hGq148
    have hR2 := RK.I (i := 43) (k := 11) (v := (σq148.1 1 7)) hRq148 (by decide) (fun e => absurd e (by decide))
    refine a_iload_n C dX6_telling_157 (i := 2) rfl rfl ?_
    refine s_if_eq C dX6_telling_158 (tgt := 174) rfl (fun c3 => ?_) (fun c3 => ?_)
    ·
      refine s_iconst C dX6_telling_174 (0) (by decide) (fun z4 h5 => ?_)
      exact a_iret Rt dX6_telling_175 (nar_z (by omega)).1 (⟨hG1, (ony.I hoq148 (by decide)), hR2, (show 0 ≤ z4.toInt ∧ z4.toInt ≤ 1 by intros; omega)⟩)
    ·
      refine a_aload_n C dX6_telling_161 (i := 0) rfl rfl ?_
      refine s_bipush C dX6_telling_162 (59) (by decide) (fun z6 h7 => ?_)
      refine a_callVi C (i := 1) kd_1 (hid 1 (by decide)) ⟨_, _, rfl⟩ (by decide) (S_X6_take_1 (x1 := z6) hid hG1 hR2) mi_X6_take ml_RX6_77 rfl rfl (Nat.le_of_ble_eq_true rfl) (Nat.le_of_ble_eq_true rfl) (Nat.le_of_ble_eq_true rfl) dX6_telling_164 (fun z8 σ9 q10 => ?_)
      obtain ⟨hG11, ho12, hR13, w14, w15, w16⟩ := q10
      refine s_if_eq C dX6_telling_167 (tgt := 174) rfl (fun c17 => ?_) (fun c17 => ?_)
      ·
        refine s_iconst C dX6_telling_174 (0) (by decide) (fun z18 h19 => ?_)
        exact a_iret Rt dX6_telling_175 (nar_z (by omega)).1 (⟨hG11, (ony.tr (ony.I hoq148 (by decide)) (ony.mono ho12 (by decide))), hR13, (show 0 ≤ z18.toInt ∧ z18.toInt ≤ 1 by intros; omega)⟩)
      ·
        refine s_iconst C dX6_telling_170 (1) (by decide) (fun z20 h21 => ?_)
        refine a_goto C dX6_telling_171 (tgt := 175) rfl ?_
        exact a_iret Rt dX6_telling_175 (nar_z (by omega)).1 (⟨hG11, (ony.tr (ony.I hoq148 (by decide)) (ony.mono ho12 (by decide))), hR13, (show 0 ≤ z20.toInt ∧ z20.toInt ≤ 1 by intros; omega)⟩)
  have j147 : ∀ (σq147 : HS), GIc σq147 → ony [1, 7, 43, 44, 45, 46, 48, 49, 50, 51, 52, 53, 54, 55] σ σq147 → RK σq147 → AW ids ad ca Γ 147 [some (.ref (ad 1)), some (.ref (ad 43)), none] [] σq147 := by
    intro σq147 hGq147 hoq147 hRq147
    refine s_iconst C dX6_telling_147 (0) (by decide) (fun z22 h23 => ?_)
    exact j148 _ z22 hGq147 hoq147 hRq147 (by omega)
  have j86 : ∀ (σq86 : HS) (u86_0 : Int32), GIc σq86 → ony [1, 7, 43, 44, 45, 46, 48, 49, 50, 51, 52, 53, 54, 55] σ σq86 → RK σq86 → 0 ≤ u86_0.toInt ∧ u86_0.toInt ≤ 1 → AW ids ad ca Γ 86 [some (.ref (ad 1)), some (.ref (ad 43)), none] [.int u86_0] σq86 := by
    intro σq86 u86_0 hGq86 hoq86 hRq86 hx86_0
    refine a_istore_n C dX6_telling_86 (i := 2) rfl (by decide) rfl (vs1 := [some (.ref (ad 1)), some (.ref (ad 43)), some (.int u86_0)]) rfl ?_
    refine a_aload_n C dX6_telling_87 (i := 1) rfl rfl ?_
    refine a_aload_n C dX6_telling_88 (i := 0) rfl rfl ?_
    refine a_get C fl_RX6_67 (i := 1) kd_1 (hid 1 (by decide)) (v := .int (σq86.1 1 7)) rfl dX6_telling_89 ?_
    refine a_put C fp_RX6_94 (i := 43) kd_43 (hid 43 (by decide)) rfl rfl dX6_telling_92 ?_
    have hG24 := wF_43_10 (v := (σq86.1 1 7)) hGq86
    have hR25 := RK.I (i := 43) (k := 10) (v := (σq86.1 1 7)) hRq86 (by decide) (fun e => absurd e (by decide))
    refine a_iload_n C dX6_telling_95 (i := 2) rfl rfl ?_
    refine s_if_eq C dX6_telling_96 (tgt := 112) rfl (fun c26 => ?_) (fun c26 => ?_)
    ·
      refine s_iconst C dX6_telling_112 (0) (by decide) (fun z27 h28 => ?_)
      exact a_iret Rt dX6_telling_113 (nar_z (by omega)).1 (⟨hG24, (ony.I hoq86 (by decide)), hR25, (show 0 ≤ z27.toInt ∧ z27.toInt ≤ 1 by intros; omega)⟩)
    ·
      refine a_aload_n C dX6_telling_99 (i := 0) rfl rfl ?_
      refine s_bipush C dX6_telling_100 (59) (by decide) (fun z29 h30 => ?_)
      refine a_callVi C (i := 1) kd_1 (hid 1 (by decide)) ⟨_, _, rfl⟩ (by decide) (S_X6_take_1 (x1 := z29) hid hG24 hR25) mi_X6_take ml_RX6_77 rfl rfl (Nat.le_of_ble_eq_true rfl) (Nat.le_of_ble_eq_true rfl) (Nat.le_of_ble_eq_true rfl) dX6_telling_102 (fun z31 σ32 q33 => ?_)
      obtain ⟨hG34, ho35, hR36, w37, w38, w39⟩ := q33
      refine s_if_eq C dX6_telling_105 (tgt := 112) rfl (fun c40 => ?_) (fun c40 => ?_)
      ·
        refine s_iconst C dX6_telling_112 (0) (by decide) (fun z41 h42 => ?_)
        exact a_iret Rt dX6_telling_113 (nar_z (by omega)).1 (⟨hG34, (ony.tr (ony.I hoq86 (by decide)) (ony.mono ho35 (by decide))), hR36, (show 0 ≤ z41.toInt ∧ z41.toInt ≤ 1 by intros; omega)⟩)
      ·
        refine s_iconst C dX6_telling_108 (1) (by decide) (fun z43 h44 => ?_)
        refine a_goto C dX6_telling_109 (tgt := 113) rfl ?_
        exact a_iret Rt dX6_telling_113 (nar_z (by omega)).1 (⟨hG34, (ony.tr (ony.I hoq86 (by decide)) (ony.mono ho35 (by decide))), hR36, (show 0 ≤ z43.toInt ∧ z43.toInt ≤ 1 by intros; omega)⟩)
  have j85 : ∀ (σq85 : HS), GIc σq85 → ony [1, 7, 43, 44, 45, 46, 48, 49, 50, 51, 52, 53, 54, 55] σ σq85 → RK σq85 → AW ids ad ca Γ 85 [some (.ref (ad 1)), some (.ref (ad 43)), none] [] σq85 := by
    intro σq85 hGq85 hoq85 hRq85
    refine s_iconst C dX6_telling_85 (0) (by decide) (fun z45 h46 => ?_)
    exact j86 _ z45 hGq85 hoq85 hRq85 (by omega)
  have j53 : ∀ (σq53 : HS), GIc σq53 → ony [1, 7, 43, 44, 45, 46, 48, 49, 50, 51, 52, 53, 54, 55] σ σq53 → RK σq53 → AW ids ad ca Γ 53 [some (.ref (ad 1)), some (.ref (ad 43)), none] [] σq53 := by
    intro σq53 hGq53 hoq53 hRq53
    refine a_aload_n C dX6_telling_53 (i := 0) rfl rfl ?_
    refine a_get C fl_RX6_53 (i := 1) kd_1 (hid 1 (by decide)) (v := .int (σq53.1 1 6)) rfl dX6_telling_54 ?_
    refine s_bipush C dX6_telling_57 (6) (by decide) (fun z47 h48 => ?_)
    refine s_ic_ne C dX6_telling_59 (tgt := 114) rfl (fun c49 => ?_) (fun c49 => ?_)
    ·
      refine a_aload_n C dX6_telling_114 (i := 0) rfl rfl ?_
      refine a_get C fl_RX6_53 (i := 1) kd_1 (hid 1 (by decide)) (v := .int (σq53.1 1 6)) rfl dX6_telling_115 ?_
      refine s_bipush C dX6_telling_118 (7) (by decide) (fun z50 h51 => ?_)
      refine s_ic_ne C dX6_telling_120 (tgt := 176) rfl (fun c52 => ?_) (fun c52 => ?_)
      ·
        refine a_aload_n C dX6_telling_176 (i := 0) rfl rfl ?_
        refine s_iconst C dX6_telling_177 (1) (by decide) (fun z53 h54 => ?_)
        refine a_callVi C (i := 1) kd_1 (hid 1 (by decide)) ⟨_, _, rfl⟩ (by decide) (S_X6_refuse_1 (x1 := z53) hid hGq53 hRq53) mi_X6_refuse ml_RX6_60 rfl rfl (Nat.le_of_ble_eq_true rfl) (Nat.le_of_ble_eq_true rfl) (Nat.le_of_ble_eq_true rfl) dX6_telling_178 (fun z55 σ56 q57 => ?_)
        obtain ⟨hG58, ho59, hR60, w61⟩ := q57
        exact a_iret Rt dX6_telling_181 (nar_z (by omega)).1 (⟨hG58, (ony.tr hoq53 (ony.mono ho59 (by decide))), hR60, (show 0 ≤ z55.toInt ∧ z55.toInt ≤ 1 by intros; omega)⟩)
      ·
        refine a_aload_n C dX6_telling_123 (i := 0) rfl rfl ?_
        refine s_bipush C dX6_telling_124 (7) (by decide) (fun z62 h63 => ?_)
        refine a_callVi C (i := 1) kd_1 (hid 1 (by decide)) ⟨_, _, rfl⟩ (by decide) (S_X6_take_1 (x1 := z62) hid hGq53 hRq53) mi_X6_take ml_RX6_77 rfl rfl (Nat.le_of_ble_eq_true rfl) (Nat.le_of_ble_eq_true rfl) (Nat.le_of_ble_eq_true rfl) dX6_telling_126 (fun z64 σ65 q66 => ?_)
        obtain ⟨hG67, ho68, hR69, w70, w71, w72⟩ := q66
        refine s_if_eq C dX6_telling_129 (tgt := 147) rfl (fun c73 => ?_) (fun c73 => ?_)
        ·
          exact j147 _ hG67 (ony.tr hoq53 (ony.mono ho68 (by decide))) hR69
        ·
          refine a_aload_n C dX6_telling_132 (i := 0) rfl rfl ?_
          refine s_iconst C dX6_telling_133 (0) (by decide) (fun z74 h75 => ?_)
          refine s_sipush C dX6_telling_134 (9999) (by decide) (fun z76 h77 => ?_)
          refine a_callVi C (i := 1) kd_1 (hid 1 (by decide)) ⟨_, _, rfl⟩ (by decide) (S_X6_takeNumber_1 (x1 := z74) (x2 := z76) hid hG67 hR69) mi_X6_takeNumber ml_RX6_90 rfl rfl (Nat.le_of_ble_eq_true rfl) (Nat.le_of_ble_eq_true rfl) (Nat.le_of_ble_eq_true rfl) dX6_telling_137 (fun z78 σ79 q80 => ?_)
          obtain ⟨hG81, ho82, hR83, w84, w85⟩ := q80
          refine s_if_eq C dX6_telling_140 (tgt := 147) rfl (fun c86 => ?_) (fun c86 => ?_)
          ·
            exact j147 _ hG81 (ony.tr (ony.tr hoq53 (ony.mono ho68 (by decide))) (ony.mono ho82 (by decide))) hR83
          ·
            refine s_iconst C dX6_telling_143 (1) (by decide) (fun z87 h88 => ?_)
            refine a_goto C dX6_telling_144 (tgt := 148) rfl ?_
            exact j148 _ z87 hG81 (ony.tr (ony.tr hoq53 (ony.mono ho68 (by decide))) (ony.mono ho82 (by decide))) hR83 (by omega)
    ·
      refine a_aload_n C dX6_telling_62 (i := 0) rfl rfl ?_
      refine s_bipush C dX6_telling_63 (6) (by decide) (fun z89 h90 => ?_)
      refine a_callVi C (i := 1) kd_1 (hid 1 (by decide)) ⟨_, _, rfl⟩ (by decide) (S_X6_take_1 (x1 := z89) hid hGq53 hRq53) mi_X6_take ml_RX6_77 rfl rfl (Nat.le_of_ble_eq_true rfl) (Nat.le_of_ble_eq_true rfl) (Nat.le_of_ble_eq_true rfl) dX6_telling_65 (fun z91 σ92 q93 => ?_)
      obtain ⟨hG94, ho95, hR96, w97, w98, w99⟩ := q93
      refine s_if_eq C dX6_telling_68 (tgt := 85) rfl (fun c100 => ?_) (fun c100 => ?_)
      ·
        exact j85 _ hG94 (ony.tr hoq53 (ony.mono ho95 (by decide))) hR96
      ·
        refine a_aload_n C dX6_telling_71 (i := 0) rfl rfl ?_
        refine s_iconst C dX6_telling_72 (0) (by decide) (fun z101 h102 => ?_)
        refine s_bipush C dX6_telling_73 (99) (by decide) (fun z103 h104 => ?_)
        refine a_callVi C (i := 1) kd_1 (hid 1 (by decide)) ⟨_, _, rfl⟩ (by decide) (S_X6_takeNumber_1 (x1 := z101) (x2 := z103) hid hG94 hR96) mi_X6_takeNumber ml_RX6_90 rfl rfl (Nat.le_of_ble_eq_true rfl) (Nat.le_of_ble_eq_true rfl) (Nat.le_of_ble_eq_true rfl) dX6_telling_75 (fun z105 σ106 q107 => ?_)
        obtain ⟨hG108, ho109, hR110, w111, w112⟩ := q107
        refine s_if_eq C dX6_telling_78 (tgt := 85) rfl (fun c113 => ?_) (fun c113 => ?_)
        ·
          exact j85 _ hG108 (ony.tr (ony.tr hoq53 (ony.mono ho95 (by decide))) (ony.mono ho109 (by decide))) hR110
        ·
          refine s_iconst C dX6_telling_81 (1) (by decide) (fun z114 h115 => ?_)
          refine a_goto C dX6_telling_82 (tgt := 86) rfl ?_
          exact j86 _ z114 hG108 (ony.tr (ony.tr hoq53 (ony.mono ho95 (by decide))) (ony.mono ho109 (by decide))) hR110 (by omega)
  refine a_aload_n C dX6_telling_0 (i := 0) rfl rfl ?_
  refine a_get C fl_RX6_53 (i := 1) kd_1 (hid 1 (by decide)) (v := .int (σ.1 1 6)) rfl dX6_telling_1 ?_
  refine s_if_ne C dX6_telling_4 (tgt := 13) rfl (fun c116 => ?_) (fun c116 => ?_)
  ·
    refine a_aload_n C dX6_telling_13 (i := 0) rfl rfl ?_
    refine a_get C fl_RX6_53 (i := 1) kd_1 (hid 1 (by decide)) (v := .int (σ.1 1 6)) rfl dX6_telling_14 ?_
    refine s_iconst C dX6_telling_17 (1) (by decide) (fun z117 h118 => ?_)
    refine s_ic_ne C dX6_telling_18 (tgt := 27) rfl (fun c119 => ?_) (fun c119 => ?_)
    ·
      refine a_aload_n C dX6_telling_27 (i := 0) rfl rfl ?_
      refine a_get C fl_RX6_53 (i := 1) kd_1 (hid 1 (by decide)) (v := .int (σ.1 1 6)) rfl dX6_telling_28 ?_
      refine s_iconst C dX6_telling_31 (2) (by decide) (fun z120 h121 => ?_)
      refine s_ic_lt C dX6_telling_32 (tgt := 53) rfl (fun c122 => ?_) (fun c122 => ?_)
      ·
        exact j53 _ hG ony.rf hR
      ·
        refine a_aload_n C dX6_telling_35 (i := 0) rfl rfl ?_
        refine a_get C fl_RX6_53 (i := 1) kd_1 (hid 1 (by decide)) (v := .int (σ.1 1 6)) rfl dX6_telling_36 ?_
        refine s_iconst C dX6_telling_39 (5) (by decide) (fun z123 h124 => ?_)
        refine s_ic_gt C dX6_telling_40 (tgt := 53) rfl (fun c125 => ?_) (fun c125 => ?_)
        ·
          exact j53 _ hG ony.rf hR
        ·
          refine a_aload_n C dX6_telling_43 (i := 0) rfl rfl ?_
          refine a_aload_n C dX6_telling_44 (i := 1) rfl rfl ?_
          refine a_aload_n C dX6_telling_45 (i := 0) rfl rfl ?_
          refine a_get C fl_RX6_53 (i := 1) kd_1 (hid 1 (by decide)) (v := .int (σ.1 1 6)) rfl dX6_telling_46 ?_
          refine a_callVi C (i := 1) kd_1 (hid 1 (by decide)) ⟨_, _, rfl⟩ (by decide) (S_X6_tellingLaw_1_43 (x2 := (σ.1 1 6)) hid hG hR (by omega)) mi_X6_tellingLaw ml_RX6_86 rfl rfl (Nat.le_of_ble_eq_true rfl) (Nat.le_of_ble_eq_true rfl) (Nat.le_of_ble_eq_true rfl) dX6_telling_49 (fun z126 σ127 q128 => ?_)
          obtain ⟨hG129, ho130, hR131, w132⟩ := q128
          exact a_iret Rt dX6_telling_52 (nar_z (by omega)).1 (⟨hG129, (ony.tr ony.rf (ony.mono ho130 (by decide))), hR131, (show 0 ≤ z126.toInt ∧ z126.toInt ≤ 1 by intros; omega)⟩)
    ·
      refine a_aload_n C dX6_telling_21 (i := 0) rfl rfl ?_
      refine a_aload_n C dX6_telling_22 (i := 1) rfl rfl ?_
      refine a_callVi C (i := 1) kd_1 (hid 1 (by decide)) ⟨_, _, rfl⟩ (by decide) (S_X6_tellingPattern_1_43 hid hG hR) mi_X6_tellingPattern ml_RX6_83 rfl rfl (Nat.le_of_ble_eq_true rfl) (Nat.le_of_ble_eq_true rfl) (Nat.le_of_ble_eq_true rfl) dX6_telling_23 (fun z133 σ134 q135 => ?_)
      obtain ⟨hG136, ho137, hR138, w139⟩ := q135
      exact a_iret Rt dX6_telling_26 (nar_z (by omega)).1 (⟨hG136, (ony.tr ony.rf (ony.mono ho137 (by decide))), hR138, (show 0 ≤ z133.toInt ∧ z133.toInt ≤ 1 by intros; omega)⟩)
  ·
    refine a_aload_n C dX6_telling_7 (i := 0) rfl rfl ?_
    refine a_aload_n C dX6_telling_8 (i := 1) rfl rfl ?_
    refine a_callVi C (i := 1) kd_1 (hid 1 (by decide)) ⟨_, _, rfl⟩ (by decide) (S_X6_tellingThing_1_43 hid hG hR) mi_X6_tellingThing ml_RX6_80 rfl rfl (Nat.le_of_ble_eq_true rfl) (Nat.le_of_ble_eq_true rfl) (Nat.le_of_ble_eq_true rfl) dX6_telling_9 (fun z140 σ141 q142 => ?_)
    obtain ⟨hG143, ho144, hR145, w146⟩ := q142
    exact a_iret Rt dX6_telling_12 (nar_z (by omega)).1 (⟨hG143, (ony.tr ony.rf (ony.mono ho144 (by decide))), hR145, (show 0 ≤ z140.toInt ∧ z140.toInt ≤ 1 by intros; omega)⟩)
theorem dX4_asks_0 : decode cX4_asks 0 = .ok (.aload_n 0, 1) := by decide +kernel
theorem dX4_asks_1 : decode cX4_asks 1 = .ok (.getfield 12, 3) := by decide +kernel
theorem dX4_asks_4 : decode cX4_asks 4 = .ok (.getfield 107, 3) := by decide +kernel
theorem dX4_asks_7 : decode cX4_asks 7 = .ok (.iconst 2, 1) := by decide +kernel
theorem dX4_asks_8 : decode cX4_asks 8 = .ok (.iload_n 3, 1) := by decide +kernel
theorem dX4_asks_9 : decode cX4_asks 9 = .ok (.iastore, 1) := by decide +kernel
theorem dX4_asks_10 : decode cX4_asks 10 = .ok (.aload_n 0, 1) := by decide +kernel
theorem dX4_asks_11 : decode cX4_asks 11 = .ok (.getfield 12, 3) := by decide +kernel
theorem dX4_asks_14 : decode cX4_asks 14 = .ok (.aload_n 1, 1) := by decide +kernel
theorem dX4_asks_15 : decode cX4_asks 15 = .ok (.getfield 116, 3) := by decide +kernel
theorem dX4_asks_18 : decode cX4_asks 18 = .ok (.aload_n 1, 1) := by decide +kernel
theorem dX4_asks_19 : decode cX4_asks 19 = .ok (.getfield 119, 3) := by decide +kernel
theorem dX4_asks_22 : decode cX4_asks 22 = .ok (.iload_n 2, 1) := by decide +kernel
theorem dX4_asks_23 : decode cX4_asks 23 = .ok (.iaload, 1) := by decide +kernel
theorem dX4_asks_24 : decode cX4_asks 24 = .ok (.invokevirtual 122, 3) := by decide +kernel
theorem dX4_asks_27 : decode cX4_asks 27 = .ok (.istore 4, 2) := by decide +kernel
theorem dX4_asks_29 : decode cX4_asks 29 = .ok (.iload_n 2, 1) := by decide +kernel
theorem dX4_asks_30 : decode cX4_asks 30 = .ok (.lookupswitch 51 #[(1, 26), (2, 38)], 26) := by decide +kernel
theorem dX4_asks_56 : decode cX4_asks 56 = .ok (.iconst 0, 1) := by decide +kernel
theorem dX4_asks_57 : decode cX4_asks 57 = .ok (.bipush 100, 2) := by decide +kernel
theorem dX4_asks_59 : decode cX4_asks 59 = .ok (.iload 4, 2) := by decide +kernel
theorem dX4_asks_61 : decode cX4_asks 61 = .ok (.invokestatic 95, 3) := by decide +kernel
theorem dX4_asks_64 : decode cX4_asks 64 = .ok (.invokestatic 51, 3) := by decide +kernel
theorem dX4_asks_67 : decode cX4_asks 67 = .ok (.ireturn, 1) := by decide +kernel
theorem dX4_asks_68 : decode cX4_asks 68 = .ok (.bipush (-99), 2) := by decide +kernel
theorem dX4_asks_70 : decode cX4_asks 70 = .ok (.bipush 99, 2) := by decide +kernel
theorem dX4_asks_72 : decode cX4_asks 72 = .ok (.iload 4, 2) := by decide +kernel
theorem dX4_asks_74 : decode cX4_asks 74 = .ok (.invokestatic 95, 3) := by decide +kernel
theorem dX4_asks_77 : decode cX4_asks 77 = .ok (.invokestatic 51, 3) := by decide +kernel
theorem dX4_asks_80 : decode cX4_asks 80 = .ok (.ireturn, 1) := by decide +kernel
theorem dX4_asks_81 : decode cX4_asks 81 = .ok (.iconst 0, 1) := by decide +kernel
theorem dX4_asks_82 : decode cX4_asks 82 = .ok (.bipush 99, 2) := by decide +kernel
theorem dX4_asks_84 : decode cX4_asks 84 = .ok (.iload 4, 2) := by decide +kernel
theorem dX4_asks_86 : decode cX4_asks 86 = .ok (.invokestatic 95, 3) := by decide +kernel
theorem dX4_asks_89 : decode cX4_asks 89 = .ok (.invokestatic 51, 3) := by decide +kernel
theorem dX4_asks_92 : decode cX4_asks 92 = .ok (.ireturn, 1) := by decide +kernel
set_option maxHeartbeats 4000000 in
set_option maxRecDepth 100000 in
theorem S_X4_asks_8_30 {l : Launch} {D : va_G} {ids : List Nat} {ad : Nat → Nat} {ca : Nat → ClassId} {σ : HS} {x2 : Int32} {x3 : Int32} (hid : ∀ i, i < 277 → i ∈ ids) (hG : GIc σ) (hx2 : 0 ≤ x2.toInt ∧ x2.toInt ≤ 3) : Ki l D ids ad ca yX4_asks cX4_asks 5 .int 2 50 [.ref (ad 8), .ref (ad 30), .int x2, .int x3] σ (fun r σ1 => (GIc σ1) ∧ (ony [9, 10, 11] σ σ1)) := by
  refine Ki.of (by decide) (Nat.le_of_ble_eq_true rfl) 1 (fun Γ C Rt => ?_)
  show AW ids ad ca Γ 0 [some (.ref (ad 8)), some (.ref (ad 30)), some (.int x2), some (.int x3), none] [] σ
  refine a_aload_n C dX4_asks_0 (i := 0) rfl rfl ?_
  refine a_get C fl_RX4_12 (i := 8) kd_8 (hid 8 (by decide)) (v := .ref (ad 9)) rfl dX4_asks_1 ?_
  refine a_get C fl_RX4_107 (i := 9) kd_9 (hid 9 (by decide)) (v := .ref (ad 10)) rfl dX4_asks_4 ?_
  refine s_iconst C dX4_asks_7 (2) (by decide) (fun z1 h2 => ?_)
  refine a_iload_n C dX4_asks_8 (i := 3) rfl rfl ?_
  refine s_iast C (i := 10) kd_10 (hid 10 (by decide)) al_10 (by omega) (by omega) dX4_asks_9 (fun n3 h4 => ?_)
  have hG5 := wA_10 (v := x3) (j := n3) hG
  refine a_aload_n C dX4_asks_10 (i := 0) rfl rfl ?_
  refine a_get C fl_RX4_12 (i := 8) kd_8 (hid 8 (by decide)) (v := .ref (ad 9)) rfl dX4_asks_11 ?_
  refine a_aload_n C dX4_asks_14 (i := 1) rfl rfl ?_
  refine a_get C fl_RX4_116 (i := 30) kd_30 (hid 30 (by decide)) (v := .ref (ad 41)) rfl dX4_asks_15 ?_
  refine a_aload_n C dX4_asks_18 (i := 1) rfl rfl ?_
  refine a_get C fl_RX4_119 (i := 30) kd_30 (hid 30 (by decide)) (v := .ref (ad 42)) rfl dX4_asks_19 ?_
  refine a_iload_n C dX4_asks_22 (i := 2) rfl rfl ?_
  refine s_iald C (i := 42) kd_42 (hid 42 (by decide)) al_42 (by omega) (by omega) dX4_asks_23 (fun n6 h7 => ?_)
  refine s_val (fun z8 e9 => ?_)
  refine a_callVi C (i := 9) kd_9 (hid 9 (by decide)) ⟨_, _, rfl⟩ (by decide) (S_X1_answer_9_41 (x2 := z8) hid hG5) mi_X1_answer ml_RX4_122 rfl rfl (Nat.le_of_ble_eq_true rfl) (Nat.le_of_ble_eq_true rfl) (Nat.le_of_ble_eq_true rfl) dX4_asks_24 (fun z10 σ11 q12 => ?_)
  obtain ⟨hG13, ho14⟩ := q12
  refine a_istore C dX4_asks_27 (by decide) rfl (vs1 := [some (.ref (ad 8)), some (.ref (ad 30)), some (.int x2), some (.int x3), some (.int z10)]) rfl ?_
  refine a_iload_n C dX4_asks_29 (i := 2) rfl rfl ?_
  by_cases hq16 : x2.toInt = 1
  ·
    refine a_lookup C dX4_asks_30 (by decide) (by rw [hq16] <;> rfl) (tgt := 56) rfl ?_
    refine s_iconst C dX4_asks_56 (0) (by decide) (fun z17 h18 => ?_)
    refine s_bipush C dX4_asks_57 (100) (by decide) (fun z19 h20 => ?_)
    refine a_iload C dX4_asks_59 rfl ?_
    refine s_mmin C dX4_asks_61 mm_RX4_95 mm_min.1 mm_min.2.1 mm_min.2.2 (Nat.le_of_ble_eq_true rfl) (Nat.le_of_ble_eq_true rfl) (fun z21 h22 => ?_)
    refine s_mmax C dX4_asks_64 mm_RX4_51 mm_max.1 mm_max.2.1 mm_max.2.2 (Nat.le_of_ble_eq_true rfl) (Nat.le_of_ble_eq_true rfl) (fun z23 h24 => ?_)
    exact a_iret Rt dX4_asks_67 rfl (⟨hG13, (ony.tr (ony.I ony.rf (by decide)) (ony.mono ho14 (by decide)))⟩)
  by_cases hq25 : x2.toInt = 2
  ·
    refine a_lookup C dX4_asks_30 (by decide) (by rw [hq25] <;> rfl) (tgt := 68) rfl ?_
    refine s_bipush C dX4_asks_68 (-99) (by decide) (fun z26 h27 => ?_)
    refine s_bipush C dX4_asks_70 (99) (by decide) (fun z28 h29 => ?_)
    refine a_iload C dX4_asks_72 rfl ?_
    refine s_mmin C dX4_asks_74 mm_RX4_95 mm_min.1 mm_min.2.1 mm_min.2.2 (Nat.le_of_ble_eq_true rfl) (Nat.le_of_ble_eq_true rfl) (fun z30 h31 => ?_)
    refine s_mmax C dX4_asks_77 mm_RX4_51 mm_max.1 mm_max.2.1 mm_max.2.2 (Nat.le_of_ble_eq_true rfl) (Nat.le_of_ble_eq_true rfl) (fun z32 h33 => ?_)
    exact a_iret Rt dX4_asks_80 rfl (⟨hG13, (ony.tr (ony.I ony.rf (by decide)) (ony.mono ho14 (by decide)))⟩)
  refine a_lookup C dX4_asks_30 (by decide) (off := 51) (by simp [Op.lookupswitch.offset]; rw [if_neg (by omega), if_neg (by omega)]) (tgt := 81) rfl ?_
  refine s_iconst C dX4_asks_81 (0) (by decide) (fun z34 h35 => ?_)
  refine s_bipush C dX4_asks_82 (99) (by decide) (fun z36 h37 => ?_)
  refine a_iload C dX4_asks_84 rfl ?_
  refine s_mmin C dX4_asks_86 mm_RX4_95 mm_min.1 mm_min.2.1 mm_min.2.2 (Nat.le_of_ble_eq_true rfl) (Nat.le_of_ble_eq_true rfl) (fun z38 h39 => ?_)
  refine s_mmax C dX4_asks_89 mm_RX4_51 mm_max.1 mm_max.2.1 mm_max.2.2 (Nat.le_of_ble_eq_true rfl) (Nat.le_of_ble_eq_true rfl) (fun z40 h41 => ?_)
  exact a_iret Rt dX4_asks_92 rfl (⟨hG13, (ony.tr (ony.I ony.rf (by decide)) (ony.mono ho14 (by decide)))⟩)
