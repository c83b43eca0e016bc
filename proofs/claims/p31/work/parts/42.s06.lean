theorem dX6_expression_0 : decode cX6_expression 0 = .ok (.aload_n 0, 1) := by decide +kernel
theorem dX6_expression_1 : decode cX6_expression 1 = .ok (.aload_n 1, 1) := by decide +kernel
theorem dX6_expression_2 : decode cX6_expression 2 = .ok (.iload_n 2, 1) := by decide +kernel
theorem dX6_expression_3 : decode cX6_expression 3 = .ok (.invokevirtual 144, 3) := by decide +kernel
theorem dX6_expression_6 : decode cX6_expression 6 = .ok (.istore_n 3, 1) := by decide +kernel
theorem dX6_expression_7 : decode cX6_expression 7 = .ok (.iconst 0, 1) := by decide +kernel
theorem dX6_expression_8 : decode cX6_expression 8 = .ok (.istore 4, 2) := by decide +kernel
theorem dX6_expression_10 : decode cX6_expression 10 = .ok (.iload_n 3, 1) := by decide +kernel
theorem dX6_expression_11 : decode cX6_expression 11 = .ok (.ifCond .eq 82, 3) := by decide +kernel
theorem dX6_expression_14 : decode cX6_expression 14 = .ok (.aload_n 0, 1) := by decide +kernel
theorem dX6_expression_15 : decode cX6_expression 15 = .ok (.getfield 53, 3) := by decide +kernel
theorem dX6_expression_18 : decode cX6_expression 18 = .ok (.bipush 43, 2) := by decide +kernel
theorem dX6_expression_20 : decode cX6_expression 20 = .ok (.if_icmp .eq 12, 3) := by decide +kernel
theorem dX6_expression_23 : decode cX6_expression 23 = .ok (.aload_n 0, 1) := by decide +kernel
theorem dX6_expression_24 : decode cX6_expression 24 = .ok (.getfield 53, 3) := by decide +kernel
theorem dX6_expression_27 : decode cX6_expression 27 = .ok (.bipush 45, 2) := by decide +kernel
theorem dX6_expression_29 : decode cX6_expression 29 = .ok (.if_icmp .ne 64, 3) := by decide +kernel
theorem dX6_expression_32 : decode cX6_expression 32 = .ok (.iload 4, 2) := by decide +kernel
theorem dX6_expression_34 : decode cX6_expression 34 = .ok (.sipush 400, 3) := by decide +kernel
theorem dX6_expression_37 : decode cX6_expression 37 = .ok (.if_icmp .ge 56, 3) := by decide +kernel
theorem dX6_expression_40 : decode cX6_expression 40 = .ok (.aload_n 0, 1) := by decide +kernel
theorem dX6_expression_41 : decode cX6_expression 41 = .ok (.getfield 53, 3) := by decide +kernel
theorem dX6_expression_44 : decode cX6_expression 44 = .ok (.istore 5, 2) := by decide +kernel
theorem dX6_expression_46 : decode cX6_expression 46 = .ok (.aload_n 0, 1) := by decide +kernel
theorem dX6_expression_47 : decode cX6_expression 47 = .ok (.iload 5, 2) := by decide +kernel
theorem dX6_expression_49 : decode cX6_expression 49 = .ok (.invokevirtual 77, 3) := by decide +kernel
theorem dX6_expression_52 : decode cX6_expression 52 = .ok (.ifCond .eq 16, 3) := by decide +kernel
theorem dX6_expression_55 : decode cX6_expression 55 = .ok (.aload_n 0, 1) := by decide +kernel
theorem dX6_expression_56 : decode cX6_expression 56 = .ok (.aload_n 1, 1) := by decide +kernel
theorem dX6_expression_57 : decode cX6_expression 57 = .ok (.iload_n 2, 1) := by decide +kernel
theorem dX6_expression_58 : decode cX6_expression 58 = .ok (.invokevirtual 144, 3) := by decide +kernel
theorem dX6_expression_61 : decode cX6_expression 61 = .ok (.ifCond .eq 7, 3) := by decide +kernel
theorem dX6_expression_64 : decode cX6_expression 64 = .ok (.iconst 1, 1) := by decide +kernel
theorem dX6_expression_65 : decode cX6_expression 65 = .ok (.goto 4, 3) := by decide +kernel
theorem dX6_expression_68 : decode cX6_expression 68 = .ok (.iconst 0, 1) := by decide +kernel
theorem dX6_expression_69 : decode cX6_expression 69 = .ok (.istore_n 3, 1) := by decide +kernel
theorem dX6_expression_70 : decode cX6_expression 70 = .ok (.aload_n 1, 1) := by decide +kernel
theorem dX6_expression_71 : decode cX6_expression 71 = .ok (.iload 5, 2) := by decide +kernel
theorem dX6_expression_73 : decode cX6_expression 73 = .ok (.bipush 43, 2) := by decide +kernel
theorem dX6_expression_75 : decode cX6_expression 75 = .ok (.if_icmp .ne 7, 3) := by decide +kernel
theorem dX6_expression_78 : decode cX6_expression 78 = .ok (.iconst (-1), 1) := by decide +kernel
theorem dX6_expression_79 : decode cX6_expression 79 = .ok (.goto 5, 3) := by decide +kernel
theorem dX6_expression_82 : decode cX6_expression 82 = .ok (.bipush (-2), 2) := by decide +kernel
theorem dX6_expression_84 : decode cX6_expression 84 = .ok (.invokevirtual 138, 3) := by decide +kernel
theorem dX6_expression_87 : decode cX6_expression 87 = .ok (.iinc 4 1, 3) := by decide +kernel
theorem dX6_expression_90 : decode cX6_expression 90 = .ok (.goto (-80), 3) := by decide +kernel
theorem dX6_expression_93 : decode cX6_expression 93 = .ok (.iload_n 3, 1) := by decide +kernel
theorem dX6_expression_94 : decode cX6_expression 94 = .ok (.ireturn, 1) := by decide +kernel
set_option maxHeartbeats 4000000 in
set_option maxRecDepth 100000 in
theorem S_X6_expression_1_30_w6 {l : Launch} {D : va_G} {ids : List Nat} {ad : Nat → Nat} {ca : Nat → ClassId} {σ : HS} {x2 : Int32} (hid : ∀ i, i < 277 → i ∈ ids) (hG : GIc σ) (hR : RK σ) (hx2 : 6 ≤ x2.toInt ∧ x2.toInt ≤ 6) : Ki l D ids ad ca yX6_expression cX6_expression 6 .boolean 4 90 [.ref (ad 1), .ref (ad 30), .int x2] σ (fun r σ1 => (GIc σ1) ∧ (ony [1, 30, 41] σ σ1) ∧ (RK σ1) ∧ (0 ≤ r.toInt ∧ r.toInt ≤ 1)) := by
  refine Ki.of (by decide) (Nat.le_of_ble_eq_true rfl) 3 (fun Γ C Rt => ?_)
  show AW ids ad ca Γ 0 [some (.ref (ad 1)), some (.ref (ad 30)), some (.int x2), none, none, none] [] σ
  have j10 : ∀ (d10 : Nat) (σq10 : HS) (y10_3 : Int32) (y10_4 : Int32), 400 - y10_4.toInt < d10 → GIc σq10 → ony [1, 30, 41] σ σq10 → RK σq10 → 0 ≤ y10_3.toInt ∧ y10_3.toInt ≤ 1 → 0 ≤ y10_4.toInt ∧ y10_4.toInt ≤ 400 → AW ids ad ca Γ 10 [some (.ref (ad 1)), some (.ref (ad 30)), some (.int x2), some (.int y10_3), some (.int y10_4), none] [] σq10 := by
    intro d10
    induction d10 with
    | zero =>
      intro σq10 y10_3 y10_4 hd10 hGq10 hoq10 hRq10 hx10_0 hx10_1
      exfalso
      omega
    | succ d10 ih10 =>
      intro σq10 y10_3 y10_4 hd10 hGq10 hoq10 hRq10 hx10_0 hx10_1
      have j84 : ∀ (σq84 : HS) (y84_3 : Int32) (u84_0 : Int32), GIc σq84 → ony [1, 30, 41] σ σq84 → RK σq84 → 0 ≤ y84_3.toInt ∧ y84_3.toInt ≤ 1 → -2 ≤ u84_0.toInt ∧ u84_0.toInt ≤ -1 → 0 ≤ y10_4.toInt ∧ y10_4.toInt ≤ 399 → AW ids ad ca Γ 84 [some (.ref (ad 1)), some (.ref (ad 30)), some (.int x2), some (.int y84_3), some (.int y10_4), none] [.int u84_0, .ref (ad 30)] σq84 := by
        intro σq84 y84_3 u84_0 hGq84 hoq84 hRq84 hx84_0 hx84_1 hx84_2
        refine a_callVv C (i := 30) kd_30 (hid 30 (by decide)) ⟨_, _, rfl⟩ (by decide) (S_X10_emit_30 (x1 := u84_0) hid hGq84) mi_X10_emit ml_RX6_138 rfl rfl (Nat.le_of_ble_eq_true rfl) (Nat.le_of_ble_eq_true rfl) (Nat.le_of_ble_eq_true rfl) dX6_expression_84 (fun σ2 q3 => ?_)
        obtain ⟨hG4, ho5⟩ := q3
        have hR6 := RK.ony hRq84 ho5 (by decide) (by decide)
        refine s_iinc C dX6_expression_87 rfl (1) (by decide) (by omega) (by decide) rfl (fun z7 h8 => ?_)
        show AW ids ad ca Γ 90 [some (.ref (ad 1)), some (.ref (ad 30)), some (.int x2), some (.int y84_3), some (.int z7), none] _ _
        refine a_goto C dX6_expression_90 (tgt := 10) rfl ?_
        exact ih10 _ y84_3 z7 (by omega) hG4 (ony.tr hoq84 (ony.mono ho5 (by decide))) hR6 (by omega) (by omega)
      have j69 : ∀ (σq69 : HS) (y69_5 : Int32) (u69_0 : Int32), GIc σq69 → ony [1, 30, 41] σ σq69 → RK σq69 → 0 ≤ u69_0.toInt ∧ u69_0.toInt ≤ 1 → 0 ≤ y10_4.toInt ∧ y10_4.toInt ≤ 399 → AW ids ad ca Γ 69 [some (.ref (ad 1)), some (.ref (ad 30)), some (.int x2), none, some (.int y10_4), some (.int y69_5)] [.int u69_0] σq69 := by
        intro σq69 y69_5 u69_0 hGq69 hoq69 hRq69 hx69_0 hx69_1
        refine a_istore_n C dX6_expression_69 (i := 3) rfl (by decide) rfl (vs1 := [some (.ref (ad 1)), some (.ref (ad 30)), some (.int x2), some (.int u69_0), some (.int y10_4), some (.int y69_5)]) rfl ?_
        refine a_aload_n C dX6_expression_70 (i := 1) rfl rfl ?_
        refine a_iload C dX6_expression_71 rfl ?_
        refine s_bipush C dX6_expression_73 (43) (by decide) (fun z9 h10 => ?_)
        refine s_ic_ne C dX6_expression_75 (tgt := 82) rfl (fun c11 => ?_) (fun c11 => ?_)
        ·
          refine s_bipush C dX6_expression_82 (-2) (by decide) (fun z12 h13 => ?_)
          refine AW.sub (vs' := [some (.ref (ad 1)), some (.ref (ad 30)), some (.int x2), some (.int u69_0), some (.int y10_4), none]) (lsub_of (by simp [lsubB])) ?_
          exact j84 _ u69_0 z12 hGq69 hoq69 hRq69 (by omega) (by omega) (by omega)
        ·
          refine s_iconst C dX6_expression_78 (-1) (by decide) (fun z14 h15 => ?_)
          refine a_goto C dX6_expression_79 (tgt := 84) rfl ?_
          refine AW.sub (vs' := [some (.ref (ad 1)), some (.ref (ad 30)), some (.int x2), some (.int u69_0), some (.int y10_4), none]) (lsub_of (by simp [lsubB])) ?_
          exact j84 _ u69_0 z14 hGq69 hoq69 hRq69 (by omega) (by omega) (by omega)
      have j68 : ∀ (σq68 : HS) (y68_5 : Int32), GIc σq68 → ony [1, 30, 41] σ σq68 → RK σq68 → 0 ≤ y10_4.toInt ∧ y10_4.toInt ≤ 399 → AW ids ad ca Γ 68 [some (.ref (ad 1)), some (.ref (ad 30)), some (.int x2), none, some (.int y10_4), some (.int y68_5)] [] σq68 := by
        intro σq68 y68_5 hGq68 hoq68 hRq68 hx68_0
        refine s_iconst C dX6_expression_68 (0) (by decide) (fun z16 h17 => ?_)
        exact j69 _ y68_5 z16 hGq68 hoq68 hRq68 (by omega) (by omega)
      have j32 : ∀ (σq32 : HS), GIc σq32 → ony [1, 30, 41] σ σq32 → RK σq32 → 1 ≤ y10_3.toInt ∧ y10_3.toInt ≤ 1 → AW ids ad ca Γ 32 [some (.ref (ad 1)), some (.ref (ad 30)), some (.int x2), some (.int y10_3), some (.int y10_4), none] [] σq32 := by
        intro σq32 hGq32 hoq32 hRq32 hx32_0
        refine a_iload C dX6_expression_32 rfl ?_
        refine s_sipush C dX6_expression_34 (400) (by decide) (fun z18 h19 => ?_)
        refine s_ic_ge C dX6_expression_37 (tgt := 93) rfl (fun c20 => ?_) (fun c20 => ?_)
        ·
          refine a_iload_n C dX6_expression_93 (i := 3) rfl rfl ?_
          exact a_iret Rt dX6_expression_94 (nar_z (by omega)).1 (⟨hGq32, hoq32, hRq32, (show 0 ≤ y10_3.toInt ∧ y10_3.toInt ≤ 1 by intros; omega)⟩)
        ·
          refine a_aload_n C dX6_expression_40 (i := 0) rfl rfl ?_
          refine a_get C fl_RX6_53 (i := 1) kd_1 (hid 1 (by decide)) (v := .int (σq32.1 1 6)) rfl dX6_expression_41 ?_
          refine a_istore C dX6_expression_44 (by decide) rfl (vs1 := [some (.ref (ad 1)), some (.ref (ad 30)), some (.int x2), some (.int y10_3), some (.int y10_4), some (.int (σq32.1 1 6))]) rfl ?_
          refine a_aload_n C dX6_expression_46 (i := 0) rfl rfl ?_
          refine a_iload C dX6_expression_47 rfl ?_
          refine a_callVi C (i := 1) kd_1 (hid 1 (by decide)) ⟨_, _, rfl⟩ (by decide) (S_X6_take_1 (x1 := (σq32.1 1 6)) hid hGq32 hRq32) mi_X6_take ml_RX6_77 rfl rfl (Nat.le_of_ble_eq_true rfl) (Nat.le_of_ble_eq_true rfl) (Nat.le_of_ble_eq_true rfl) dX6_expression_49 (fun z21 σ22 q23 => ?_)
          obtain ⟨hG24, ho25, hR26, w27, w28, w29⟩ := q23
          refine s_if_eq C dX6_expression_52 (tgt := 68) rfl (fun c30 => ?_) (fun c30 => ?_)
          ·
            refine AW.sub (vs' := [some (.ref (ad 1)), some (.ref (ad 30)), some (.int x2), none, some (.int y10_4), some (.int (σq32.1 1 6))]) (lsub_of (by simp [lsubB])) ?_
            exact j68 _ (σq32.1 1 6) hG24 (ony.tr hoq32 (ony.mono ho25 (by decide))) hR26 (by omega)
          ·
            refine a_aload_n C dX6_expression_55 (i := 0) rfl rfl ?_
            refine a_aload_n C dX6_expression_56 (i := 1) rfl rfl ?_
            refine a_iload_n C dX6_expression_57 (i := 2) rfl rfl ?_
            refine a_callVi C (i := 1) kd_1 (hid 1 (by decide)) ⟨_, _, rfl⟩ (by decide) (S_X6_product_1_30_w6 (x2 := x2) hid hG24 hR26 (by omega)) mi_X6_product ml_RX6_144 rfl rfl (Nat.le_of_ble_eq_true rfl) (Nat.le_of_ble_eq_true rfl) (Nat.le_of_ble_eq_true rfl) dX6_expression_58 (fun z31 σ32 q33 => ?_)
            obtain ⟨hG34, ho35, hR36, w37⟩ := q33
            refine s_if_eq C dX6_expression_61 (tgt := 68) rfl (fun c38 => ?_) (fun c38 => ?_)
            ·
              refine AW.sub (vs' := [some (.ref (ad 1)), some (.ref (ad 30)), some (.int x2), none, some (.int y10_4), some (.int (σq32.1 1 6))]) (lsub_of (by simp [lsubB])) ?_
              exact j68 _ (σq32.1 1 6) hG34 (ony.tr (ony.tr hoq32 (ony.mono ho25 (by decide))) (ony.mono ho35 (by decide))) hR36 (by omega)
            ·
              refine s_iconst C dX6_expression_64 (1) (by decide) (fun z39 h40 => ?_)
              refine a_goto C dX6_expression_65 (tgt := 69) rfl ?_
              refine AW.sub (vs' := [some (.ref (ad 1)), some (.ref (ad 30)), some (.int x2), none, some (.int y10_4), some (.int (σq32.1 1 6))]) (lsub_of (by simp [lsubB])) ?_
              exact j69 _ (σq32.1 1 6) z39 hG34 (ony.tr (ony.tr hoq32 (ony.mono ho25 (by decide))) (ony.mono ho35 (by decide))) hR36 (by omega) (by omega)
      refine a_iload_n C dX6_expression_10 (i := 3) rfl rfl ?_
      refine s_if_eq C dX6_expression_11 (tgt := 93) rfl (fun c41 => ?_) (fun c41 => ?_)
      ·
        refine a_iload_n C dX6_expression_93 (i := 3) rfl rfl ?_
        exact a_iret Rt dX6_expression_94 (nar_z (by omega)).1 (⟨hGq10, hoq10, hRq10, (show 0 ≤ y10_3.toInt ∧ y10_3.toInt ≤ 1 by intros; omega)⟩)
      ·
        refine a_aload_n C dX6_expression_14 (i := 0) rfl rfl ?_
        refine a_get C fl_RX6_53 (i := 1) kd_1 (hid 1 (by decide)) (v := .int (σq10.1 1 6)) rfl dX6_expression_15 ?_
        refine s_bipush C dX6_expression_18 (43) (by decide) (fun z42 h43 => ?_)
        refine s_ic_eq C dX6_expression_20 (tgt := 32) rfl (fun c44 => ?_) (fun c44 => ?_)
        ·
          exact j32 _ hGq10 hoq10 hRq10 (by omega)
        ·
          refine a_aload_n C dX6_expression_23 (i := 0) rfl rfl ?_
          refine a_get C fl_RX6_53 (i := 1) kd_1 (hid 1 (by decide)) (v := .int (σq10.1 1 6)) rfl dX6_expression_24 ?_
          refine s_bipush C dX6_expression_27 (45) (by decide) (fun z45 h46 => ?_)
          refine s_ic_ne C dX6_expression_29 (tgt := 93) rfl (fun c47 => ?_) (fun c47 => ?_)
          ·
            refine a_iload_n C dX6_expression_93 (i := 3) rfl rfl ?_
            exact a_iret Rt dX6_expression_94 (nar_z (by omega)).1 (⟨hGq10, hoq10, hRq10, (show 0 ≤ y10_3.toInt ∧ y10_3.toInt ≤ 1 by intros; omega)⟩)
          ·
            exact j32 _ hGq10 hoq10 hRq10 (by omega)
  refine a_aload_n C dX6_expression_0 (i := 0) rfl rfl ?_
  refine a_aload_n C dX6_expression_1 (i := 1) rfl rfl ?_
  refine a_iload_n C dX6_expression_2 (i := 2) rfl rfl ?_
  refine a_callVi C (i := 1) kd_1 (hid 1 (by decide)) ⟨_, _, rfl⟩ (by decide) (S_X6_product_1_30_w6 (x2 := x2) hid hG hR (by omega)) mi_X6_product ml_RX6_144 rfl rfl (Nat.le_of_ble_eq_true rfl) (Nat.le_of_ble_eq_true rfl) (Nat.le_of_ble_eq_true rfl) dX6_expression_3 (fun z48 σ49 q50 => ?_)
  obtain ⟨hG51, ho52, hR53, w54⟩ := q50
  refine a_istore_n C dX6_expression_6 (i := 3) rfl (by decide) rfl (vs1 := [some (.ref (ad 1)), some (.ref (ad 30)), some (.int x2), some (.int z48), none, none]) rfl ?_
  refine s_iconst C dX6_expression_7 (0) (by decide) (fun z55 h56 => ?_)
  refine a_istore C dX6_expression_8 (by decide) rfl (vs1 := [some (.ref (ad 1)), some (.ref (ad 30)), some (.int x2), some (.int z48), some (.int z55), none]) rfl ?_
  exact j10 100000 _ z48 z55 (by omega) hG51 (ony.tr ony.rf (ony.mono ho52 (by decide))) hR53 (by omega) (by omega)
theorem dX6_unit_105 : decode cX6_unit 105 = .ok (.ifCond .eq 16, 3) := by decide +kernel
theorem dX6_unit_108 : decode cX6_unit 108 = .ok (.aload_n 0, 1) := by decide +kernel
theorem dX6_unit_109 : decode cX6_unit 109 = .ok (.bipush 41, 2) := by decide +kernel
theorem dX6_unit_111 : decode cX6_unit 111 = .ok (.invokevirtual 77, 3) := by decide +kernel
theorem dX6_unit_114 : decode cX6_unit 114 = .ok (.ifCond .eq 7, 3) := by decide +kernel
theorem dX6_unit_117 : decode cX6_unit 117 = .ok (.iconst 1, 1) := by decide +kernel
theorem dX6_unit_118 : decode cX6_unit 118 = .ok (.goto 4, 3) := by decide +kernel
set_option maxHeartbeats 4000000 in
set_option maxRecDepth 100000 in
theorem S_X6_unit_1_30_w5 {l : Launch} {D : va_G} {ids : List Nat} {ad : Nat → Nat} {ca : Nat → ClassId} {σ : HS} {x2 : Int32} (hid : ∀ i, i < 277 → i ∈ ids) (hG : GIc σ) (hR : RK σ) (hx2 : 5 ≤ x2.toInt ∧ x2.toInt ≤ 5) : Ki l D ids ad ca yX6_unit cX6_unit 4 .boolean 5 115 [.ref (ad 1), .ref (ad 30), .int x2] σ (fun r σ1 => (GIc σ1) ∧ (ony [1, 30, 41] σ σ1) ∧ (RK σ1) ∧ (0 ≤ r.toInt ∧ r.toInt ≤ 1)) := by
  refine Ki.of (by decide) (Nat.le_of_ble_eq_true rfl) 1 (fun Γ C Rt => ?_)
  show AW ids ad ca Γ 0 [some (.ref (ad 1)), some (.ref (ad 30)), some (.int x2), none] [] σ
  have j88 : ∀ (σq88 : HS), GIc σq88 → ony [1, 30, 41] σ σq88 → RK σq88 → AW ids ad ca Γ 88 [some (.ref (ad 1)), some (.ref (ad 30)), some (.int x2), none] [] σq88 := by
    intro σq88 hGq88 hoq88 hRq88
    refine a_aload_n C dX6_unit_88 (i := 0) rfl rfl ?_
    refine s_bipush C dX6_unit_89 (40) (by decide) (fun z1 h2 => ?_)
    refine a_callVi C (i := 1) kd_1 (hid 1 (by decide)) ⟨_, _, rfl⟩ (by decide) (S_X6_take_1 (x1 := z1) hid hGq88 hRq88) mi_X6_take ml_RX6_77 rfl rfl (Nat.le_of_ble_eq_true rfl) (Nat.le_of_ble_eq_true rfl) (Nat.le_of_ble_eq_true rfl) dX6_unit_91 (fun z3 σ4 q5 => ?_)
    obtain ⟨hG6, ho7, hR8, w9, w10, w11⟩ := q5
    refine s_if_eq C dX6_unit_94 (tgt := 121) rfl (fun c12 => ?_) (fun c12 => ?_)
    ·
      refine s_iconst C dX6_unit_121 (0) (by decide) (fun z13 h14 => ?_)
      exact a_iret Rt dX6_unit_122 (nar_z (by omega)).1 (⟨hG6, (ony.tr hoq88 (ony.mono ho7 (by decide))), hR8, (show 0 ≤ z13.toInt ∧ z13.toInt ≤ 1 by intros; omega)⟩)
    ·
      refine a_aload_n C dX6_unit_97 (i := 0) rfl rfl ?_
      refine a_aload_n C dX6_unit_98 (i := 1) rfl rfl ?_
      refine a_iload_n C dX6_unit_99 (i := 2) rfl rfl ?_
      refine s_iconst C dX6_unit_100 (1) (by decide) (fun z15 h16 => ?_)
      refine s_iadd C dX6_unit_101 (by omega) (fun z17 h18 => ?_)
      refine a_callVi C (i := 1) kd_1 (hid 1 (by decide)) ⟨_, _, rfl⟩ (by decide) (S_X6_expression_1_30_w6 (x2 := z17) hid hG6 hR8 (by omega)) mi_X6_expression ml_RX6_135 rfl rfl (Nat.le_of_ble_eq_true rfl) (Nat.le_of_ble_eq_true rfl) (Nat.le_of_ble_eq_true rfl) dX6_unit_102 (fun z19 σ20 q21 => ?_)
      obtain ⟨hG22, ho23, hR24, w25⟩ := q21
      refine s_if_eq C dX6_unit_105 (tgt := 121) rfl (fun c26 => ?_) (fun c26 => ?_)
      ·
        refine s_iconst C dX6_unit_121 (0) (by decide) (fun z27 h28 => ?_)
        exact a_iret Rt dX6_unit_122 (nar_z (by omega)).1 (⟨hG22, (ony.tr (ony.tr hoq88 (ony.mono ho7 (by decide))) (ony.mono ho23 (by decide))), hR24, (show 0 ≤ z27.toInt ∧ z27.toInt ≤ 1 by intros; omega)⟩)
      ·
        refine a_aload_n C dX6_unit_108 (i := 0) rfl rfl ?_
        refine s_bipush C dX6_unit_109 (41) (by decide) (fun z29 h30 => ?_)
        refine a_callVi C (i := 1) kd_1 (hid 1 (by decide)) ⟨_, _, rfl⟩ (by decide) (S_X6_take_1 (x1 := z29) hid hG22 hR24) mi_X6_take ml_RX6_77 rfl rfl (Nat.le_of_ble_eq_true rfl) (Nat.le_of_ble_eq_true rfl) (Nat.le_of_ble_eq_true rfl) dX6_unit_111 (fun z31 σ32 q33 => ?_)
        obtain ⟨hG34, ho35, hR36, w37, w38, w39⟩ := q33
        refine s_if_eq C dX6_unit_114 (tgt := 121) rfl (fun c40 => ?_) (fun c40 => ?_)
        ·
          refine s_iconst C dX6_unit_121 (0) (by decide) (fun z41 h42 => ?_)
          exact a_iret Rt dX6_unit_122 (nar_z (by omega)).1 (⟨hG34, (ony.tr (ony.tr (ony.tr hoq88 (ony.mono ho7 (by decide))) (ony.mono ho23 (by decide))) (ony.mono ho35 (by decide))), hR36, (show 0 ≤ z41.toInt ∧ z41.toInt ≤ 1 by intros; omega)⟩)
        ·
          refine s_iconst C dX6_unit_117 (1) (by decide) (fun z43 h44 => ?_)
          refine a_goto C dX6_unit_118 (tgt := 122) rfl ?_
          exact a_iret Rt dX6_unit_122 (nar_z (by omega)).1 (⟨hG34, (ony.tr (ony.tr (ony.tr hoq88 (ony.mono ho7 (by decide))) (ony.mono ho23 (by decide))) (ony.mono ho35 (by decide))), hR36, (show 0 ≤ z43.toInt ∧ z43.toInt ≤ 1 by intros; omega)⟩)
  have j67 : ∀ (σq67 : HS), GIc σq67 → ony [1, 30, 41] σ σq67 → RK σq67 → AW ids ad ca Γ 67 [some (.ref (ad 1)), some (.ref (ad 30)), some (.int x2), none] [] σq67 := by
    intro σq67 hGq67 hoq67 hRq67
    refine a_aload_n C dX6_unit_67 (i := 0) rfl rfl ?_
    refine a_get C fl_RX6_53 (i := 1) kd_1 (hid 1 (by decide)) (v := .int (σq67.1 1 6)) rfl dX6_unit_68 ?_
    refine s_bipush C dX6_unit_71 (40) (by decide) (fun z45 h46 => ?_)
    refine s_ic_ne C dX6_unit_73 (tgt := 88) rfl (fun c47 => ?_) (fun c47 => ?_)
    ·
      exact j88 _ hGq67 hoq67 hRq67
    ·
      refine a_iload_n C dX6_unit_76 (i := 2) rfl rfl ?_
      refine s_bipush C dX6_unit_77 (6) (by decide) (fun z48 h49 => ?_)
      refine s_ic_lt C dX6_unit_79 (tgt := 88) rfl (fun c50 => ?_) (fun c50 => absurd c50 (by omega))
      exact j88 _ hGq67 hoq67 hRq67
  refine a_aload_n C dX6_unit_0 (i := 0) rfl rfl ?_
  refine a_get C fl_RX6_53 (i := 1) kd_1 (hid 1 (by decide)) (v := .int (σ.1 1 6)) rfl dX6_unit_1 ?_
  refine s_bipush C dX6_unit_4 (21) (by decide) (fun z51 h52 => ?_)
  refine s_ic_ne C dX6_unit_6 (tgt := 26) rfl (fun c53 => ?_) (fun c53 => ?_)
  ·
    refine a_aload_n C dX6_unit_26 (i := 0) rfl rfl ?_
    refine a_get C fl_RX6_53 (i := 1) kd_1 (hid 1 (by decide)) (v := .int (σ.1 1 6)) rfl dX6_unit_27 ?_
    refine s_bipush C dX6_unit_30 (11) (by decide) (fun z54 h55 => ?_)
    refine s_ic_lt C dX6_unit_32 (tgt := 67) rfl (fun c56 => ?_) (fun c56 => ?_)
    ·
      exact j67 _ hG ony.rf hR
    ·
      refine a_aload_n C dX6_unit_35 (i := 0) rfl rfl ?_
      refine a_get C fl_RX6_53 (i := 1) kd_1 (hid 1 (by decide)) (v := .int (σ.1 1 6)) rfl dX6_unit_36 ?_
      refine s_bipush C dX6_unit_39 (19) (by decide) (fun z57 h58 => ?_)
      refine s_ic_gt C dX6_unit_41 (tgt := 67) rfl (fun c59 => ?_) (fun c59 => ?_)
      ·
        exact j67 _ hG ony.rf hR
      ·
        refine a_aload_n C dX6_unit_44 (i := 1) rfl rfl ?_
        refine s_bipush C dX6_unit_45 (-10) (by decide) (fun z60 h61 => ?_)
        refine a_aload_n C dX6_unit_47 (i := 0) rfl rfl ?_
        refine a_get C fl_RX6_53 (i := 1) kd_1 (hid 1 (by decide)) (v := .int (σ.1 1 6)) rfl dX6_unit_48 ?_
        refine s_bipush C dX6_unit_51 (11) (by decide) (fun z62 h63 => ?_)
        refine s_isubU C dX6_unit_53 (fun z64 => ?_)
        refine s_isubU C dX6_unit_54 (fun z66 => ?_)
        refine a_callVv C (i := 30) kd_30 (hid 30 (by decide)) ⟨_, _, rfl⟩ (by decide) (S_X10_emit_30 (x1 := z66) hid hG) mi_X10_emit ml_RX6_138 rfl rfl (Nat.le_of_ble_eq_true rfl) (Nat.le_of_ble_eq_true rfl) (Nat.le_of_ble_eq_true rfl) dX6_unit_55 (fun σ69 q70 => ?_)
        obtain ⟨hG71, ho72⟩ := q70
        have hR73 := RK.ony hR ho72 (by decide) (by decide)
        refine a_aload_n C dX6_unit_58 (i := 0) rfl rfl ?_
        refine a_aload_n C dX6_unit_59 (i := 0) rfl rfl ?_
        refine a_get C fl_RX6_53 (i := 1) kd_1 (hid 1 (by decide)) (v := .int (σ69.1 1 6)) rfl dX6_unit_60 ?_
        refine a_callVi C (i := 1) kd_1 (hid 1 (by decide)) ⟨_, _, rfl⟩ (by decide) (S_X6_take_1 (x1 := (σ69.1 1 6)) hid hG71 hR73) mi_X6_take ml_RX6_77 rfl rfl (Nat.le_of_ble_eq_true rfl) (Nat.le_of_ble_eq_true rfl) (Nat.le_of_ble_eq_true rfl) dX6_unit_63 (fun z74 σ75 q76 => ?_)
        obtain ⟨hG77, ho78, hR79, w80, w81, w82⟩ := q76
        exact a_iret Rt dX6_unit_66 (nar_z (by omega)).1 (⟨hG77, (ony.tr (ony.tr ony.rf (ony.mono ho72 (by decide))) (ony.mono ho78 (by decide))), hR79, (show 0 ≤ z74.toInt ∧ z74.toInt ≤ 1 by intros; omega)⟩)
  ·
    refine a_aload_n C dX6_unit_9 (i := 0) rfl rfl ?_
    refine s_bipush C dX6_unit_10 (21) (by decide) (fun z83 h84 => ?_)
    refine a_callVi C (i := 1) kd_1 (hid 1 (by decide)) ⟨_, _, rfl⟩ (by decide) (S_X6_take_1 (x1 := z83) hid hG hR) mi_X6_take ml_RX6_77 rfl rfl (Nat.le_of_ble_eq_true rfl) (Nat.le_of_ble_eq_true rfl) (Nat.le_of_ble_eq_true rfl) dX6_unit_12 (fun z85 σ86 q87 => ?_)
    obtain ⟨hG88, ho89, hR90, w91, w92, w93⟩ := q87
    refine a_istore_n C dX6_unit_15 (i := 3) rfl (by decide) rfl (vs1 := [some (.ref (ad 1)), some (.ref (ad 30)), some (.int x2), some (.int z85)]) rfl ?_
    refine a_aload_n C dX6_unit_16 (i := 1) rfl rfl ?_
    refine a_aload_n C dX6_unit_17 (i := 0) rfl rfl ?_
    refine a_get C fl_RX6_67 (i := 1) kd_1 (hid 1 (by decide)) (v := .int (σ86.1 1 7)) rfl dX6_unit_18 ?_
    refine a_callVv C (i := 30) kd_30 (hid 30 (by decide)) ⟨_, _, rfl⟩ (by decide) (S_X10_emit_30 (x1 := (σ86.1 1 7)) hid hG88) mi_X10_emit ml_RX6_138 rfl rfl (Nat.le_of_ble_eq_true rfl) (Nat.le_of_ble_eq_true rfl) (Nat.le_of_ble_eq_true rfl) dX6_unit_21 (fun σ95 q96 => ?_)
    obtain ⟨hG97, ho98⟩ := q96
    have hR99 := RK.ony hR90 ho98 (by decide) (by decide)
    refine a_iload_n C dX6_unit_24 (i := 3) rfl rfl ?_
    exact a_iret Rt dX6_unit_25 (nar_z (by omega)).1 (⟨hG97, (ony.tr (ony.tr ony.rf (ony.mono ho89 (by decide))) (ony.mono ho98 (by decide))), hR99, (show 0 ≤ z85.toInt ∧ z85.toInt ≤ 1 by intros; omega)⟩)
set_option maxHeartbeats 4000000 in
set_option maxRecDepth 100000 in
theorem S_X6_product_1_30_w5 {l : Launch} {D : va_G} {ids : List Nat} {ad : Nat → Nat} {ca : Nat → ClassId} {σ : HS} {x2 : Int32} (hid : ∀ i, i < 277 → i ∈ ids) (hG : GIc σ) (hR : RK σ) (hx2 : 5 ≤ x2.toInt ∧ x2.toInt ≤ 5) : Ki l D ids ad ca yX6_product cX6_product 6 .boolean 6 138 [.ref (ad 1), .ref (ad 30), .int x2] σ (fun r σ1 => (GIc σ1) ∧ (ony [1, 30, 41] σ σ1) ∧ (RK σ1) ∧ (0 ≤ r.toInt ∧ r.toInt ≤ 1)) := by
  refine Ki.of (by decide) (Nat.le_of_ble_eq_true rfl) 3 (fun Γ C Rt => ?_)
  show AW ids ad ca Γ 0 [some (.ref (ad 1)), some (.ref (ad 30)), some (.int x2), none, none, none] [] σ
  have j10 : ∀ (d10 : Nat) (σq10 : HS) (y10_3 : Int32) (y10_4 : Int32), 400 - y10_4.toInt < d10 → GIc σq10 → ony [1, 30, 41] σ σq10 → RK σq10 → 0 ≤ y10_3.toInt ∧ y10_3.toInt ≤ 1 → 0 ≤ y10_4.toInt ∧ y10_4.toInt ≤ 400 → AW ids ad ca Γ 10 [some (.ref (ad 1)), some (.ref (ad 30)), some (.int x2), some (.int y10_3), some (.int y10_4), none] [] σq10 := by
    intro d10
    induction d10 with
    | zero =>
      intro σq10 y10_3 y10_4 hd10 hGq10 hoq10 hRq10 hx10_0 hx10_1
      exfalso
      omega
    | succ d10 ih10 =>
      intro σq10 y10_3 y10_4 hd10 hGq10 hoq10 hRq10 hx10_0 hx10_1
      have j85 : ∀ (σq85 : HS) (y85_3 : Int32) (u85_0 : Int32), GIc σq85 → ony [1, 30, 41] σ σq85 → RK σq85 → 0 ≤ y85_3.toInt ∧ y85_3.toInt ≤ 1 → -4 ≤ u85_0.toInt ∧ u85_0.toInt ≤ -3 → 0 ≤ y10_4.toInt ∧ y10_4.toInt ≤ 399 → AW ids ad ca Γ 85 [some (.ref (ad 1)), some (.ref (ad 30)), some (.int x2), some (.int y85_3), some (.int y10_4), none] [.int u85_0, .ref (ad 30)] σq85 := by
        intro σq85 y85_3 u85_0 hGq85 hoq85 hRq85 hx85_0 hx85_1 hx85_2
        refine a_callVv C (i := 30) kd_30 (hid 30 (by decide)) ⟨_, _, rfl⟩ (by decide) (S_X10_emit_30 (x1 := u85_0) hid hGq85) mi_X10_emit ml_RX6_138 rfl rfl (Nat.le_of_ble_eq_true rfl) (Nat.le_of_ble_eq_true rfl) (Nat.le_of_ble_eq_true rfl) dX6_product_85 (fun σ2 q3 => ?_)
        obtain ⟨hG4, ho5⟩ := q3
        have hR6 := RK.ony hRq85 ho5 (by decide) (by decide)
        refine s_iinc C dX6_product_88 rfl (1) (by decide) (by omega) (by decide) rfl (fun z7 h8 => ?_)
        show AW ids ad ca Γ 91 [some (.ref (ad 1)), some (.ref (ad 30)), some (.int x2), some (.int y85_3), some (.int z7), none] _ _
        refine a_goto C dX6_product_91 (tgt := 10) rfl ?_
        exact ih10 _ y85_3 z7 (by omega) hG4 (ony.tr hoq85 (ony.mono ho5 (by decide))) hR6 (by omega) (by omega)
      have j69 : ∀ (σq69 : HS) (y69_5 : Int32) (u69_0 : Int32), GIc σq69 → ony [1, 30, 41] σ σq69 → RK σq69 → 0 ≤ u69_0.toInt ∧ u69_0.toInt ≤ 1 → 0 ≤ y10_4.toInt ∧ y10_4.toInt ≤ 399 → AW ids ad ca Γ 69 [some (.ref (ad 1)), some (.ref (ad 30)), some (.int x2), none, some (.int y10_4), some (.int y69_5)] [.int u69_0] σq69 := by
        intro σq69 y69_5 u69_0 hGq69 hoq69 hRq69 hx69_0 hx69_1
        refine a_istore_n C dX6_product_69 (i := 3) rfl (by decide) rfl (vs1 := [some (.ref (ad 1)), some (.ref (ad 30)), some (.int x2), some (.int u69_0), some (.int y10_4), some (.int y69_5)]) rfl ?_
        refine a_aload_n C dX6_product_70 (i := 1) rfl rfl ?_
        refine a_iload C dX6_product_71 rfl ?_
        refine s_bipush C dX6_product_73 (42) (by decide) (fun z9 h10 => ?_)
        refine s_ic_ne C dX6_product_75 (tgt := 83) rfl (fun c11 => ?_) (fun c11 => ?_)
        ·
          refine s_bipush C dX6_product_83 (-4) (by decide) (fun z12 h13 => ?_)
          refine AW.sub (vs' := [some (.ref (ad 1)), some (.ref (ad 30)), some (.int x2), some (.int u69_0), some (.int y10_4), none]) (lsub_of (by simp [lsubB])) ?_
          exact j85 _ u69_0 z12 hGq69 hoq69 hRq69 (by omega) (by omega) (by omega)
        ·
          refine s_bipush C dX6_product_78 (-3) (by decide) (fun z14 h15 => ?_)
          refine a_goto C dX6_product_80 (tgt := 85) rfl ?_
          refine AW.sub (vs' := [some (.ref (ad 1)), some (.ref (ad 30)), some (.int x2), some (.int u69_0), some (.int y10_4), none]) (lsub_of (by simp [lsubB])) ?_
          exact j85 _ u69_0 z14 hGq69 hoq69 hRq69 (by omega) (by omega) (by omega)
      have j68 : ∀ (σq68 : HS) (y68_5 : Int32), GIc σq68 → ony [1, 30, 41] σ σq68 → RK σq68 → 0 ≤ y10_4.toInt ∧ y10_4.toInt ≤ 399 → AW ids ad ca Γ 68 [some (.ref (ad 1)), some (.ref (ad 30)), some (.int x2), none, some (.int y10_4), some (.int y68_5)] [] σq68 := by
        intro σq68 y68_5 hGq68 hoq68 hRq68 hx68_0
        refine s_iconst C dX6_product_68 (0) (by decide) (fun z16 h17 => ?_)
        exact j69 _ y68_5 z16 hGq68 hoq68 hRq68 (by omega) (by omega)
      have j32 : ∀ (σq32 : HS), GIc σq32 → ony [1, 30, 41] σ σq32 → RK σq32 → 1 ≤ y10_3.toInt ∧ y10_3.toInt ≤ 1 → AW ids ad ca Γ 32 [some (.ref (ad 1)), some (.ref (ad 30)), some (.int x2), some (.int y10_3), some (.int y10_4), none] [] σq32 := by
        intro σq32 hGq32 hoq32 hRq32 hx32_0
        refine a_iload C dX6_product_32 rfl ?_
        refine s_sipush C dX6_product_34 (400) (by decide) (fun z18 h19 => ?_)
        refine s_ic_ge C dX6_product_37 (tgt := 94) rfl (fun c20 => ?_) (fun c20 => ?_)
        ·
          refine a_iload_n C dX6_product_94 (i := 3) rfl rfl ?_
          exact a_iret Rt dX6_product_95 (nar_z (by omega)).1 (⟨hGq32, hoq32, hRq32, (show 0 ≤ y10_3.toInt ∧ y10_3.toInt ≤ 1 by intros; omega)⟩)
        ·
          refine a_aload_n C dX6_product_40 (i := 0) rfl rfl ?_
          refine a_get C fl_RX6_53 (i := 1) kd_1 (hid 1 (by decide)) (v := .int (σq32.1 1 6)) rfl dX6_product_41 ?_
          refine a_istore C dX6_product_44 (by decide) rfl (vs1 := [some (.ref (ad 1)), some (.ref (ad 30)), some (.int x2), some (.int y10_3), some (.int y10_4), some (.int (σq32.1 1 6))]) rfl ?_
          refine a_aload_n C dX6_product_46 (i := 0) rfl rfl ?_
          refine a_iload C dX6_product_47 rfl ?_
          refine a_callVi C (i := 1) kd_1 (hid 1 (by decide)) ⟨_, _, rfl⟩ (by decide) (S_X6_take_1 (x1 := (σq32.1 1 6)) hid hGq32 hRq32) mi_X6_take ml_RX6_77 rfl rfl (Nat.le_of_ble_eq_true rfl) (Nat.le_of_ble_eq_true rfl) (Nat.le_of_ble_eq_true rfl) dX6_product_49 (fun z21 σ22 q23 => ?_)
          obtain ⟨hG24, ho25, hR26, w27, w28, w29⟩ := q23
          refine s_if_eq C dX6_product_52 (tgt := 68) rfl (fun c30 => ?_) (fun c30 => ?_)
          ·
            refine AW.sub (vs' := [some (.ref (ad 1)), some (.ref (ad 30)), some (.int x2), none, some (.int y10_4), some (.int (σq32.1 1 6))]) (lsub_of (by simp [lsubB])) ?_
            exact j68 _ (σq32.1 1 6) hG24 (ony.tr hoq32 (ony.mono ho25 (by decide))) hR26 (by omega)
          ·
            refine a_aload_n C dX6_product_55 (i := 0) rfl rfl ?_
            refine a_aload_n C dX6_product_56 (i := 1) rfl rfl ?_
            refine a_iload_n C dX6_product_57 (i := 2) rfl rfl ?_
            refine a_callVi C (i := 1) kd_1 (hid 1 (by decide)) ⟨_, _, rfl⟩ (by decide) (S_X6_unit_1_30_w5 (x2 := x2) hid hG24 hR26 (by omega)) mi_X6_unit ml_RX6_147 rfl rfl (Nat.le_of_ble_eq_true rfl) (Nat.le_of_ble_eq_true rfl) (Nat.le_of_ble_eq_true rfl) dX6_product_58 (fun z31 σ32 q33 => ?_)
            obtain ⟨hG34, ho35, hR36, w37⟩ := q33
            refine s_if_eq C dX6_product_61 (tgt := 68) rfl (fun c38 => ?_) (fun c38 => ?_)
            ·
              refine AW.sub (vs' := [some (.ref (ad 1)), some (.ref (ad 30)), some (.int x2), none, some (.int y10_4), some (.int (σq32.1 1 6))]) (lsub_of (by simp [lsubB])) ?_
              exact j68 _ (σq32.1 1 6) hG34 (ony.tr (ony.tr hoq32 (ony.mono ho25 (by decide))) (ony.mono ho35 (by decide))) hR36 (by omega)
            ·
              refine s_iconst C dX6_product_64 (1) (by decide) (fun z39 h40 => ?_)
              refine a_goto C dX6_product_65 (tgt := 69) rfl ?_
              refine AW.sub (vs' := [some (.ref (ad 1)), some (.ref (ad 30)), some (.int x2), none, some (.int y10_4), some (.int (σq32.1 1 6))]) (lsub_of (by simp [lsubB])) ?_
              exact j69 _ (σq32.1 1 6) z39 hG34 (ony.tr (ony.tr hoq32 (ony.mono ho25 (by decide))) (ony.mono ho35 (by decide))) hR36 (by omega) (by omega)
      refine a_iload_n C dX6_product_10 (i := 3) rfl rfl ?_
      refine s_if_eq C dX6_product_11 (tgt := 94) rfl (fun c41 => ?_) (fun c41 => ?_)
      ·
        refine a_iload_n C dX6_product_94 (i := 3) rfl rfl ?_
        exact a_iret Rt dX6_product_95 (nar_z (by omega)).1 (⟨hGq10, hoq10, hRq10, (show 0 ≤ y10_3.toInt ∧ y10_3.toInt ≤ 1 by intros; omega)⟩)
      ·
        refine a_aload_n C dX6_product_14 (i := 0) rfl rfl ?_
        refine a_get C fl_RX6_53 (i := 1) kd_1 (hid 1 (by decide)) (v := .int (σq10.1 1 6)) rfl dX6_product_15 ?_
        refine s_bipush C dX6_product_18 (42) (by decide) (fun z42 h43 => ?_)
        refine s_ic_eq C dX6_product_20 (tgt := 32) rfl (fun c44 => ?_) (fun c44 => ?_)
        ·
          exact j32 _ hGq10 hoq10 hRq10 (by omega)
        ·
          refine a_aload_n C dX6_product_23 (i := 0) rfl rfl ?_
          refine a_get C fl_RX6_53 (i := 1) kd_1 (hid 1 (by decide)) (v := .int (σq10.1 1 6)) rfl dX6_product_24 ?_
          refine s_bipush C dX6_product_27 (47) (by decide) (fun z45 h46 => ?_)
          refine s_ic_ne C dX6_product_29 (tgt := 94) rfl (fun c47 => ?_) (fun c47 => ?_)
          ·
            refine a_iload_n C dX6_product_94 (i := 3) rfl rfl ?_
            exact a_iret Rt dX6_product_95 (nar_z (by omega)).1 (⟨hGq10, hoq10, hRq10, (show 0 ≤ y10_3.toInt ∧ y10_3.toInt ≤ 1 by intros; omega)⟩)
          ·
            exact j32 _ hGq10 hoq10 hRq10 (by omega)
  refine a_aload_n C dX6_product_0 (i := 0) rfl rfl ?_
  refine a_aload_n C dX6_product_1 (i := 1) rfl rfl ?_
  refine a_iload_n C dX6_product_2 (i := 2) rfl rfl ?_
  refine a_callVi C (i := 1) kd_1 (hid 1 (by decide)) ⟨_, _, rfl⟩ (by decide) (S_X6_unit_1_30_w5 (x2 := x2) hid hG hR (by omega)) mi_X6_unit ml_RX6_147 rfl rfl (Nat.le_of_ble_eq_true rfl) (Nat.le_of_ble_eq_true rfl) (Nat.le_of_ble_eq_true rfl) dX6_product_3 (fun z48 σ49 q50 => ?_)
  obtain ⟨hG51, ho52, hR53, w54⟩ := q50
  refine a_istore_n C dX6_product_6 (i := 3) rfl (by decide) rfl (vs1 := [some (.ref (ad 1)), some (.ref (ad 30)), some (.int x2), some (.int z48), none, none]) rfl ?_
  refine s_iconst C dX6_product_7 (0) (by decide) (fun z55 h56 => ?_)
  refine a_istore C dX6_product_8 (by decide) rfl (vs1 := [some (.ref (ad 1)), some (.ref (ad 30)), some (.int x2), some (.int z48), some (.int z55), none]) rfl ?_
  exact j10 100000 _ z48 z55 (by omega) hG51 (ony.tr ony.rf (ony.mono ho52 (by decide))) hR53 (by omega) (by omega)
set_option maxHeartbeats 4000000 in
set_option maxRecDepth 100000 in
theorem S_X6_expression_1_30_w5 {l : Launch} {D : va_G} {ids : List Nat} {ad : Nat → Nat} {ca : Nat → ClassId} {σ : HS} {x2 : Int32} (hid : ∀ i, i < 277 → i ∈ ids) (hG : GIc σ) (hR : RK σ) (hx2 : 5 ≤ x2.toInt ∧ x2.toInt ≤ 5) : Ki l D ids ad ca yX6_expression cX6_expression 6 .boolean 7 163 [.ref (ad 1), .ref (ad 30), .int x2] σ (fun r σ1 => (GIc σ1) ∧ (ony [1, 30, 41] σ σ1) ∧ (RK σ1) ∧ (0 ≤ r.toInt ∧ r.toInt ≤ 1)) := by
  refine Ki.of (by decide) (Nat.le_of_ble_eq_true rfl) 3 (fun Γ C Rt => ?_)
  show AW ids ad ca Γ 0 [some (.ref (ad 1)), some (.ref (ad 30)), some (.int x2), none, none, none] [] σ
  have j10 : ∀ (d10 : Nat) (σq10 : HS) (y10_3 : Int32) (y10_4 : Int32), 400 - y10_4.toInt < d10 → GIc σq10 → ony [1, 30, 41] σ σq10 → RK σq10 → 0 ≤ y10_3.toInt ∧ y10_3.toInt ≤ 1 → 0 ≤ y10_4.toInt ∧ y10_4.toInt ≤ 400 → AW ids ad ca Γ 10 [some (.ref (ad 1)), some (.ref (ad 30)), some (.int x2), some (.int y10_3), some (.int y10_4), none] [] σq10 := by
    intro d10
    induction d10 with
    | zero =>
      intro σq10 y10_3 y10_4 hd10 hGq10 hoq10 hRq10 hx10_0 hx10_1
      exfalso
      omega
    | succ d10 ih10 =>
      intro σq10 y10_3 y10_4 hd10 hGq10 hoq10 hRq10 hx10_0 hx10_1
      have j84 : ∀ (σq84 : HS) (y84_3 : Int32) (u84_0 : Int32), GIc σq84 → ony [1, 30, 41] σ σq84 → RK σq84 → 0 ≤ y84_3.toInt ∧ y84_3.toInt ≤ 1 → -2 ≤ u84_0.toInt ∧ u84_0.toInt ≤ -1 → 0 ≤ y10_4.toInt ∧ y10_4.toInt ≤ 399 → AW ids ad ca Γ 84 [some (.ref (ad 1)), some (.ref (ad 30)), some (.int x2), some (.int y84_3), some (.int y10_4), none] [.int u84_0, .ref (ad 30)] σq84 := by
        intro σq84 y84_3 u84_0 hGq84 hoq84 hRq84 hx84_0 hx84_1 hx84_2
        refine a_callVv C (i := 30) kd_30 (hid 30 (by decide)) ⟨_, _, rfl⟩ (by decide) (S_X10_emit_30 (x1 := u84_0) hid hGq84) mi_X10_emit ml_RX6_138 rfl rfl (Nat.le_of_ble_eq_true rfl) (Nat.le_of_ble_eq_true rfl) (Nat.le_of_ble_eq_true rfl) dX6_expression_84 (fun σ2 q3 => ?_)
        obtain ⟨hG4, ho5⟩ := q3
        have hR6 := RK.ony hRq84 ho5 (by decide) (by decide)
        refine s_iinc C dX6_expression_87 rfl (1) (by decide) (by omega) (by decide) rfl (fun z7 h8 => ?_)
        show AW ids ad ca Γ 90 [some (.ref (ad 1)), some (.ref (ad 30)), some (.int x2), some (.int y84_3), some (.int z7), none] _ _
        refine a_goto C dX6_expression_90 (tgt := 10) rfl ?_
        exact ih10 _ y84_3 z7 (by omega) hG4 (ony.tr hoq84 (ony.mono ho5 (by decide))) hR6 (by omega) (by omega)
      have j69 : ∀ (σq69 : HS) (y69_5 : Int32) (u69_0 : Int32), GIc σq69 → ony [1, 30, 41] σ σq69 → RK σq69 → 0 ≤ u69_0.toInt ∧ u69_0.toInt ≤ 1 → 0 ≤ y10_4.toInt ∧ y10_4.toInt ≤ 399 → AW ids ad ca Γ 69 [some (.ref (ad 1)), some (.ref (ad 30)), some (.int x2), none, some (.int y10_4), some (.int y69_5)] [.int u69_0] σq69 := by
        intro σq69 y69_5 u69_0 hGq69 hoq69 hRq69 hx69_0 hx69_1
        refine a_istore_n C dX6_expression_69 (i := 3) rfl (by decide) rfl (vs1 := [some (.ref (ad 1)), some (.ref (ad 30)), some (.int x2), some (.int u69_0), some (.int y10_4), some (.int y69_5)]) rfl ?_
        refine a_aload_n C dX6_expression_70 (i := 1) rfl rfl ?_
        refine a_iload C dX6_expression_71 rfl ?_
        refine s_bipush C dX6_expression_73 (43) (by decide) (fun z9 h10 => ?_)
        refine s_ic_ne C dX6_expression_75 (tgt := 82) rfl (fun c11 => ?_) (fun c11 => ?_)
        ·
          refine s_bipush C dX6_expression_82 (-2) (by decide) (fun z12 h13 => ?_)
          refine AW.sub (vs' := [some (.ref (ad 1)), some (.ref (ad 30)), some (.int x2), some (.int u69_0), some (.int y10_4), none]) (lsub_of (by simp [lsubB])) ?_
          exact j84 _ u69_0 z12 hGq69 hoq69 hRq69 (by omega) (by omega) (by omega)
        ·
          refine s_iconst C dX6_expression_78 (-1) (by decide) (fun z14 h15 => ?_)
          refine a_goto C dX6_expression_79 (tgt := 84) rfl ?_
          refine AW.sub (vs' := [some (.ref (ad 1)), some (.ref (ad 30)), some (.int x2), some (.int u69_0), some (.int y10_4), none]) (lsub_of (by simp [lsubB])) ?_
          exact j84 _ u69_0 z14 hGq69 hoq69 hRq69 (by omega) (by omega) (by omega)
      have j68 : ∀ (σq68 : HS) (y68_5 : Int32), GIc σq68 → ony [1, 30, 41] σ σq68 → RK σq68 → 0 ≤ y10_4.toInt ∧ y10_4.toInt ≤ 399 → AW ids ad ca Γ 68 [some (.ref (ad 1)), some (.ref (ad 30)), some (.int x2), none, some (.int y10_4), some (.int y68_5)] [] σq68 := by
        intro σq68 y68_5 hGq68 hoq68 hRq68 hx68_0
        refine s_iconst C dX6_expression_68 (0) (by decide) (fun z16 h17 => ?_)
        exact j69 _ y68_5 z16 hGq68 hoq68 hRq68 (by omega) (by omega)
      have j32 : ∀ (σq32 : HS), GIc σq32 → ony [1, 30, 41] σ σq32 → RK σq32 → 1 ≤ y10_3.toInt ∧ y10_3.toInt ≤ 1 → AW ids ad ca Γ 32 [some (.ref (ad 1)), some (.ref (ad 30)), some (.int x2), some (.int y10_3), some (.int y10_4), none] [] σq32 := by
        intro σq32 hGq32 hoq32 hRq32 hx32_0
        refine a_iload C dX6_expression_32 rfl ?_
        refine s_sipush C dX6_expression_34 (400) (by decide) (fun z18 h19 => ?_)
        refine s_ic_ge C dX6_expression_37 (tgt := 93) rfl (fun c20 => ?_) (fun c20 => ?_)
        ·
          refine a_iload_n C dX6_expression_93 (i := 3) rfl rfl ?_
          exact a_iret Rt dX6_expression_94 (nar_z (by omega)).1 (⟨hGq32, hoq32, hRq32, (show 0 ≤ y10_3.toInt ∧ y10_3.toInt ≤ 1 by intros; omega)⟩)
        ·
          refine a_aload_n C dX6_expression_40 (i := 0) rfl rfl ?_
          refine a_get C fl_RX6_53 (i := 1) kd_1 (hid 1 (by decide)) (v := .int (σq32.1 1 6)) rfl dX6_expression_41 ?_
          refine a_istore C dX6_expression_44 (by decide) rfl (vs1 := [some (.ref (ad 1)), some (.ref (ad 30)), some (.int x2), some (.int y10_3), some (.int y10_4), some (.int (σq32.1 1 6))]) rfl ?_
          refine a_aload_n C dX6_expression_46 (i := 0) rfl rfl ?_
          refine a_iload C dX6_expression_47 rfl ?_
          refine a_callVi C (i := 1) kd_1 (hid 1 (by decide)) ⟨_, _, rfl⟩ (by decide) (S_X6_take_1 (x1 := (σq32.1 1 6)) hid hGq32 hRq32) mi_X6_take ml_RX6_77 rfl rfl (Nat.le_of_ble_eq_true rfl) (Nat.le_of_ble_eq_true rfl) (Nat.le_of_ble_eq_true rfl) dX6_expression_49 (fun z21 σ22 q23 => ?_)
          obtain ⟨hG24, ho25, hR26, w27, w28, w29⟩ := q23
          refine s_if_eq C dX6_expression_52 (tgt := 68) rfl (fun c30 => ?_) (fun c30 => ?_)
          ·
            refine AW.sub (vs' := [some (.ref (ad 1)), some (.ref (ad 30)), some (.int x2), none, some (.int y10_4), some (.int (σq32.1 1 6))]) (lsub_of (by simp [lsubB])) ?_
            exact j68 _ (σq32.1 1 6) hG24 (ony.tr hoq32 (ony.mono ho25 (by decide))) hR26 (by omega)
          ·
            refine a_aload_n C dX6_expression_55 (i := 0) rfl rfl ?_
            refine a_aload_n C dX6_expression_56 (i := 1) rfl rfl ?_
            refine a_iload_n C dX6_expression_57 (i := 2) rfl rfl ?_
            refine a_callVi C (i := 1) kd_1 (hid 1 (by decide)) ⟨_, _, rfl⟩ (by decide) (S_X6_product_1_30_w5 (x2 := x2) hid hG24 hR26 (by omega)) mi_X6_product ml_RX6_144 rfl rfl (Nat.le_of_ble_eq_true rfl) (Nat.le_of_ble_eq_true rfl) (Nat.le_of_ble_eq_true rfl) dX6_expression_58 (fun z31 σ32 q33 => ?_)
            obtain ⟨hG34, ho35, hR36, w37⟩ := q33
            refine s_if_eq C dX6_expression_61 (tgt := 68) rfl (fun c38 => ?_) (fun c38 => ?_)
            ·
              refine AW.sub (vs' := [some (.ref (ad 1)), some (.ref (ad 30)), some (.int x2), none, some (.int y10_4), some (.int (σq32.1 1 6))]) (lsub_of (by simp [lsubB])) ?_
              exact j68 _ (σq32.1 1 6) hG34 (ony.tr (ony.tr hoq32 (ony.mono ho25 (by decide))) (ony.mono ho35 (by decide))) hR36 (by omega)
            ·
              refine s_iconst C dX6_expression_64 (1) (by decide) (fun z39 h40 => ?_)
              refine a_goto C dX6_expression_65 (tgt := 69) rfl ?_
              refine AW.sub (vs' := [some (.ref (ad 1)), some (.ref (ad 30)), some (.int x2), none, some (.int y10_4), some (.int (σq32.1 1 6))]) (lsub_of (by simp [lsubB])) ?_
              exact j69 _ (σq32.1 1 6) z39 hG34 (ony.tr (ony.tr hoq32 (ony.mono ho25 (by decide))) (ony.mono ho35 (by decide))) hR36 (by omega) (by omega)
      refine a_iload_n C dX6_expression_10 (i := 3) rfl rfl ?_
      refine s_if_eq C dX6_expression_11 (tgt := 93) rfl (fun c41 => ?_) (fun c41 => ?_)
      ·
        refine a_iload_n C dX6_expression_93 (i := 3) rfl rfl ?_
        exact a_iret Rt dX6_expression_94 (nar_z (by omega)).1 (⟨hGq10, hoq10, hRq10, (show 0 ≤ y10_3.toInt ∧ y10_3.toInt ≤ 1 by intros; omega)⟩)
      ·
        refine a_aload_n C dX6_expression_14 (i := 0) rfl rfl ?_
        refine a_get C fl_RX6_53 (i := 1) kd_1 (hid 1 (by decide)) (v := .int (σq10.1 1 6)) rfl dX6_expression_15 ?_
        refine s_bipush C dX6_expression_18 (43) (by decide) (fun z42 h43 => ?_)
        refine s_ic_eq C dX6_expression_20 (tgt := 32) rfl (fun c44 => ?_) (fun c44 => ?_)
        ·
          exact j32 _ hGq10 hoq10 hRq10 (by omega)
        ·
          refine a_aload_n C dX6_expression_23 (i := 0) rfl rfl ?_
          refine a_get C fl_RX6_53 (i := 1) kd_1 (hid 1 (by decide)) (v := .int (σq10.1 1 6)) rfl dX6_expression_24 ?_
          refine s_bipush C dX6_expression_27 (45) (by decide) (fun z45 h46 => ?_)
          refine s_ic_ne C dX6_expression_29 (tgt := 93) rfl (fun c47 => ?_) (fun c47 => ?_)
          ·
            refine a_iload_n C dX6_expression_93 (i := 3) rfl rfl ?_
            exact a_iret Rt dX6_expression_94 (nar_z (by omega)).1 (⟨hGq10, hoq10, hRq10, (show 0 ≤ y10_3.toInt ∧ y10_3.toInt ≤ 1 by intros; omega)⟩)
          ·
            exact j32 _ hGq10 hoq10 hRq10 (by omega)
  refine a_aload_n C dX6_expression_0 (i := 0) rfl rfl ?_
  refine a_aload_n C dX6_expression_1 (i := 1) rfl rfl ?_
  refine a_iload_n C dX6_expression_2 (i := 2) rfl rfl ?_
  refine a_callVi C (i := 1) kd_1 (hid 1 (by decide)) ⟨_, _, rfl⟩ (by decide) (S_X6_product_1_30_w5 (x2 := x2) hid hG hR (by omega)) mi_X6_product ml_RX6_144 rfl rfl (Nat.le_of_ble_eq_true rfl) (Nat.le_of_ble_eq_true rfl) (Nat.le_of_ble_eq_true rfl) dX6_expression_3 (fun z48 σ49 q50 => ?_)
  obtain ⟨hG51, ho52, hR53, w54⟩ := q50
  refine a_istore_n C dX6_expression_6 (i := 3) rfl (by decide) rfl (vs1 := [some (.ref (ad 1)), some (.ref (ad 30)), some (.int x2), some (.int z48), none, none]) rfl ?_
  refine s_iconst C dX6_expression_7 (0) (by decide) (fun z55 h56 => ?_)
  refine a_istore C dX6_expression_8 (by decide) rfl (vs1 := [some (.ref (ad 1)), some (.ref (ad 30)), some (.int x2), some (.int z48), some (.int z55), none]) rfl ?_
  exact j10 100000 _ z48 z55 (by omega) hG51 (ony.tr ony.rf (ony.mono ho52 (by decide))) hR53 (by omega) (by omega)
set_option maxHeartbeats 4000000 in
set_option maxRecDepth 100000 in
theorem S_X6_unit_1_30_w4 {l : Launch} {D : va_G} {ids : List Nat} {ad : Nat → Nat} {ca : Nat → ClassId} {σ : HS} {x2 : Int32} (hid : ∀ i, i < 277 → i ∈ ids) (hG : GIc σ) (hR : RK σ) (hx2 : 4 ≤ x2.toInt ∧ x2.toInt ≤ 4) : Ki l D ids ad ca yX6_unit cX6_unit 4 .boolean 8 188 [.ref (ad 1), .ref (ad 30), .int x2] σ (fun r σ1 => (GIc σ1) ∧ (ony [1, 30, 41] σ σ1) ∧ (RK σ1) ∧ (0 ≤ r.toInt ∧ r.toInt ≤ 1)) := by
  refine Ki.of (by decide) (Nat.le_of_ble_eq_true rfl) 1 (fun Γ C Rt => ?_)
  show AW ids ad ca Γ 0 [some (.ref (ad 1)), some (.ref (ad 30)), some (.int x2), none] [] σ
  have j88 : ∀ (σq88 : HS), GIc σq88 → ony [1, 30, 41] σ σq88 → RK σq88 → AW ids ad ca Γ 88 [some (.ref (ad 1)), some (.ref (ad 30)), some (.int x2), none] [] σq88 := by
    intro σq88 hGq88 hoq88 hRq88
    refine a_aload_n C dX6_unit_88 (i := 0) rfl rfl ?_
    refine s_bipush C dX6_unit_89 (40) (by decide) (fun z1 h2 => ?_)
    refine a_callVi C (i := 1) kd_1 (hid 1 (by decide)) ⟨_, _, rfl⟩ (by decide) (S_X6_take_1 (x1 := z1) hid hGq88 hRq88) mi_X6_take ml_RX6_77 rfl rfl (Nat.le_of_ble_eq_true rfl) (Nat.le_of_ble_eq_true rfl) (Nat.le_of_ble_eq_true rfl) dX6_unit_91 (fun z3 σ4 q5 => ?_)
    obtain ⟨hG6, ho7, hR8, w9, w10, w11⟩ := q5
    refine s_if_eq C dX6_unit_94 (tgt := 121) rfl (fun c12 => ?_) (fun c12 => ?_)
    ·
      refine s_iconst C dX6_unit_121 (0) (by decide) (fun z13 h14 => ?_)
      exact a_iret Rt dX6_unit_122 (nar_z (by omega)).1 (⟨hG6, (ony.tr hoq88 (ony.mono ho7 (by decide))), hR8, (show 0 ≤ z13.toInt ∧ z13.toInt ≤ 1 by intros; omega)⟩)
    ·
      refine a_aload_n C dX6_unit_97 (i := 0) rfl rfl ?_
      refine a_aload_n C dX6_unit_98 (i := 1) rfl rfl ?_
      refine a_iload_n C dX6_unit_99 (i := 2) rfl rfl ?_
      refine s_iconst C dX6_unit_100 (1) (by decide) (fun z15 h16 => ?_)
      refine s_iadd C dX6_unit_101 (by omega) (fun z17 h18 => ?_)
      refine a_callVi C (i := 1) kd_1 (hid 1 (by decide)) ⟨_, _, rfl⟩ (by decide) (S_X6_expression_1_30_w5 (x2 := z17) hid hG6 hR8 (by omega)) mi_X6_expression ml_RX6_135 rfl rfl (Nat.le_of_ble_eq_true rfl) (Nat.le_of_ble_eq_true rfl) (Nat.le_of_ble_eq_true rfl) dX6_unit_102 (fun z19 σ20 q21 => ?_)
      obtain ⟨hG22, ho23, hR24, w25⟩ := q21
      refine s_if_eq C dX6_unit_105 (tgt := 121) rfl (fun c26 => ?_) (fun c26 => ?_)
      ·
        refine s_iconst C dX6_unit_121 (0) (by decide) (fun z27 h28 => ?_)
        exact a_iret Rt dX6_unit_122 (nar_z (by omega)).1 (⟨hG22, (ony.tr (ony.tr hoq88 (ony.mono ho7 (by decide))) (ony.mono ho23 (by decide))), hR24, (show 0 ≤ z27.toInt ∧ z27.toInt ≤ 1 by intros; omega)⟩)
      ·
        refine a_aload_n C dX6_unit_108 (i := 0) rfl rfl ?_
        refine s_bipush C dX6_unit_109 (41) (by decide) (fun z29 h30 => ?_)
        refine a_callVi C (i := 1) kd_1 (hid 1 (by decide)) ⟨_, _, rfl⟩ (by decide) (S_X6_take_1 (x1 := z29) hid hG22 hR24) mi_X6_take ml_RX6_77 rfl rfl (Nat.le_of_ble_eq_true rfl) (Nat.le_of_ble_eq_true rfl) (Nat.le_of_ble_eq_true rfl) dX6_unit_111 (fun z31 σ32 q33 => ?_)
        obtain ⟨hG34, ho35, hR36, w37, w38, w39⟩ := q33
        refine s_if_eq C dX6_unit_114 (tgt := 121) rfl (fun c40 => ?_) (fun c40 => ?_)
        ·
          refine s_iconst C dX6_unit_121 (0) (by decide) (fun z41 h42 => ?_)
          exact a_iret Rt dX6_unit_122 (nar_z (by omega)).1 (⟨hG34, (ony.tr (ony.tr (ony.tr hoq88 (ony.mono ho7 (by decide))) (ony.mono ho23 (by decide))) (ony.mono ho35 (by decide))), hR36, (show 0 ≤ z41.toInt ∧ z41.toInt ≤ 1 by intros; omega)⟩)
        ·
          refine s_iconst C dX6_unit_117 (1) (by decide) (fun z43 h44 => ?_)
          refine a_goto C dX6_unit_118 (tgt := 122) rfl ?_
          exact a_iret Rt dX6_unit_122 (nar_z (by omega)).1 (⟨hG34, (ony.tr (ony.tr (ony.tr hoq88 (ony.mono ho7 (by decide))) (ony.mono ho23 (by decide))) (ony.mono ho35 (by decide))), hR36, (show 0 ≤ z43.toInt ∧ z43.toInt ≤ 1 by intros; omega)⟩)
  have j67 : ∀ (σq67 : HS), GIc σq67 → ony [1, 30, 41] σ σq67 → RK σq67 → AW ids ad ca Γ 67 [some (.ref (ad 1)), some (.ref (ad 30)), some (.int x2), none] [] σq67 := by
    intro σq67 hGq67 hoq67 hRq67
    refine a_aload_n C dX6_unit_67 (i := 0) rfl rfl ?_
    refine a_get C fl_RX6_53 (i := 1) kd_1 (hid 1 (by decide)) (v := .int (σq67.1 1 6)) rfl dX6_unit_68 ?_
    refine s_bipush C dX6_unit_71 (40) (by decide) (fun z45 h46 => ?_)
    refine s_ic_ne C dX6_unit_73 (tgt := 88) rfl (fun c47 => ?_) (fun c47 => ?_)
    ·
      exact j88 _ hGq67 hoq67 hRq67
    ·
      refine a_iload_n C dX6_unit_76 (i := 2) rfl rfl ?_
      refine s_bipush C dX6_unit_77 (6) (by decide) (fun z48 h49 => ?_)
      refine s_ic_lt C dX6_unit_79 (tgt := 88) rfl (fun c50 => ?_) (fun c50 => absurd c50 (by omega))
      exact j88 _ hGq67 hoq67 hRq67
  refine a_aload_n C dX6_unit_0 (i := 0) rfl rfl ?_
  refine a_get C fl_RX6_53 (i := 1) kd_1 (hid 1 (by decide)) (v := .int (σ.1 1 6)) rfl dX6_unit_1 ?_
  refine s_bipush C dX6_unit_4 (21) (by decide) (fun z51 h52 => ?_)
  refine s_ic_ne C dX6_unit_6 (tgt := 26) rfl (fun c53 => ?_) (fun c53 => ?_)
  ·
    refine a_aload_n C dX6_unit_26 (i := 0) rfl rfl ?_
    refine a_get C fl_RX6_53 (i := 1) kd_1 (hid 1 (by decide)) (v := .int (σ.1 1 6)) rfl dX6_unit_27 ?_
    refine s_bipush C dX6_unit_30 (11) (by decide) (fun z54 h55 => ?_)
    refine s_ic_lt C dX6_unit_32 (tgt := 67) rfl (fun c56 => ?_) (fun c56 => ?_)
    ·
      exact j67 _ hG ony.rf hR
    ·
      refine a_aload_n C dX6_unit_35 (i := 0) rfl rfl ?_
      refine a_get C fl_RX6_53 (i := 1) kd_1 (hid 1 (by decide)) (v := .int (σ.1 1 6)) rfl dX6_unit_36 ?_
      refine s_bipush C dX6_unit_39 (19) (by decide) (fun z57 h58 => ?_)
      refine s_ic_gt C dX6_unit_41 (tgt := 67) rfl (fun c59 => ?_) (fun c59 => ?_)
      ·
        exact j67 _ hG ony.rf hR
      ·
        refine a_aload_n C dX6_unit_44 (i := 1) rfl rfl ?_
        refine s_bipush C dX6_unit_45 (-10) (by decide) (fun z60 h61 => ?_)
        refine a_aload_n C dX6_unit_47 (i := 0) rfl rfl ?_
        refine a_get C fl_RX6_53 (i := 1) kd_1 (hid 1 (by decide)) (v := .int (σ.1 1 6)) rfl dX6_unit_48 ?_
        refine s_bipush C dX6_unit_51 (11) (by decide) (fun z62 h63 => ?_)
        refine s_isubU C dX6_unit_53 (fun z64 => ?_)
        refine s_isubU C dX6_unit_54 (fun z66 => ?_)
        refine a_callVv C (i := 30) kd_30 (hid 30 (by decide)) ⟨_, _, rfl⟩ (by decide) (S_X10_emit_30 (x1 := z66) hid hG) mi_X10_emit ml_RX6_138 rfl rfl (Nat.le_of_ble_eq_true rfl) (Nat.le_of_ble_eq_true rfl) (Nat.le_of_ble_eq_true rfl) dX6_unit_55 (fun σ69 q70 => ?_)
        obtain ⟨hG71, ho72⟩ := q70
        have hR73 := RK.ony hR ho72 (by decide) (by decide)
        refine a_aload_n C dX6_unit_58 (i := 0) rfl rfl ?_
        refine a_aload_n C dX6_unit_59 (i := 0) rfl rfl ?_
        refine a_get C fl_RX6_53 (i := 1) kd_1 (hid 1 (by decide)) (v := .int (σ69.1 1 6)) rfl dX6_unit_60 ?_
        refine a_callVi C (i := 1) kd_1 (hid 1 (by decide)) ⟨_, _, rfl⟩ (by decide) (S_X6_take_1 (x1 := (σ69.1 1 6)) hid hG71 hR73) mi_X6_take ml_RX6_77 rfl rfl (Nat.le_of_ble_eq_true rfl) (Nat.le_of_ble_eq_true rfl) (Nat.le_of_ble_eq_true rfl) dX6_unit_63 (fun z74 σ75 q76 => ?_)
        obtain ⟨hG77, ho78, hR79, w80, w81, w82⟩ := q76
        exact a_iret Rt dX6_unit_66 (nar_z (by omega)).1 (⟨hG77, (ony.tr (ony.tr ony.rf (ony.mono ho72 (by decide))) (ony.mono ho78 (by decide))), hR79, (show 0 ≤ z74.toInt ∧ z74.toInt ≤ 1 by intros; omega)⟩)
  ·
    refine a_aload_n C dX6_unit_9 (i := 0) rfl rfl ?_
    refine s_bipush C dX6_unit_10 (21) (by decide) (fun z83 h84 => ?_)
    refine a_callVi C (i := 1) kd_1 (hid 1 (by decide)) ⟨_, _, rfl⟩ (by decide) (S_X6_take_1 (x1 := z83) hid hG hR) mi_X6_take ml_RX6_77 rfl rfl (Nat.le_of_ble_eq_true rfl) (Nat.le_of_ble_eq_true rfl) (Nat.le_of_ble_eq_true rfl) dX6_unit_12 (fun z85 σ86 q87 => ?_)
    obtain ⟨hG88, ho89, hR90, w91, w92, w93⟩ := q87
    refine a_istore_n C dX6_unit_15 (i := 3) rfl (by decide) rfl (vs1 := [some (.ref (ad 1)), some (.ref (ad 30)), some (.int x2), some (.int z85)]) rfl ?_
    refine a_aload_n C dX6_unit_16 (i := 1) rfl rfl ?_
    refine a_aload_n C dX6_unit_17 (i := 0) rfl rfl ?_
    refine a_get C fl_RX6_67 (i := 1) kd_1 (hid 1 (by decide)) (v := .int (σ86.1 1 7)) rfl dX6_unit_18 ?_
    refine a_callVv C (i := 30) kd_30 (hid 30 (by decide)) ⟨_, _, rfl⟩ (by decide) (S_X10_emit_30 (x1 := (σ86.1 1 7)) hid hG88) mi_X10_emit ml_RX6_138 rfl rfl (Nat.le_of_ble_eq_true rfl) (Nat.le_of_ble_eq_true rfl) (Nat.le_of_ble_eq_true rfl) dX6_unit_21 (fun σ95 q96 => ?_)
    obtain ⟨hG97, ho98⟩ := q96
    have hR99 := RK.ony hR90 ho98 (by decide) (by decide)
    refine a_iload_n C dX6_unit_24 (i := 3) rfl rfl ?_
    exact a_iret Rt dX6_unit_25 (nar_z (by omega)).1 (⟨hG97, (ony.tr (ony.tr ony.rf (ony.mono ho89 (by decide))) (ony.mono ho98 (by decide))), hR99, (show 0 ≤ z85.toInt ∧ z85.toInt ≤ 1 by intros; omega)⟩)
set_option maxHeartbeats 4000000 in
set_option maxRecDepth 100000 in
theorem S_X6_product_1_30_w4 {l : Launch} {D : va_G} {ids : List Nat} {ad : Nat → Nat} {ca : Nat → ClassId} {σ : HS} {x2 : Int32} (hid : ∀ i, i < 277 → i ∈ ids) (hG : GIc σ) (hR : RK σ) (hx2 : 4 ≤ x2.toInt ∧ x2.toInt ≤ 4) : Ki l D ids ad ca yX6_product cX6_product 6 .boolean 9 211 [.ref (ad 1), .ref (ad 30), .int x2] σ (fun r σ1 => (GIc σ1) ∧ (ony [1, 30, 41] σ σ1) ∧ (RK σ1) ∧ (0 ≤ r.toInt ∧ r.toInt ≤ 1)) := by
  refine Ki.of (by decide) (Nat.le_of_ble_eq_true rfl) 3 (fun Γ C Rt => ?_)
  show AW ids ad ca Γ 0 [some (.ref (ad 1)), some (.ref (ad 30)), some (.int x2), none, none, none] [] σ
  have j10 : ∀ (d10 : Nat) (σq10 : HS) (y10_3 : Int32) (y10_4 : Int32), 400 - y10_4.toInt < d10 → GIc σq10 → ony [1, 30, 41] σ σq10 → RK σq10 → 0 ≤ y10_3.toInt ∧ y10_3.toInt ≤ 1 → 0 ≤ y10_4.toInt ∧ y10_4.toInt ≤ 400 → AW ids ad ca Γ 10 [some (.ref (ad 1)), some (.ref (ad 30)), some (.int x2), some (.int y10_3), some (.int y10_4), none] [] σq10 := by
    intro d10
    induction d10 with
    | zero =>
      intro σq10 y10_3 y10_4 hd10 hGq10 hoq10 hRq10 hx10_0 hx10_1
      exfalso
      omega
    | succ d10 ih10 =>
      intro σq10 y10_3 y10_4 hd10 hGq10 hoq10 hRq10 hx10_0 hx10_1
      have j85 : ∀ (σq85 : HS) (y85_3 : Int32) (u85_0 : Int32), GIc σq85 → ony [1, 30, 41] σ σq85 → RK σq85 → 0 ≤ y85_3.toInt ∧ y85_3.toInt ≤ 1 → -4 ≤ u85_0.toInt ∧ u85_0.toInt ≤ -3 → 0 ≤ y10_4.toInt ∧ y10_4.toInt ≤ 399 → AW ids ad ca Γ 85 [some (.ref (ad 1)), some (.ref (ad 30)), some (.int x2), some (.int y85_3), some (.int y10_4), none] [.int u85_0, .ref (ad 30)] σq85 := by
        intro σq85 y85_3 u85_0 hGq85 hoq85 hRq85 hx85_0 hx85_1 hx85_2
        refine a_callVv C (i := 30) kd_30 (hid 30 (by decide)) ⟨_, _, rfl⟩ (by decide) (S_X10_emit_30 (x1 := u85_0) hid hGq85) mi_X10_emit ml_RX6_138 rfl rfl (Nat.le_of_ble_eq_true rfl) (Nat.le_of_ble_eq_true rfl) (Nat.le_of_ble_eq_true rfl) dX6_product_85 (fun σ2 q3 => ?_)
        obtain ⟨hG4, ho5⟩ := q3
        have hR6 := RK.ony hRq85 ho5 (by decide) (by decide)
        refine s_iinc C dX6_product_88 rfl (1) (by decide) (by omega) (by decide) rfl (fun z7 h8 => ?_)
        show AW ids ad ca Γ 91 [some (.ref (ad 1)), some (.ref (ad 30)), some (.int x2), some (.int y85_3), some (.int z7), none] _ _
        refine a_goto C dX6_product_91 (tgt := 10) rfl ?_
        exact ih10 _ y85_3 z7 (by omega) hG4 (ony.tr hoq85 (ony.mono ho5 (by decide))) hR6 (by omega) (by omega)
      have j69 : ∀ (σq69 : HS) (y69_5 : Int32) (u69_0 : Int32), GIc σq69 → ony [1, 30, 41] σ σq69 → RK σq69 → 0 ≤ u69_0.toInt ∧ u69_0.toInt ≤ 1 → 0 ≤ y10_4.toInt ∧ y10_4.toInt ≤ 399 → AW ids ad ca Γ 69 [some (.ref (ad 1)), some (.ref (ad 30)), some (.int x2), none, some (.int y10_4), some (.int y69_5)] [.int u69_0] σq69 := by
        intro σq69 y69_5 u69_0 hGq69 hoq69 hRq69 hx69_0 hx69_1
        refine a_istore_n C dX6_product_69 (i := 3) rfl (by decide) rfl (vs1 := [some (.ref (ad 1)), some (.ref (ad 30)), some (.int x2), some (.int u69_0), some (.int y10_4), some (.int y69_5)]) rfl ?_
        refine a_aload_n C dX6_product_70 (i := 1) rfl rfl ?_
        refine a_iload C dX6_product_71 rfl ?_
        refine s_bipush C dX6_product_73 (42) (by decide) (fun z9 h10 => ?_)
        refine s_ic_ne C dX6_product_75 (tgt := 83) rfl (fun c11 => ?_) (fun c11 => ?_)
        ·
          refine s_bipush C dX6_product_83 (-4) (by decide) (fun z12 h13 => ?_)
          refine AW.sub (vs' := [some (.ref (ad 1)), some (.ref (ad 30)), some (.int x2), some (.int u69_0), some (.int y10_4), none]) (lsub_of (by simp [lsubB])) ?_
          exact j85 _ u69_0 z12 hGq69 hoq69 hRq69 (by omega) (by omega) (by omega)
        ·
          refine s_bipush C dX6_product_78 (-3) (by decide) (fun z14 h15 => ?_)
          refine a_goto C dX6_product_80 (tgt := 85) rfl ?_
          refine AW.sub (vs' := [some (.ref (ad 1)), some (.ref (ad 30)), some (.int x2), some (.int u69_0), some (.int y10_4), none]) (lsub_of (by simp [lsubB])) ?_
          exact j85 _ u69_0 z14 hGq69 hoq69 hRq69 (by omega) (by omega) (by omega)
      have j68 : ∀ (σq68 : HS) (y68_5 : Int32), GIc σq68 → ony [1, 30, 41] σ σq68 → RK σq68 → 0 ≤ y10_4.toInt ∧ y10_4.toInt ≤ 399 → AW ids ad ca Γ 68 [some (.ref (ad 1)), some (.ref (ad 30)), some (.int x2), none, some (.int y10_4), some (.int y68_5)] [] σq68 := by
        intro σq68 y68_5 hGq68 hoq68 hRq68 hx68_0
        refine s_iconst C dX6_product_68 (0) (by decide) (fun z16 h17 => ?_)
        exact j69 _ y68_5 z16 hGq68 hoq68 hRq68 (by omega) (by omega)
      have j32 : ∀ (σq32 : HS), GIc σq32 → ony [1, 30, 41] σ σq32 → RK σq32 → 1 ≤ y10_3.toInt ∧ y10_3.toInt ≤ 1 → AW ids ad ca Γ 32 [some (.ref (ad 1)), some (.ref (ad 30)), some (.int x2), some (.int y10_3), some (.int y10_4), none] [] σq32 := by
        intro σq32 hGq32 hoq32 hRq32 hx32_0
        refine a_iload C dX6_product_32 rfl ?_
        refine s_sipush C dX6_product_34 (400) (by decide) (fun z18 h19 => ?_)
        refine s_ic_ge C dX6_product_37 (tgt := 94) rfl (fun c20 => ?_) (fun c20 => ?_)
        ·
          refine a_iload_n C dX6_product_94 (i := 3) rfl rfl ?_
          exact a_iret Rt dX6_product_95 (nar_z (by omega)).1 (⟨hGq32, hoq32, hRq32, (show 0 ≤ y10_3.toInt ∧ y10_3.toInt ≤ 1 by intros; omega)⟩)
        ·
          refine a_aload_n C dX6_product_40 (i := 0) rfl rfl ?_
          refine a_get C fl_RX6_53 (i := 1) kd_1 (hid 1 (by decide)) (v := .int (σq32.1 1 6)) rfl dX6_product_41 ?_
          refine a_istore C dX6_product_44 (by decide) rfl (vs1 := [some (.ref (ad 1)), some (.ref (ad 30)), some (.int x2), some (.int y10_3), some (.int y10_4), some (.int (σq32.1 1 6))]) rfl ?_
          refine a_aload_n C dX6_product_46 (i := 0) rfl rfl ?_
          refine a_iload C dX6_product_47 rfl ?_
          refine a_callVi C (i := 1) kd_1 (hid 1 (by decide)) ⟨_, _, rfl⟩ (by decide) (S_X6_take_1 (x1 := (σq32.1 1 6)) hid hGq32 hRq32) mi_X6_take ml_RX6_77 rfl rfl (Nat.le_of_ble_eq_true rfl) (Nat.le_of_ble_eq_true rfl) (Nat.le_of_ble_eq_true rfl) dX6_product_49 (fun z21 σ22 q23 => ?_)
          obtain ⟨hG24, ho25, hR26, w27, w28, w29⟩ := q23
          refine s_if_eq C dX6_product_52 (tgt := 68) rfl (fun c30 => ?_) (fun c30 => ?_)
          ·
            refine AW.sub (vs' := [some (.ref (ad 1)), some (.ref (ad 30)), some (.int x2), none, some (.int y10_4), some (.int (σq32.1 1 6))]) (lsub_of (by simp [lsubB])) ?_
            exact j68 _ (σq32.1 1 6) hG24 (ony.tr hoq32 (ony.mono ho25 (by decide))) hR26 (by omega)
          ·
            refine a_aload_n C dX6_product_55 (i := 0) rfl rfl ?_
            refine a_aload_n C dX6_product_56 (i := 1) rfl rfl ?_
            refine a_iload_n C dX6_product_57 (i := 2) rfl rfl ?_
            refine a_callVi C (i := 1) kd_1 (hid 1 (by decide)) ⟨_, _, rfl⟩ (by decide) (S_X6_unit_1_30_w4 (x2 := x2) hid hG24 hR26 (by omega)) mi_X6_unit ml_RX6_147 rfl rfl (Nat.le_of_ble_eq_true rfl) (Nat.le_of_ble_eq_true rfl) (Nat.le_of_ble_eq_true rfl) dX6_product_58 (fun z31 σ32 q33 => ?_)
            obtain ⟨hG34, ho35, hR36, w37⟩ := q33
            refine s_if_eq C dX6_product_61 (tgt := 68) rfl (fun c38 => ?_) (fun c38 => ?_)
            ·
              refine AW.sub (vs' := [some (.ref (ad 1)), some (.ref (ad 30)), some (.int x2), none, some (.int y10_4), some (.int (σq32.1 1 6))]) (lsub_of (by simp [lsubB])) ?_
              exact j68 _ (σq32.1 1 6) hG34 (ony.tr (ony.tr hoq32 (ony.mono ho25 (by decide))) (ony.mono ho35 (by decide))) hR36 (by omega)
            ·
              refine s_iconst C dX6_product_64 (1) (by decide) (fun z39 h40 => ?_)
              refine a_goto C dX6_product_65 (tgt := 69) rfl ?_
              refine AW.sub (vs' := [some (.ref (ad 1)), some (.ref (ad 30)), some (.int x2), none, some (.int y10_4), some (.int (σq32.1 1 6))]) (lsub_of (by simp [lsubB])) ?_
              exact j69 _ (σq32.1 1 6) z39 hG34 (ony.tr (ony.tr hoq32 (ony.mono ho25 (by decide))) (ony.mono ho35 (by decide))) hR36 (by omega) (by omega)
      refine a_iload_n C dX6_product_10 (i := 3) rfl rfl ?_
      refine s_if_eq C dX6_product_11 (tgt := 94) rfl (fun c41 => ?_) (fun c41 => ?_)
      ·
        refine a_iload_n C dX6_product_94 (i := 3) rfl rfl ?_
        exact a_iret Rt dX6_product_95 (nar_z (by omega)).1 (⟨hGq10, hoq10, hRq10, (show 0 ≤ y10_3.toInt ∧ y10_3.toInt ≤ 1 by intros; omega)⟩)
      ·
        refine a_aload_n C dX6_product_14 (i := 0) rfl rfl ?_
        refine a_get C fl_RX6_53 (i := 1) kd_1 (hid 1 (by decide)) (v := .int (σq10.1 1 6)) rfl dX6_product_15 ?_
        refine s_bipush C dX6_product_18 (42) (by decide) (fun z42 h43 => ?_)
        refine s_ic_eq C dX6_product_20 (tgt := 32) rfl (fun c44 => ?_) (fun c44 => ?_)
        ·
          exact j32 _ hGq10 hoq10 hRq10 (by omega)
        ·
          refine a_aload_n C dX6_product_23 (i := 0) rfl rfl ?_
          refine a_get C fl_RX6_53 (i := 1) kd_1 (hid 1 (by decide)) (v := .int (σq10.1 1 6)) rfl dX6_product_24 ?_
          refine s_bipush C dX6_product_27 (47) (by decide) (fun z45 h46 => ?_)
          refine s_ic_ne C dX6_product_29 (tgt := 94) rfl (fun c47 => ?_) (fun c47 => ?_)
          ·
            refine a_iload_n C dX6_product_94 (i := 3) rfl rfl ?_
            exact a_iret Rt dX6_product_95 (nar_z (by omega)).1 (⟨hGq10, hoq10, hRq10, (show 0 ≤ y10_3.toInt ∧ y10_3.toInt ≤ 1 by intros; omega)⟩)
          ·
            exact j32 _ hGq10 hoq10 hRq10 (by omega)
  refine a_aload_n C dX6_product_0 (i := 0) rfl rfl ?_
  refine a_aload_n C dX6_product_1 (i := 1) rfl rfl ?_
  refine a_iload_n C dX6_product_2 (i := 2) rfl rfl ?_
  refine a_callVi C (i := 1) kd_1 (hid 1 (by decide)) ⟨_, _, rfl⟩ (by decide) (S_X6_unit_1_30_w4 (x2 := x2) hid hG hR (by omega)) mi_X6_unit ml_RX6_147 rfl rfl (Nat.le_of_ble_eq_true rfl) (Nat.le_of_ble_eq_true rfl) (Nat.le_of_ble_eq_true rfl) dX6_product_3 (fun z48 σ49 q50 => ?_)
  obtain ⟨hG51, ho52, hR53, w54⟩ := q50
  refine a_istore_n C dX6_product_6 (i := 3) rfl (by decide) rfl (vs1 := [some (.ref (ad 1)), some (.ref (ad 30)), some (.int x2), some (.int z48), none, none]) rfl ?_
  refine s_iconst C dX6_product_7 (0) (by decide) (fun z55 h56 => ?_)
  refine a_istore C dX6_product_8 (by decide) rfl (vs1 := [some (.ref (ad 1)), some (.ref (ad 30)), some (.int x2), some (.int z48), some (.int z55), none]) rfl ?_
  exact j10 100000 _ z48 z55 (by omega) hG51 (ony.tr ony.rf (ony.mono ho52 (by decide))) hR53 (by omega) (by omega)
set_option maxHeartbeats 4000000 in
set_option maxRecDepth 100000 in
theorem S_X6_expression_1_30_w4 {l : Launch} {D : va_G} {ids : List Nat} {ad : Nat → Nat} {ca : Nat → ClassId} {σ : HS} {x2 : Int32} (hid : ∀ i, i < 277 → i ∈ ids) (hG : GIc σ) (hR : RK σ) (hx2 : 4 ≤ x2.toInt ∧ x2.toInt ≤ 4) : Ki l D ids ad ca yX6_expression cX6_expression 6 .boolean 10 236 [.ref (ad 1), .ref (ad 30), .int x2] σ (fun r σ1 => (GIc σ1) ∧ (ony [1, 30, 41] σ σ1) ∧ (RK σ1) ∧ (0 ≤ r.toInt ∧ r.toInt ≤ 1)) := by
  refine Ki.of (by decide) (Nat.le_of_ble_eq_true rfl) 3 (fun Γ C Rt => ?_)
  show AW ids ad ca Γ 0 [some (.ref (ad 1)), some (.ref (ad 30)), some (.int x2), none, none, none] [] σ
  have j10 : ∀ (d10 : Nat) (σq10 : HS) (y10_3 : Int32) (y10_4 : Int32), 400 - y10_4.toInt < d10 → GIc σq10 → ony [1, 30, 41] σ σq10 → RK σq10 → 0 ≤ y10_3.toInt ∧ y10_3.toInt ≤ 1 → 0 ≤ y10_4.toInt ∧ y10_4.toInt ≤ 400 → AW ids ad ca Γ 10 [some (.ref (ad 1)), some (.ref (ad 30)), some (.int x2), some (.int y10_3), some (.int y10_4), none] [] σq10 := by
    intro d10
    induction d10 with
    | zero =>
      intro σq10 y10_3 y10_4 hd10 hGq10 hoq10 hRq10 hx10_0 hx10_1
      exfalso
      omega
    | succ d10 ih10 =>
      intro σq10 y10_3 y10_4 hd10 hGq10 hoq10 hRq10 hx10_0 hx10_1
      have j84 : ∀ (σq84 : HS) (y84_3 : Int32) (u84_0 : Int32), GIc σq84 → ony [1, 30, 41] σ σq84 → RK σq84 → 0 ≤ y84_3.toInt ∧ y84_3.toInt ≤ 1 → -2 ≤ u84_0.toInt ∧ u84_0.toInt ≤ -1 → 0 ≤ y10_4.toInt ∧ y10_4.toInt ≤ 399 → AW ids ad ca Γ 84 [some (.ref (ad 1)), some (.ref (ad 30)), some (.int x2), some (.int y84_3), some (.int y10_4), none] [.int u84_0, .ref (ad 30)] σq84 := by
        intro σq84 y84_3 u84_0 hGq84 hoq84 hRq84 hx84_0 hx84_1 hx84_2
        refine a_callVv C (i := 30) kd_30 (hid 30 (by decide)) ⟨_, _, rfl⟩ (by decide) (S_X10_emit_30 (x1 := u84_0) hid hGq84) mi_X10_emit ml_RX6_138 rfl rfl (Nat.le_of_ble_eq_true rfl) (Nat.le_of_ble_eq_true rfl) (Nat.le_of_ble_eq_true rfl) dX6_expression_84 (fun σ2 q3 => ?_)
        obtain ⟨hG4, ho5⟩ := q3
        have hR6 := RK.ony hRq84 ho5 (by decide) (by decide)
        refine s_iinc C dX6_expression_87 rfl (1) (by decide) (by omega) (by decide) rfl (fun z7 h8 => ?_)
        show AW ids ad ca Γ 90 [some (.ref (ad 1)), some (.ref (ad 30)), some (.int x2), some (.int y84_3), some (.int z7), none] _ _
        refine a_goto C dX6_expression_90 (tgt := 10) rfl ?_
        exact ih10 _ y84_3 z7 (by omega) hG4 (ony.tr hoq84 (ony.mono ho5 (by decide))) hR6 (by omega) (by omega)
      have j69 : ∀ (σq69 : HS) (y69_5 : Int32) (u69_0 : Int32), GIc σq69 → ony [1, 30, 41] σ σq69 → RK σq69 → 0 ≤ u69_0.toInt ∧ u69_0.toInt ≤ 1 → 0 ≤ y10_4.toInt ∧ y10_4.toInt ≤ 399 → AW ids ad ca Γ 69 [some (.ref (ad 1)), some (.ref (ad 30)), some (.int x2), none, some (.int y10_4), some (.int y69_5)] [.int u69_0] σq69 := by
        intro σq69 y69_5 u69_0 hGq69 hoq69 hRq69 hx69_0 hx69_1
        refine a_istore_n C dX6_expression_69 (i := 3) rfl (by decide) rfl (vs1 := [some (.ref (ad 1)), some (.ref (ad 30)), some (.int x2), some (.int u69_0), some (.int y10_4), some (.int y69_5)]) rfl ?_
        refine a_aload_n C dX6_expression_70 (i := 1) rfl rfl ?_
        refine a_iload C dX6_expression_71 rfl ?_
        refine s_bipush C dX6_expression_73 (43) (by decide) (fun z9 h10 => ?_)
        refine s_ic_ne C dX6_expression_75 (tgt := 82) rfl (fun c11 => ?_) (fun c11 => ?_)
        ·
          refine s_bipush C dX6_expression_82 (-2) (by decide) (fun z12 h13 => ?_)
          refine AW.sub (vs' := [some (.ref (ad 1)), some (.ref (ad 30)), some (.int x2), some (.int u69_0), some (.int y10_4), none]) (lsub_of (by simp [lsubB])) ?_
          exact j84 _ u69_0 z12 hGq69 hoq69 hRq69 (by omega) (by omega) (by omega)
        ·
          refine s_iconst C dX6_expression_78 (-1) (by decide) (fun z14 h15 => ?_)
          refine a_goto C dX6_expression_79 (tgt := 84) rfl ?_
          refine AW.sub (vs' := [some (.ref (ad 1)), some (.ref (ad 30)), some (.int x2), some (.int u69_0), some (.int y10_4), none]) (lsub_of (by simp [lsubB])) ?_
          exact j84 _ u69_0 z14 hGq69 hoq69 hRq69 (by omega) (by omega) (by omega)
      have j68 : ∀ (σq68 : HS) (y68_5 : Int32), GIc σq68 → ony [1, 30, 41] σ σq68 → RK σq68 → 0 ≤ y10_4.toInt ∧ y10_4.toInt ≤ 399 → AW ids ad ca Γ 68 [some (.ref (ad 1)), some (.ref (ad 30)), some (.int x2), none, some (.int y10_4), some (.int y68_5)] [] σq68 := by
        intro σq68 y68_5 hGq68 hoq68 hRq68 hx68_0
        refine s_iconst C dX6_expression_68 (0) (by decide) (fun z16 h17 => ?_)
        exact j69 _ y68_5 z16 hGq68 hoq68 hRq68 (by omega) (by omega)
      have j32 : ∀ (σq32 : HS), GIc σq32 → ony [1, 30, 41] σ σq32 → RK σq32 → 1 ≤ y10_3.toInt ∧ y10_3.toInt ≤ 1 → AW ids ad ca Γ 32 [some (.ref (ad 1)), some (.ref (ad 30)), some (.int x2), some (.int y10_3), some (.int y10_4), none] [] σq32 := by
        intro σq32 hGq32 hoq32 hRq32 hx32_0
        refine a_iload C dX6_expression_32 rfl ?_
        refine s_sipush C dX6_expression_34 (400) (by decide) (fun z18 h19 => ?_)
        refine s_ic_ge C dX6_expression_37 (tgt := 93) rfl (fun c20 => ?_) (fun c20 => ?_)
        ·
          refine a_iload_n C dX6_expression_93 (i := 3) rfl rfl ?_
          exact a_iret Rt dX6_expression_94 (nar_z (by omega)).1 (⟨hGq32, hoq32, hRq32, (show 0 ≤ y10_3.toInt ∧ y10_3.toInt ≤ 1 by intros; omega)⟩)
        ·
          refine a_aload_n C dX6_expression_40 (i := 0) rfl rfl ?_
          refine a_get C fl_RX6_53 (i := 1) kd_1 (hid 1 (by decide)) (v := .int (σq32.1 1 6)) rfl dX6_expression_41 ?_
          refine a_istore C dX6_expression_44 (by decide) rfl (vs1 := [some (.ref (ad 1)), some (.ref (ad 30)), some (.int x2), some (.int y10_3), some (.int y10_4), some (.int (σq32.1 1 6))]) rfl ?_
          refine a_aload_n C dX6_expression_46 (i := 0) rfl rfl ?_
          refine a_iload C dX6_expression_47 rfl ?_
          refine a_callVi C (i := 1) kd_1 (hid 1 (by decide)) ⟨_, _, rfl⟩ (by decide) (S_X6_take_1 (x1 := (σq32.1 1 6)) hid hGq32 hRq32) mi_X6_take ml_RX6_77 rfl rfl (Nat.le_of_ble_eq_true rfl) (Nat.le_of_ble_eq_true rfl) (Nat.le_of_ble_eq_true rfl) dX6_expression_49 (fun z21 σ22 q23 => ?_)
          obtain ⟨hG24, ho25, hR26, w27, w28, w29⟩ := q23
          refine s_if_eq C dX6_expression_52 (tgt := 68) rfl (fun c30 => ?_) (fun c30 => ?_)
          ·
            refine AW.sub (vs' := [some (.ref (ad 1)), some (.ref (ad 30)), some (.int x2), none, some (.int y10_4), some (.int (σq32.1 1 6))]) (lsub_of (by simp [lsubB])) ?_
            exact j68 _ (σq32.1 1 6) hG24 (ony.tr hoq32 (ony.mono ho25 (by decide))) hR26 (by omega)
          ·
            refine a_aload_n C dX6_expression_55 (i := 0) rfl rfl ?_
            refine a_aload_n C dX6_expression_56 (i := 1) rfl rfl ?_
            refine a_iload_n C dX6_expression_57 (i := 2) rfl rfl ?_
            refine a_callVi C (i := 1) kd_1 (hid 1 (by decide)) ⟨_, _, rfl⟩ (by decide) (S_X6_product_1_30_w4 (x2 := x2) hid hG24 hR26 (by omega)) mi_X6_product ml_RX6_144 rfl rfl (Nat.le_of_ble_eq_true rfl) (Nat.le_of_ble_eq_true rfl) (Nat.le_of_ble_eq_true rfl) dX6_expression_58 (fun z31 σ32 q33 => ?_)
            obtain ⟨hG34, ho35, hR36, w37⟩ := q33
            refine s_if_eq C dX6_expression_61 (tgt := 68) rfl (fun c38 => ?_) (fun c38 => ?_)
            ·
              refine AW.sub (vs' := [some (.ref (ad 1)), some (.ref (ad 30)), some (.int x2), none, some (.int y10_4), some (.int (σq32.1 1 6))]) (lsub_of (by simp [lsubB])) ?_
              exact j68 _ (σq32.1 1 6) hG34 (ony.tr (ony.tr hoq32 (ony.mono ho25 (by decide))) (ony.mono ho35 (by decide))) hR36 (by omega)
            ·
              refine s_iconst C dX6_expression_64 (1) (by decide) (fun z39 h40 => ?_)
              refine a_goto C dX6_expression_65 (tgt := 69) rfl ?_
              refine AW.sub (vs' := [some (.ref (ad 1)), some (.ref (ad 30)), some (.int x2), none, some (.int y10_4), some (.int (σq32.1 1 6))]) (lsub_of (by simp [lsubB])) ?_
              exact j69 _ (σq32.1 1 6) z39 hG34 (ony.tr (ony.tr hoq32 (ony.mono ho25 (by decide))) (ony.mono ho35 (by decide))) hR36 (by omega) (by omega)
      refine a_iload_n C dX6_expression_10 (i := 3) rfl rfl ?_
      refine s_if_eq C dX6_expression_11 (tgt := 93) rfl (fun c41 => ?_) (fun c41 => ?_)
      ·
        refine a_iload_n C dX6_expression_93 (i := 3) rfl rfl ?_
        exact a_iret Rt dX6_expression_94 (nar_z (by omega)).1 (⟨hGq10, hoq10, hRq10, (show 0 ≤ y10_3.toInt ∧ y10_3.toInt ≤ 1 by intros; omega)⟩)
      ·
        refine a_aload_n C dX6_expression_14 (i := 0) rfl rfl ?_
        refine a_get C fl_RX6_53 (i := 1) kd_1 (hid 1 (by decide)) (v := .int (σq10.1 1 6)) rfl dX6_expression_15 ?_
        refine s_bipush C dX6_expression_18 (43) (by decide) (fun z42 h43 => ?_)
        refine s_ic_eq C dX6_expression_20 (tgt := 32) rfl (fun c44 => ?_) (fun c44 => ?_)
        ·
          exact j32 _ hGq10 hoq10 hRq10 (by omega)
        ·
          refine a_aload_n C dX6_expression_23 (i := 0) rfl rfl ?_
          refine a_get C fl_RX6_53 (i := 1) kd_1 (hid 1 (by decide)) (v := .int (σq10.1 1 6)) rfl dX6_expression_24 ?_
          refine s_bipush C dX6_expression_27 (45) (by decide) (fun z45 h46 => ?_)
          refine s_ic_ne C dX6_expression_29 (tgt := 93) rfl (fun c47 => ?_) (fun c47 => ?_)
          ·
            refine a_iload_n C dX6_expression_93 (i := 3) rfl rfl ?_
            exact a_iret Rt dX6_expression_94 (nar_z (by omega)).1 (⟨hGq10, hoq10, hRq10, (show 0 ≤ y10_3.toInt ∧ y10_3.toInt ≤ 1 by intros; omega)⟩)
          ·
            exact j32 _ hGq10 hoq10 hRq10 (by omega)
  refine a_aload_n C dX6_expression_0 (i := 0) rfl rfl ?_
  refine a_aload_n C dX6_expression_1 (i := 1) rfl rfl ?_
  refine a_iload_n C dX6_expression_2 (i := 2) rfl rfl ?_
  refine a_callVi C (i := 1) kd_1 (hid 1 (by decide)) ⟨_, _, rfl⟩ (by decide) (S_X6_product_1_30_w4 (x2 := x2) hid hG hR (by omega)) mi_X6_product ml_RX6_144 rfl rfl (Nat.le_of_ble_eq_true rfl) (Nat.le_of_ble_eq_true rfl) (Nat.le_of_ble_eq_true rfl) dX6_expression_3 (fun z48 σ49 q50 => ?_)
  obtain ⟨hG51, ho52, hR53, w54⟩ := q50
  refine a_istore_n C dX6_expression_6 (i := 3) rfl (by decide) rfl (vs1 := [some (.ref (ad 1)), some (.ref (ad 30)), some (.int x2), some (.int z48), none, none]) rfl ?_
  refine s_iconst C dX6_expression_7 (0) (by decide) (fun z55 h56 => ?_)
  refine a_istore C dX6_expression_8 (by decide) rfl (vs1 := [some (.ref (ad 1)), some (.ref (ad 30)), some (.int x2), some (.int z48), some (.int z55), none]) rfl ?_
  exact j10 100000 _ z48 z55 (by omega) hG51 (ony.tr ony.rf (ony.mono ho52 (by decide))) hR53 (by omega) (by omega)
set_option maxHeartbeats 4000000 in
set_option maxRecDepth 100000 in
theorem S_X6_unit_1_30_w3 {l : Launch} {D : va_G} {ids : List Nat} {ad : Nat → Nat} {ca : Nat → ClassId} {σ : HS} {x2 : Int32} (hid : ∀ i, i < 277 → i ∈ ids) (hG : GIc σ) (hR : RK σ) (hx2 : 3 ≤ x2.toInt ∧ x2.toInt ≤ 3) : Ki l D ids ad ca yX6_unit cX6_unit 4 .boolean 11 261 [.ref (ad 1), .ref (ad 30), .int x2] σ (fun r σ1 => (GIc σ1) ∧ (ony [1, 30, 41] σ σ1) ∧ (RK σ1) ∧ (0 ≤ r.toInt ∧ r.toInt ≤ 1)) := by
  refine Ki.of (by decide) (Nat.le_of_ble_eq_true rfl) 1 (fun Γ C Rt => ?_)
  show AW ids ad ca Γ 0 [some (.ref (ad 1)), some (.ref (ad 30)), some (.int x2), none] [] σ
  have j88 : ∀ (σq88 : HS), GIc σq88 → ony [1, 30, 41] σ σq88 → RK σq88 → AW ids ad ca Γ 88 [some (.ref (ad 1)), some (.ref (ad 30)), some (.int x2), none] [] σq88 := by
    intro σq88 hGq88 hoq88 hRq88
    refine a_aload_n C dX6_unit_88 (i := 0) rfl rfl ?_
    refine s_bipush C dX6_unit_89 (40) (by decide) (fun z1 h2 => ?_)
    refine a_callVi C (i := 1) kd_1 (hid 1 (by decide)) ⟨_, _, rfl⟩ (by decide) (S_X6_take_1 (x1 := z1) hid hGq88 hRq88) mi_X6_take ml_RX6_77 rfl rfl (Nat.le_of_ble_eq_true rfl) (Nat.le_of_ble_eq_true rfl) (Nat.le_of_ble_eq_true rfl) dX6_unit_91 (fun z3 σ4 q5 => ?_)
    obtain ⟨hG6, ho7, hR8, w9, w10, w11⟩ := q5
    refine s_if_eq C dX6_unit_94 (tgt := 121) rfl (fun c12 => ?_) (fun c12 => ?_)
    ·
      refine s_iconst C dX6_unit_121 (0) (by decide) (fun z13 h14 => ?_)
      exact a_iret Rt dX6_unit_122 (nar_z (by omega)).1 (⟨hG6, (ony.tr hoq88 (ony.mono ho7 (by decide))), hR8, (show 0 ≤ z13.toInt ∧ z13.toInt ≤ 1 by intros; omega)⟩)
    ·
      refine a_aload_n C dX6_unit_97 (i := 0) rfl rfl ?_
      refine a_aload_n C dX6_unit_98 (i := 1) rfl rfl ?_
      refine a_iload_n C dX6_unit_99 (i := 2) rfl rfl ?_
      refine s_iconst C dX6_unit_100 (1) (by decide) (fun z15 h16 => ?_)
      refine s_iadd C dX6_unit_101 (by omega) (fun z17 h18 => ?_)
      refine a_callVi C (i := 1) kd_1 (hid 1 (by decide)) ⟨_, _, rfl⟩ (by decide) (S_X6_expression_1_30_w4 (x2 := z17) hid hG6 hR8 (by omega)) mi_X6_expression ml_RX6_135 rfl rfl (Nat.le_of_ble_eq_true rfl) (Nat.le_of_ble_eq_true rfl) (Nat.le_of_ble_eq_true rfl) dX6_unit_102 (fun z19 σ20 q21 => ?_)
      obtain ⟨hG22, ho23, hR24, w25⟩ := q21
      refine s_if_eq C dX6_unit_105 (tgt := 121) rfl (fun c26 => ?_) (fun c26 => ?_)
      ·
        refine s_iconst C dX6_unit_121 (0) (by decide) (fun z27 h28 => ?_)
        exact a_iret Rt dX6_unit_122 (nar_z (by omega)).1 (⟨hG22, (ony.tr (ony.tr hoq88 (ony.mono ho7 (by decide))) (ony.mono ho23 (by decide))), hR24, (show 0 ≤ z27.toInt ∧ z27.toInt ≤ 1 by intros; omega)⟩)
      ·
        refine a_aload_n C dX6_unit_108 (i := 0) rfl rfl ?_
        refine s_bipush C dX6_unit_109 (41) (by decide) (fun z29 h30 => ?_)
        refine a_callVi C (i := 1) kd_1 (hid 1 (by decide)) ⟨_, _, rfl⟩ (by decide) (S_X6_take_1 (x1 := z29) hid hG22 hR24) mi_X6_take ml_RX6_77 rfl rfl (Nat.le_of_ble_eq_true rfl) (Nat.le_of_ble_eq_true rfl) (Nat.le_of_ble_eq_true rfl) dX6_unit_111 (fun z31 σ32 q33 => ?_)
        obtain ⟨hG34, ho35, hR36, w37, w38, w39⟩ := q33
        refine s_if_eq C dX6_unit_114 (tgt := 121) rfl (fun c40 => ?_) (fun c40 => ?_)
        ·
          refine s_iconst C dX6_unit_121 (0) (by decide) (fun z41 h42 => ?_)
          exact a_iret Rt dX6_unit_122 (nar_z (by omega)).1 (⟨hG34, (ony.tr (ony.tr (ony.tr hoq88 (ony.mono ho7 (by decide))) (ony.mono ho23 (by decide))) (ony.mono ho35 (by decide))), hR36, (show 0 ≤ z41.toInt ∧ z41.toInt ≤ 1 by intros; omega)⟩)
        ·
          refine s_iconst C dX6_unit_117 (1) (by decide) (fun z43 h44 => ?_)
          refine a_goto C dX6_unit_118 (tgt := 122) rfl ?_
          exact a_iret Rt dX6_unit_122 (nar_z (by omega)).1 (⟨hG34, (ony.tr (ony.tr (ony.tr hoq88 (ony.mono ho7 (by decide))) (ony.mono ho23 (by decide))) (ony.mono ho35 (by decide))), hR36, (show 0 ≤ z43.toInt ∧ z43.toInt ≤ 1 by intros; omega)⟩)
  have j67 : ∀ (σq67 : HS), GIc σq67 → ony [1, 30, 41] σ σq67 → RK σq67 → AW ids ad ca Γ 67 [some (.ref (ad 1)), some (.ref (ad 30)), some (.int x2), none] [] σq67 := by
    intro σq67 hGq67 hoq67 hRq67
    refine a_aload_n C dX6_unit_67 (i := 0) rfl rfl ?_
    refine a_get C fl_RX6_53 (i := 1) kd_1 (hid 1 (by decide)) (v := .int (σq67.1 1 6)) rfl dX6_unit_68 ?_
    refine s_bipush C dX6_unit_71 (40) (by decide) (fun z45 h46 => ?_)
    refine s_ic_ne C dX6_unit_73 (tgt := 88) rfl (fun c47 => ?_) (fun c47 => ?_)
    ·
      exact j88 _ hGq67 hoq67 hRq67
    ·
      refine a_iload_n C dX6_unit_76 (i := 2) rfl rfl ?_
      refine s_bipush C dX6_unit_77 (6) (by decide) (fun z48 h49 => ?_)
      refine s_ic_lt C dX6_unit_79 (tgt := 88) rfl (fun c50 => ?_) (fun c50 => absurd c50 (by omega))
      exact j88 _ hGq67 hoq67 hRq67
  refine a_aload_n C dX6_unit_0 (i := 0) rfl rfl ?_
  refine a_get C fl_RX6_53 (i := 1) kd_1 (hid 1 (by decide)) (v := .int (σ.1 1 6)) rfl dX6_unit_1 ?_
  refine s_bipush C dX6_unit_4 (21) (by decide) (fun z51 h52 => ?_)
  refine s_ic_ne C dX6_unit_6 (tgt := 26) rfl (fun c53 => ?_) (fun c53 => ?_)
  ·
    refine a_aload_n C dX6_unit_26 (i := 0) rfl rfl ?_
    refine a_get C fl_RX6_53 (i := 1) kd_1 (hid 1 (by decide)) (v := .int (σ.1 1 6)) rfl dX6_unit_27 ?_
    refine s_bipush C dX6_unit_30 (11) (by decide) (fun z54 h55 => ?_)
    refine s_ic_lt C dX6_unit_32 (tgt := 67) rfl (fun c56 => ?_) (fun c56 => ?_)
    ·
      exact j67 _ hG ony.rf hR
    ·
      refine a_aload_n C dX6_unit_35 (i := 0) rfl rfl ?_
      refine a_get C fl_RX6_53 (i := 1) kd_1 (hid 1 (by decide)) (v := .int (σ.1 1 6)) rfl dX6_unit_36 ?_
      refine s_bipush C dX6_unit_39 (19) (by decide) (fun z57 h58 => ?_)
      refine s_ic_gt C dX6_unit_41 (tgt := 67) rfl (fun c59 => ?_) (fun c59 => ?_)
      ·
        exact j67 _ hG ony.rf hR
      ·
        refine a_aload_n C dX6_unit_44 (i := 1) rfl rfl ?_
        refine s_bipush C dX6_unit_45 (-10) (by decide) (fun z60 h61 => ?_)
        refine a_aload_n C dX6_unit_47 (i := 0) rfl rfl ?_
        refine a_get C fl_RX6_53 (i := 1) kd_1 (hid 1 (by decide)) (v := .int (σ.1 1 6)) rfl dX6_unit_48 ?_
        refine s_bipush C dX6_unit_51 (11) (by decide) (fun z62 h63 => ?_)
        refine s_isubU C dX6_unit_53 (fun z64 => ?_)
        refine s_isubU C dX6_unit_54 (fun z66 => ?_)
        refine a_callVv C (i := 30) kd_30 (hid 30 (by decide)) ⟨_, _, rfl⟩ (by decide) (S_X10_emit_30 (x1 := z66) hid hG) mi_X10_emit ml_RX6_138 rfl rfl (Nat.le_of_ble_eq_true rfl) (Nat.le_of_ble_eq_true rfl) (Nat.le_of_ble_eq_true rfl) dX6_unit_55 (fun σ69 q70 => ?_)
        obtain ⟨hG71, ho72⟩ := q70
        have hR73 := RK.ony hR ho72 (by decide) (by decide)
        refine a_aload_n C dX6_unit_58 (i := 0) rfl rfl ?_
        refine a_aload_n C dX6_unit_59 (i := 0) rfl rfl ?_
        refine a_get C fl_RX6_53 (i := 1) kd_1 (hid 1 (by decide)) (v := .int (σ69.1 1 6)) rfl dX6_unit_60 ?_
        refine a_callVi C (i := 1) kd_1 (hid 1 (by decide)) ⟨_, _, rfl⟩ (by decide) (S_X6_take_1 (x1 := (σ69.1 1 6)) hid hG71 hR73) mi_X6_take ml_RX6_77 rfl rfl (Nat.le_of_ble_eq_true rfl) (Nat.le_of_ble_eq_true rfl) (Nat.le_of_ble_eq_true rfl) dX6_unit_63 (fun z74 σ75 q76 => ?_)
        obtain ⟨hG77, ho78, hR79, w80, w81, w82⟩ := q76
        exact a_iret Rt dX6_unit_66 (nar_z (by omega)).1 (⟨hG77, (ony.tr (ony.tr ony.rf (ony.mono ho72 (by decide))) (ony.mono ho78 (by decide))), hR79, (show 0 ≤ z74.toInt ∧ z74.toInt ≤ 1 by intros; omega)⟩)
  ·
    refine a_aload_n C dX6_unit_9 (i := 0) rfl rfl ?_
    refine s_bipush C dX6_unit_10 (21) (by decide) (fun z83 h84 => ?_)
    refine a_callVi C (i := 1) kd_1 (hid 1 (by decide)) ⟨_, _, rfl⟩ (by decide) (S_X6_take_1 (x1 := z83) hid hG hR) mi_X6_take ml_RX6_77 rfl rfl (Nat.le_of_ble_eq_true rfl) (Nat.le_of_ble_eq_true rfl) (Nat.le_of_ble_eq_true rfl) dX6_unit_12 (fun z85 σ86 q87 => ?_)
    obtain ⟨hG88, ho89, hR90, w91, w92, w93⟩ := q87
    refine a_istore_n C dX6_unit_15 (i := 3) rfl (by decide) rfl (vs1 := [some (.ref (ad 1)), some (.ref (ad 30)), some (.int x2), some (.int z85)]) rfl ?_
    refine a_aload_n C dX6_unit_16 (i := 1) rfl rfl ?_
    refine a_aload_n C dX6_unit_17 (i := 0) rfl rfl ?_
    refine a_get C fl_RX6_67 (i := 1) kd_1 (hid 1 (by decide)) (v := .int (σ86.1 1 7)) rfl dX6_unit_18 ?_
    refine a_callVv C (i := 30) kd_30 (hid 30 (by decide)) ⟨_, _, rfl⟩ (by decide) (S_X10_emit_30 (x1 := (σ86.1 1 7)) hid hG88) mi_X10_emit ml_RX6_138 rfl rfl (Nat.le_of_ble_eq_true rfl) (Nat.le_of_ble_eq_true rfl) (Nat.le_of_ble_eq_true rfl) dX6_unit_21 (fun σ95 q96 => ?_)
    obtain ⟨hG97, ho98⟩ := q96
    have hR99 := RK.ony hR90 ho98 (by decide) (by decide)
    refine a_iload_n C dX6_unit_24 (i := 3) rfl rfl ?_
    exact a_iret Rt dX6_unit_25 (nar_z (by omega)).1 (⟨hG97, (ony.tr (ony.tr ony.rf (ony.mono ho89 (by decide))) (ony.mono ho98 (by decide))), hR99, (show 0 ≤ z85.toInt ∧ z85.toInt ≤ 1 by intros; omega)⟩)
