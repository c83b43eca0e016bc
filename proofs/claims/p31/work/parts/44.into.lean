theorem dX11_into_11 : decode cX11_into 11 = .ok (.iload_n 2, 1) := by decide +kernel
theorem dX11_into_12 : decode cX11_into 12 = .ok (.iconst (-1), 1) := by decide +kernel
theorem dX11_into_13 : decode cX11_into 13 = .ok (.if_icmp .ge 5, 3) := by decide +kernel
theorem dX11_into_18 : decode cX11_into 18 = .ok (.aload_n 0, 1) := by decide +kernel
theorem dX11_into_19 : decode cX11_into 19 = .ok (.getfield 82, 3) := by decide +kernel
theorem dX11_into_22 : decode cX11_into 22 = .ok (.getfield 149, 3) := by decide +kernel
theorem dX11_into_25 : decode cX11_into 25 = .ok (.iload_n 1, 1) := by decide +kernel
theorem dX11_into_26 : decode cX11_into 26 = .ok (.aaload, 1) := by decide +kernel
theorem dX11_into_27 : decode cX11_into 27 = .ok (.astore_n 3, 1) := by decide +kernel
theorem dX11_into_28 : decode cX11_into 28 = .ok (.aload_n 0, 1) := by decide +kernel
theorem dX11_into_29 : decode cX11_into 29 = .ok (.getfield 82, 3) := by decide +kernel
theorem dX11_into_32 : decode cX11_into 32 = .ok (.getfield 146, 3) := by decide +kernel
theorem dX11_into_35 : decode cX11_into 35 = .ok (.iload_n 1, 1) := by decide +kernel
theorem dX11_into_36 : decode cX11_into 36 = .ok (.iaload, 1) := by decide +kernel
theorem dX11_into_37 : decode cX11_into 37 = .ok (.istore 4, 2) := by decide +kernel
theorem dX11_into_39 : decode cX11_into 39 = .ok (.aload_n 3, 1) := by decide +kernel
theorem dX11_into_40 : decode cX11_into 40 = .ok (.iload 4, 2) := by decide +kernel
theorem dX11_into_42 : decode cX11_into 42 = .ok (.invokestatic 243, 3) := by decide +kernel
theorem dX11_into_45 : decode cX11_into 45 = .ok (.ifCond .ne 5, 3) := by decide +kernel
theorem dX11_into_48 : decode cX11_into 48 = .ok (.iconst (-1), 1) := by decide +kernel
theorem dX11_into_49 : decode cX11_into 49 = .ok (.ireturn, 1) := by decide +kernel
theorem dX11_into_50 : decode cX11_into 50 = .ok (.aload_n 0, 1) := by decide +kernel
theorem dX11_into_51 : decode cX11_into 51 = .ok (.getfield 54, 3) := by decide +kernel
theorem dX11_into_54 : decode cX11_into 54 = .ok (.invokevirtual 295, 3) := by decide +kernel
theorem dX11_into_57 : decode cX11_into 57 = .ok (.ifCond .ne 30, 3) := by decide +kernel
theorem dX11_into_60 : decode cX11_into 60 = .ok (.aload_n 0, 1) := by decide +kernel
theorem dX11_into_61 : decode cX11_into 61 = .ok (.getfield 40, 3) := by decide +kernel
theorem dX11_into_64 : decode cX11_into 64 = .ok (.aload_n 0, 1) := by decide +kernel
theorem dX11_into_65 : decode cX11_into 65 = .ok (.getfield 54, 3) := by decide +kernel
theorem dX11_into_68 : decode cX11_into 68 = .ok (.invokevirtual 276, 3) := by decide +kernel
theorem dX11_into_71 : decode cX11_into 71 = .ok (.aload_n 3, 1) := by decide +kernel
theorem dX11_into_72 : decode cX11_into 72 = .ok (.iload 4, 2) := by decide +kernel
theorem dX11_into_74 : decode cX11_into 74 = .ok (.invokestatic 299, 3) := by decide +kernel
theorem dX11_into_77 : decode cX11_into 77 = .ok (.invokevirtual 301, 3) := by decide +kernel
theorem dX11_into_80 : decode cX11_into 80 = .ok (.ifCond .eq 7, 3) := by decide +kernel
theorem dX11_into_83 : decode cX11_into 83 = .ok (.iconst 1, 1) := by decide +kernel
theorem dX11_into_84 : decode cX11_into 84 = .ok (.goto 4, 3) := by decide +kernel
theorem dX11_into_87 : decode cX11_into 87 = .ok (.iconst 0, 1) := by decide +kernel
theorem dX11_into_88 : decode cX11_into 88 = .ok (.istore 5, 2) := by decide +kernel
theorem dX11_into_90 : decode cX11_into 90 = .ok (.iload 5, 2) := by decide +kernel
theorem dX11_into_92 : decode cX11_into 92 = .ok (.ifCond .ne 16, 3) := by decide +kernel
theorem dX11_into_95 : decode cX11_into 95 = .ok (.iload_n 2, 1) := by decide +kernel
theorem dX11_into_96 : decode cX11_into 96 = .ok (.iconst (-1), 1) := by decide +kernel
theorem dX11_into_97 : decode cX11_into 97 = .ok (.if_icmp .ne 8, 3) := by decide +kernel
theorem dX11_into_100 : decode cX11_into 100 = .ok (.bipush (-2), 2) := by decide +kernel
theorem dX11_into_102 : decode cX11_into 102 = .ok (.goto 5, 3) := by decide +kernel
theorem dX11_into_105 : decode cX11_into 105 = .ok (.bipush (-3), 2) := by decide +kernel
theorem dX11_into_107 : decode cX11_into 107 = .ok (.ireturn, 1) := by decide +kernel
theorem dX11_into_108 : decode cX11_into 108 = .ok (.iload_n 2, 1) := by decide +kernel
theorem dX11_into_109 : decode cX11_into 109 = .ok (.iconst (-1), 1) := by decide +kernel
theorem dX11_into_110 : decode cX11_into 110 = .ok (.if_icmp .ne 11, 3) := by decide +kernel
theorem dX11_into_113 : decode cX11_into 113 = .ok (.aload_n 0, 1) := by decide +kernel
theorem dX11_into_114 : decode cX11_into 114 = .ok (.getfield 40, 3) := by decide +kernel
theorem dX11_into_117 : decode cX11_into 117 = .ok (.getfield 304, 3) := by decide +kernel
theorem dX11_into_120 : decode cX11_into 120 = .ok (.ireturn, 1) := by decide +kernel
theorem dX11_into_121 : decode cX11_into 121 = .ok (.iload_n 2, 1) := by decide +kernel
theorem dX11_into_122 : decode cX11_into 122 = .ok (.aload_n 0, 1) := by decide +kernel
theorem dX11_into_123 : decode cX11_into 123 = .ok (.getfield 40, 3) := by decide +kernel
theorem dX11_into_126 : decode cX11_into 126 = .ok (.getfield 304, 3) := by decide +kernel
theorem dX11_into_129 : decode cX11_into 129 = .ok (.if_icmp .ge 15, 3) := by decide +kernel
theorem dX11_into_132 : decode cX11_into 132 = .ok (.aload_n 0, 1) := by decide +kernel
theorem dX11_into_133 : decode cX11_into 133 = .ok (.getfield 40, 3) := by decide +kernel
theorem dX11_into_136 : decode cX11_into 136 = .ok (.getfield 305, 3) := by decide +kernel
theorem dX11_into_139 : decode cX11_into 139 = .ok (.iload_n 2, 1) := by decide +kernel
theorem dX11_into_140 : decode cX11_into 140 = .ok (.iaload, 1) := by decide +kernel
theorem dX11_into_141 : decode cX11_into 141 = .ok (.goto 4, 3) := by decide +kernel
theorem dX11_into_144 : decode cX11_into 144 = .ok (.iconst (-1), 1) := by decide +kernel
theorem dX11_into_145 : decode cX11_into 145 = .ok (.ireturn, 1) := by decide +kernel
set_option maxHeartbeats 4000000 in
set_option maxRecDepth 100000 in
theorem S_X11_into_0_t30 {l : Launch} {D : va_G} {ids : List Nat} {ad : Nat → Nat} {ca : Nat → ClassId} {σ : HS} {x1 : Int32} {x2 : Int32} (hid : ∀ i, i < 277 → i ∈ ids) (hG : GIc σ) (htx0 : σ.2.2 0 = 30) (htx1 : σ.2.2 1 = 43) : Ki l D ids ad ca yX11_into cX11_into 6 .int 3 72 [.ref (ad 0), .int x1, .int x2] σ (fun r σ1 => (GIc σ1) ∧ (ony [17, 18, 19, 20, 21] σ σ1)) := by
  refine Ki.of (by decide) (Nat.le_of_ble_eq_true rfl) 3 (fun Γ C Rt => ?_)
  show AW ids ad ca Γ 0 [some (.ref (ad 0)), some (.int x1), some (.int x2), none, none, none] [] σ
  have j88 : ∀ (σq88 : HS) (u88_0 : Int32), GIc σq88 → ony [17, 18, 19, 20, 21] σ σq88 → 0 ≤ u88_0.toInt ∧ u88_0.toInt ≤ 1 → -1 ≤ x2.toInt → AW ids ad ca Γ 88 [some (.ref (ad 0)), none, some (.int x2), none, none, none] [.int u88_0] σq88 := by
    intro σq88 u88_0 hGq88 hoq88 hx88_0 hx88_1
    refine a_istore C dX11_into_88 (by decide) rfl (vs1 := [some (.ref (ad 0)), none, some (.int x2), none, none, some (.int u88_0)]) rfl ?_
    refine a_iload C dX11_into_90 rfl ?_
    refine s_if_ne C dX11_into_92 (tgt := 108) rfl (fun c1 => ?_) (fun c1 => ?_)
    ·
      refine a_iload_n C dX11_into_108 (i := 2) rfl rfl ?_
      refine s_iconst C dX11_into_109 (-1) (by decide) (fun z2 h3 => ?_)
      refine s_ic_ne C dX11_into_110 (tgt := 121) rfl (fun c4 => ?_) (fun c4 => ?_)
      ·
        refine a_iload_n C dX11_into_121 (i := 2) rfl rfl ?_
        refine a_aload_n C dX11_into_122 (i := 0) rfl rfl ?_
        refine a_get C fl_RX11_40 (i := 0) kd_0 (hid 0 (by decide)) (v := .ref (ad 17)) rfl dX11_into_123 ?_
        have g5 := bF_17_5 hGq88
        refine a_get C fl_RX11_304 (i := 17) kd_17 (hid 17 (by decide)) (v := .int (σq88.1 17 5)) rfl dX11_into_126 ?_
        refine s_ic_ge C dX11_into_129 (tgt := 144) rfl (fun c6 => ?_) (fun c6 => ?_)
        ·
          refine s_iconst C dX11_into_144 (-1) (by decide) (fun z7 h8 => ?_)
          exact a_iret Rt dX11_into_145 rfl (⟨hGq88, hoq88⟩)
        ·
          refine a_aload_n C dX11_into_132 (i := 0) rfl rfl ?_
          refine a_get C fl_RX11_40 (i := 0) kd_0 (hid 0 (by decide)) (v := .ref (ad 17)) rfl dX11_into_133 ?_
          refine a_get C fl_RX11_305 (i := 17) kd_17 (hid 17 (by decide)) (v := .ref (ad 21)) rfl dX11_into_136 ?_
          refine a_iload_n C dX11_into_139 (i := 2) rfl rfl ?_
          refine s_iald C (i := 21) kd_21 (hid 21 (by decide)) al_21 (by omega) (by omega) dX11_into_140 (fun n9 h10 => ?_)
          refine s_val (fun z11 e12 => ?_)
          refine a_goto C dX11_into_141 (tgt := 145) rfl ?_
          exact a_iret Rt dX11_into_145 rfl (⟨hGq88, hoq88⟩)
      ·
        refine a_aload_n C dX11_into_113 (i := 0) rfl rfl ?_
        refine a_get C fl_RX11_40 (i := 0) kd_0 (hid 0 (by decide)) (v := .ref (ad 17)) rfl dX11_into_114 ?_
        have g13 := bF_17_5 hGq88
        refine a_get C fl_RX11_304 (i := 17) kd_17 (hid 17 (by decide)) (v := .int (σq88.1 17 5)) rfl dX11_into_117 ?_
        exact a_iret Rt dX11_into_120 rfl (⟨hGq88, hoq88⟩)
    ·
      refine a_iload_n C dX11_into_95 (i := 2) rfl rfl ?_
      refine s_iconst C dX11_into_96 (-1) (by decide) (fun z14 h15 => ?_)
      refine s_ic_ne C dX11_into_97 (tgt := 105) rfl (fun c16 => ?_) (fun c16 => ?_)
      ·
        refine s_bipush C dX11_into_105 (-3) (by decide) (fun z17 h18 => ?_)
        exact a_iret Rt dX11_into_107 rfl (⟨hGq88, hoq88⟩)
      ·
        refine s_bipush C dX11_into_100 (-2) (by decide) (fun z19 h20 => ?_)
        refine a_goto C dX11_into_102 (tgt := 107) rfl ?_
        exact a_iret Rt dX11_into_107 rfl (⟨hGq88, hoq88⟩)
  have j87 : ∀ (σq87 : HS), GIc σq87 → ony [17, 18, 19, 20, 21] σ σq87 → -1 ≤ x2.toInt → AW ids ad ca Γ 87 [some (.ref (ad 0)), none, some (.int x2), none, none, none] [] σq87 := by
    intro σq87 hGq87 hoq87 hx87_0
    refine s_iconst C dX11_into_87 (0) (by decide) (fun z21 h22 => ?_)
    exact j88 _ z21 hGq87 hoq87 (by omega) (by omega)
  refine a_aload_n C dX11_into_0 (i := 0) rfl rfl ?_
  refine a_get C fl_RX11_82 (i := 0) kd_0 (hid 0 (by decide)) (v := .ref (ad 30)) (congrArg (fun z => some (Value.ref (ad z))) htx0) dX11_into_1 ?_
  refine a_iload_n C dX11_into_4 (i := 1) rfl rfl ?_
  refine a_callVi C (i := 30) kd_30 (hid 30 (by decide)) ⟨_, _, rfl⟩ (by decide) (S_X10_hasPattern_30 (x1 := x1) hid hG) mi_X10_hasPattern ml_RX11_143 rfl rfl (Nat.le_of_ble_eq_true rfl) (Nat.le_of_ble_eq_true rfl) (Nat.le_of_ble_eq_true rfl) dX11_into_5 (fun z23 σ24 q25 => ?_)
  obtain ⟨w26, w27, w28⟩ := q25
  rw [w26]
  refine s_if_eq C dX11_into_8 (tgt := 16) rfl (fun c29 => ?_) (fun c29 => ?_)
  ·
    refine s_iconst C dX11_into_16 (-1) (by decide) (fun z30 h31 => ?_)
    exact a_iret Rt dX11_into_17 rfl (⟨hG, ony.rf⟩)
  ·
    refine a_iload_n C dX11_into_11 (i := 2) rfl rfl ?_
    refine s_iconst C dX11_into_12 (-1) (by decide) (fun z32 h33 => ?_)
    refine s_ic_ge C dX11_into_13 (tgt := 18) rfl (fun c34 => ?_) (fun c34 => ?_)
    ·
      refine a_aload_n C dX11_into_18 (i := 0) rfl rfl ?_
      refine a_get C fl_RX11_82 (i := 0) kd_0 (hid 0 (by decide)) (v := .ref (ad 30)) (congrArg (fun z => some (Value.ref (ad z))) htx0) dX11_into_19 ?_
      refine a_get C fl_RX11_149 (i := 30) kd_30 (hid 30 (by decide)) (v := .ref (ad 34)) rfl dX11_into_22 ?_
      refine a_iload_n C dX11_into_25 (i := 1) rfl rfl ?_
      refine s_aaldH C (i := 34) kd_34 (hid 34 (by decide)) al_34 (by omega) (by omega) dX11_into_26 (fun n35 h36 h37 => ?_)
      refine a_astore_n C dX11_into_27 (i := 3) rfl (by decide) rfl (vs1 := [some (.ref (ad 0)), some (.int x1), some (.int x2), some (.ref (ad (34 + 1 + n35))), none, none]) rfl ?_
      refine a_aload_n C dX11_into_28 (i := 0) rfl rfl ?_
      refine a_get C fl_RX11_82 (i := 0) kd_0 (hid 0 (by decide)) (v := .ref (ad 30)) (congrArg (fun z => some (Value.ref (ad z))) htx0) dX11_into_29 ?_
      refine a_get C fl_RX11_146 (i := 30) kd_30 (hid 30 (by decide)) (v := .ref (ad 40)) rfl dX11_into_32 ?_
      refine a_iload_n C dX11_into_35 (i := 1) rfl rfl ?_
      refine s_iald C (i := 40) kd_40 (hid 40 (by decide)) al_40 (by omega) (by omega) dX11_into_36 (fun n38 h39 => ?_)
      refine s_val (fun z40 e41 => ?_)
      have g42 := bA_40 hG n38
      rw [e41] at g42
      refine a_istore C dX11_into_37 (by decide) rfl (vs1 := [some (.ref (ad 0)), some (.int x1), some (.int x2), some (.ref (ad (34 + 1 + n35))), some (.int z40), none]) rfl ?_
      refine a_aload_n C dX11_into_39 (i := 3) rfl rfl ?_
      refine a_iload C dX11_into_40 rfl ?_
      refine a_callSi C (S_X3_close_H8 (x2 := z40) (ar1 := (34 + 1 + n35)) hid hG (by omega) (kdH_34 n35 h37).1 (hid _ (kdH_34 n35 h37).2.2) (kdH_34 n35 h37).2.1 (bH_34 hG h37)) ms_X3_close ml_RX11_243 rfl rfl (Nat.le_of_ble_eq_true rfl) (Nat.le_of_ble_eq_true rfl) (Nat.le_of_ble_eq_true rfl) dX11_into_42 (fun z43 σ44 q45 => ?_)
      obtain ⟨w46, w47⟩ := q45
      rw [w46]
      refine s_if_ne C dX11_into_45 (tgt := 50) rfl (fun c48 => ?_) (fun c48 => ?_)
      ·
        refine a_aload_n C dX11_into_50 (i := 0) rfl rfl ?_
        refine a_get C fl_RX11_54 (i := 0) kd_0 (hid 0 (by decide)) (v := .ref (ad 56)) rfl dX11_into_51 ?_
        refine a_callVi C (i := 56) kd_56 (hid 56 (by decide)) ⟨_, _, rfl⟩ (by decide) (S_X0_twoLandAlike_56 hid hG) mi_X0_twoLandAlike ml_RX11_295 rfl rfl (Nat.le_of_ble_eq_true rfl) (Nat.le_of_ble_eq_true rfl) (Nat.le_of_ble_eq_true rfl) dX11_into_54 (fun z49 σ50 q51 => ?_)
        obtain ⟨w52, w53⟩ := q51
        rw [w52]
        refine s_if_ne C dX11_into_57 (tgt := 87) rfl (fun c54 => ?_) (fun c54 => ?_)
        ·
          refine AW.sub (vs' := [some (.ref (ad 0)), none, some (.int x2), none, none, none]) (lsub_of (by simp [lsubB])) ?_
          exact j87 _ hG ony.rf (by omega)
        ·
          refine a_aload_n C dX11_into_60 (i := 0) rfl rfl ?_
          refine a_get C fl_RX11_40 (i := 0) kd_0 (hid 0 (by decide)) (v := .ref (ad 17)) rfl dX11_into_61 ?_
          refine a_aload_n C dX11_into_64 (i := 0) rfl rfl ?_
          refine a_get C fl_RX11_54 (i := 0) kd_0 (hid 0 (by decide)) (v := .ref (ad 56)) rfl dX11_into_65 ?_
          refine a_callVi C (i := 56) kd_56 (hid 56 (by decide)) ⟨_, _, rfl⟩ (by decide) (S_X0_landingBits_56 hid hG) mi_X0_landingBits ml_RX11_276 rfl rfl (Nat.le_of_ble_eq_true rfl) (Nat.le_of_ble_eq_true rfl) (Nat.le_of_ble_eq_true rfl) dX11_into_68 (fun z55 σ56 q57 => ?_)
          rw [q57]
          refine a_aload_n C dX11_into_71 (i := 3) rfl rfl ?_
          refine a_iload C dX11_into_72 rfl ?_
          refine a_callSi C (S_X3_landingBits_H8 (x2 := z40) (ar1 := (34 + 1 + n35)) hid hG (by omega) (kdH_34 n35 h37).1 (hid _ (kdH_34 n35 h37).2.2) (kdH_34 n35 h37).2.1 (bH_34 hG h37)) ms_X3_landingBits ml_RX11_299 rfl rfl (Nat.le_of_ble_eq_true rfl) (Nat.le_of_ble_eq_true rfl) (Nat.le_of_ble_eq_true rfl) dX11_into_74 (fun z58 σ59 q60 => ?_)
          rw [q60]
          refine a_callVi C (i := 17) kd_17 (hid 17 (by decide)) ⟨_, _, rfl⟩ (by decide) (S_X7_find_17 (x1 := z55) (x2 := z58) hid hG) mi_X7_find ml_RX11_301 rfl rfl (Nat.le_of_ble_eq_true rfl) (Nat.le_of_ble_eq_true rfl) (Nat.le_of_ble_eq_true rfl) dX11_into_77 (fun z61 σ62 q63 => ?_)
          obtain ⟨hG64, ho65, w67⟩ := q63
          refine s_if_eq C dX11_into_80 (tgt := 87) rfl (fun c68 => ?_) (fun c68 => ?_)
          ·
            refine AW.sub (vs' := [some (.ref (ad 0)), none, some (.int x2), none, none, none]) (lsub_of (by simp [lsubB])) ?_
            exact j87 _ hG64 (ony.tr ony.rf (ony.mono ho65 (by decide))) (by omega)
          ·
            refine s_iconst C dX11_into_83 (1) (by decide) (fun z69 h70 => ?_)
            refine a_goto C dX11_into_84 (tgt := 88) rfl ?_
            refine AW.sub (vs' := [some (.ref (ad 0)), none, some (.int x2), none, none, none]) (lsub_of (by simp [lsubB])) ?_
            exact j88 _ z69 hG64 (ony.tr ony.rf (ony.mono ho65 (by decide))) (by omega) (by omega)
      ·
        refine s_iconst C dX11_into_48 (-1) (by decide) (fun z71 h72 => ?_)
        exact a_iret Rt dX11_into_49 rfl (⟨hG, ony.rf⟩)
    ·
      refine s_iconst C dX11_into_16 (-1) (by decide) (fun z73 h74 => ?_)
      exact a_iret Rt dX11_into_17 rfl (⟨hG, ony.rf⟩)
set_option maxHeartbeats 4000000 in
set_option maxRecDepth 100000 in
theorem S_X11_into_0_t43 {l : Launch} {D : va_G} {ids : List Nat} {ad : Nat → Nat} {ca : Nat → ClassId} {σ : HS} {x1 : Int32} {x2 : Int32} (hid : ∀ i, i < 277 → i ∈ ids) (hG : GIc σ) (htx0 : σ.2.2 0 = 43) (htx1 : σ.2.2 1 = 30) : Ki l D ids ad ca yX11_into cX11_into 6 .int 3 72 [.ref (ad 0), .int x1, .int x2] σ (fun r σ1 => (GIc σ1) ∧ (ony [17, 18, 19, 20, 21] σ σ1)) := by
  refine Ki.of (by decide) (Nat.le_of_ble_eq_true rfl) 3 (fun Γ C Rt => ?_)
  show AW ids ad ca Γ 0 [some (.ref (ad 0)), some (.int x1), some (.int x2), none, none, none] [] σ
  have j88 : ∀ (σq88 : HS) (u88_0 : Int32), GIc σq88 → ony [17, 18, 19, 20, 21] σ σq88 → 0 ≤ u88_0.toInt ∧ u88_0.toInt ≤ 1 → -1 ≤ x2.toInt → AW ids ad ca Γ 88 [some (.ref (ad 0)), none, some (.int x2), none, none, none] [.int u88_0] σq88 := by
    intro σq88 u88_0 hGq88 hoq88 hx88_0 hx88_1
    refine a_istore C dX11_into_88 (by decide) rfl (vs1 := [some (.ref (ad 0)), none, some (.int x2), none, none, some (.int u88_0)]) rfl ?_
    refine a_iload C dX11_into_90 rfl ?_
    refine s_if_ne C dX11_into_92 (tgt := 108) rfl (fun c1 => ?_) (fun c1 => ?_)
    ·
      refine a_iload_n C dX11_into_108 (i := 2) rfl rfl ?_
      refine s_iconst C dX11_into_109 (-1) (by decide) (fun z2 h3 => ?_)
      refine s_ic_ne C dX11_into_110 (tgt := 121) rfl (fun c4 => ?_) (fun c4 => ?_)
      ·
        refine a_iload_n C dX11_into_121 (i := 2) rfl rfl ?_
        refine a_aload_n C dX11_into_122 (i := 0) rfl rfl ?_
        refine a_get C fl_RX11_40 (i := 0) kd_0 (hid 0 (by decide)) (v := .ref (ad 17)) rfl dX11_into_123 ?_
        have g5 := bF_17_5 hGq88
        refine a_get C fl_RX11_304 (i := 17) kd_17 (hid 17 (by decide)) (v := .int (σq88.1 17 5)) rfl dX11_into_126 ?_
        refine s_ic_ge C dX11_into_129 (tgt := 144) rfl (fun c6 => ?_) (fun c6 => ?_)
        ·
          refine s_iconst C dX11_into_144 (-1) (by decide) (fun z7 h8 => ?_)
          exact a_iret Rt dX11_into_145 rfl (⟨hGq88, hoq88⟩)
        ·
          refine a_aload_n C dX11_into_132 (i := 0) rfl rfl ?_
          refine a_get C fl_RX11_40 (i := 0) kd_0 (hid 0 (by decide)) (v := .ref (ad 17)) rfl dX11_into_133 ?_
          refine a_get C fl_RX11_305 (i := 17) kd_17 (hid 17 (by decide)) (v := .ref (ad 21)) rfl dX11_into_136 ?_
          refine a_iload_n C dX11_into_139 (i := 2) rfl rfl ?_
          refine s_iald C (i := 21) kd_21 (hid 21 (by decide)) al_21 (by omega) (by omega) dX11_into_140 (fun n9 h10 => ?_)
          refine s_val (fun z11 e12 => ?_)
          refine a_goto C dX11_into_141 (tgt := 145) rfl ?_
          exact a_iret Rt dX11_into_145 rfl (⟨hGq88, hoq88⟩)
      ·
        refine a_aload_n C dX11_into_113 (i := 0) rfl rfl ?_
        refine a_get C fl_RX11_40 (i := 0) kd_0 (hid 0 (by decide)) (v := .ref (ad 17)) rfl dX11_into_114 ?_
        have g13 := bF_17_5 hGq88
        refine a_get C fl_RX11_304 (i := 17) kd_17 (hid 17 (by decide)) (v := .int (σq88.1 17 5)) rfl dX11_into_117 ?_
        exact a_iret Rt dX11_into_120 rfl (⟨hGq88, hoq88⟩)
    ·
      refine a_iload_n C dX11_into_95 (i := 2) rfl rfl ?_
      refine s_iconst C dX11_into_96 (-1) (by decide) (fun z14 h15 => ?_)
      refine s_ic_ne C dX11_into_97 (tgt := 105) rfl (fun c16 => ?_) (fun c16 => ?_)
      ·
        refine s_bipush C dX11_into_105 (-3) (by decide) (fun z17 h18 => ?_)
        exact a_iret Rt dX11_into_107 rfl (⟨hGq88, hoq88⟩)
      ·
        refine s_bipush C dX11_into_100 (-2) (by decide) (fun z19 h20 => ?_)
        refine a_goto C dX11_into_102 (tgt := 107) rfl ?_
        exact a_iret Rt dX11_into_107 rfl (⟨hGq88, hoq88⟩)
  have j87 : ∀ (σq87 : HS), GIc σq87 → ony [17, 18, 19, 20, 21] σ σq87 → -1 ≤ x2.toInt → AW ids ad ca Γ 87 [some (.ref (ad 0)), none, some (.int x2), none, none, none] [] σq87 := by
    intro σq87 hGq87 hoq87 hx87_0
    refine s_iconst C dX11_into_87 (0) (by decide) (fun z21 h22 => ?_)
    exact j88 _ z21 hGq87 hoq87 (by omega) (by omega)
  refine a_aload_n C dX11_into_0 (i := 0) rfl rfl ?_
  refine a_get C fl_RX11_82 (i := 0) kd_0 (hid 0 (by decide)) (v := .ref (ad 43)) (congrArg (fun z => some (Value.ref (ad z))) htx0) dX11_into_1 ?_
  refine a_iload_n C dX11_into_4 (i := 1) rfl rfl ?_
  refine a_callVi C (i := 43) kd_43 (hid 43 (by decide)) ⟨_, _, rfl⟩ (by decide) (S_X10_hasPattern_43 (x1 := x1) hid hG) mi_X10_hasPattern ml_RX11_143 rfl rfl (Nat.le_of_ble_eq_true rfl) (Nat.le_of_ble_eq_true rfl) (Nat.le_of_ble_eq_true rfl) dX11_into_5 (fun z23 σ24 q25 => ?_)
  obtain ⟨w26, w27, w28⟩ := q25
  rw [w26]
  refine s_if_eq C dX11_into_8 (tgt := 16) rfl (fun c29 => ?_) (fun c29 => ?_)
  ·
    refine s_iconst C dX11_into_16 (-1) (by decide) (fun z30 h31 => ?_)
    exact a_iret Rt dX11_into_17 rfl (⟨hG, ony.rf⟩)
  ·
    refine a_iload_n C dX11_into_11 (i := 2) rfl rfl ?_
    refine s_iconst C dX11_into_12 (-1) (by decide) (fun z32 h33 => ?_)
    refine s_ic_ge C dX11_into_13 (tgt := 18) rfl (fun c34 => ?_) (fun c34 => ?_)
    ·
      refine a_aload_n C dX11_into_18 (i := 0) rfl rfl ?_
      refine a_get C fl_RX11_82 (i := 0) kd_0 (hid 0 (by decide)) (v := .ref (ad 43)) (congrArg (fun z => some (Value.ref (ad z))) htx0) dX11_into_19 ?_
      refine a_get C fl_RX11_149 (i := 43) kd_43 (hid 43 (by decide)) (v := .ref (ad 47)) rfl dX11_into_22 ?_
      refine a_iload_n C dX11_into_25 (i := 1) rfl rfl ?_
      refine s_aaldH C (i := 47) kd_47 (hid 47 (by decide)) al_47 (by omega) (by omega) dX11_into_26 (fun n35 h36 h37 => ?_)
      refine a_astore_n C dX11_into_27 (i := 3) rfl (by decide) rfl (vs1 := [some (.ref (ad 0)), some (.int x1), some (.int x2), some (.ref (ad (47 + 1 + n35))), none, none]) rfl ?_
      refine a_aload_n C dX11_into_28 (i := 0) rfl rfl ?_
      refine a_get C fl_RX11_82 (i := 0) kd_0 (hid 0 (by decide)) (v := .ref (ad 43)) (congrArg (fun z => some (Value.ref (ad z))) htx0) dX11_into_29 ?_
      refine a_get C fl_RX11_146 (i := 43) kd_43 (hid 43 (by decide)) (v := .ref (ad 53)) rfl dX11_into_32 ?_
      refine a_iload_n C dX11_into_35 (i := 1) rfl rfl ?_
      refine s_iald C (i := 53) kd_53 (hid 53 (by decide)) al_53 (by omega) (by omega) dX11_into_36 (fun n38 h39 => ?_)
      refine s_val (fun z40 e41 => ?_)
      have g42 := bA_53 hG n38
      rw [e41] at g42
      refine a_istore C dX11_into_37 (by decide) rfl (vs1 := [some (.ref (ad 0)), some (.int x1), some (.int x2), some (.ref (ad (47 + 1 + n35))), some (.int z40), none]) rfl ?_
      refine a_aload_n C dX11_into_39 (i := 3) rfl rfl ?_
      refine a_iload C dX11_into_40 rfl ?_
      refine a_callSi C (S_X3_close_H8 (x2 := z40) (ar1 := (47 + 1 + n35)) hid hG (by omega) (kdH_47 n35 h37).1 (hid _ (kdH_47 n35 h37).2.2) (kdH_47 n35 h37).2.1 (bH_47 hG h37)) ms_X3_close ml_RX11_243 rfl rfl (Nat.le_of_ble_eq_true rfl) (Nat.le_of_ble_eq_true rfl) (Nat.le_of_ble_eq_true rfl) dX11_into_42 (fun z43 σ44 q45 => ?_)
      obtain ⟨w46, w47⟩ := q45
      rw [w46]
      refine s_if_ne C dX11_into_45 (tgt := 50) rfl (fun c48 => ?_) (fun c48 => ?_)
      ·
        refine a_aload_n C dX11_into_50 (i := 0) rfl rfl ?_
        refine a_get C fl_RX11_54 (i := 0) kd_0 (hid 0 (by decide)) (v := .ref (ad 56)) rfl dX11_into_51 ?_
        refine a_callVi C (i := 56) kd_56 (hid 56 (by decide)) ⟨_, _, rfl⟩ (by decide) (S_X0_twoLandAlike_56 hid hG) mi_X0_twoLandAlike ml_RX11_295 rfl rfl (Nat.le_of_ble_eq_true rfl) (Nat.le_of_ble_eq_true rfl) (Nat.le_of_ble_eq_true rfl) dX11_into_54 (fun z49 σ50 q51 => ?_)
        obtain ⟨w52, w53⟩ := q51
        rw [w52]
        refine s_if_ne C dX11_into_57 (tgt := 87) rfl (fun c54 => ?_) (fun c54 => ?_)
        ·
          refine AW.sub (vs' := [some (.ref (ad 0)), none, some (.int x2), none, none, none]) (lsub_of (by simp [lsubB])) ?_
          exact j87 _ hG ony.rf (by omega)
        ·
          refine a_aload_n C dX11_into_60 (i := 0) rfl rfl ?_
          refine a_get C fl_RX11_40 (i := 0) kd_0 (hid 0 (by decide)) (v := .ref (ad 17)) rfl dX11_into_61 ?_
          refine a_aload_n C dX11_into_64 (i := 0) rfl rfl ?_
          refine a_get C fl_RX11_54 (i := 0) kd_0 (hid 0 (by decide)) (v := .ref (ad 56)) rfl dX11_into_65 ?_
          refine a_callVi C (i := 56) kd_56 (hid 56 (by decide)) ⟨_, _, rfl⟩ (by decide) (S_X0_landingBits_56 hid hG) mi_X0_landingBits ml_RX11_276 rfl rfl (Nat.le_of_ble_eq_true rfl) (Nat.le_of_ble_eq_true rfl) (Nat.le_of_ble_eq_true rfl) dX11_into_68 (fun z55 σ56 q57 => ?_)
          rw [q57]
          refine a_aload_n C dX11_into_71 (i := 3) rfl rfl ?_
          refine a_iload C dX11_into_72 rfl ?_
          refine a_callSi C (S_X3_landingBits_H8 (x2 := z40) (ar1 := (47 + 1 + n35)) hid hG (by omega) (kdH_47 n35 h37).1 (hid _ (kdH_47 n35 h37).2.2) (kdH_47 n35 h37).2.1 (bH_47 hG h37)) ms_X3_landingBits ml_RX11_299 rfl rfl (Nat.le_of_ble_eq_true rfl) (Nat.le_of_ble_eq_true rfl) (Nat.le_of_ble_eq_true rfl) dX11_into_74 (fun z58 σ59 q60 => ?_)
          rw [q60]
          refine a_callVi C (i := 17) kd_17 (hid 17 (by decide)) ⟨_, _, rfl⟩ (by decide) (S_X7_find_17 (x1 := z55) (x2 := z58) hid hG) mi_X7_find ml_RX11_301 rfl rfl (Nat.le_of_ble_eq_true rfl) (Nat.le_of_ble_eq_true rfl) (Nat.le_of_ble_eq_true rfl) dX11_into_77 (fun z61 σ62 q63 => ?_)
          obtain ⟨hG64, ho65, w67⟩ := q63
          refine s_if_eq C dX11_into_80 (tgt := 87) rfl (fun c68 => ?_) (fun c68 => ?_)
          ·
            refine AW.sub (vs' := [some (.ref (ad 0)), none, some (.int x2), none, none, none]) (lsub_of (by simp [lsubB])) ?_
            exact j87 _ hG64 (ony.tr ony.rf (ony.mono ho65 (by decide))) (by omega)
          ·
            refine s_iconst C dX11_into_83 (1) (by decide) (fun z69 h70 => ?_)
            refine a_goto C dX11_into_84 (tgt := 88) rfl ?_
            refine AW.sub (vs' := [some (.ref (ad 0)), none, some (.int x2), none, none, none]) (lsub_of (by simp [lsubB])) ?_
            exact j88 _ z69 hG64 (ony.tr ony.rf (ony.mono ho65 (by decide))) (by omega) (by omega)
      ·
        refine s_iconst C dX11_into_48 (-1) (by decide) (fun z71 h72 => ?_)
        exact a_iret Rt dX11_into_49 rfl (⟨hG, ony.rf⟩)
    ·
      refine s_iconst C dX11_into_16 (-1) (by decide) (fun z73 h74 => ?_)
      exact a_iret Rt dX11_into_17 rfl (⟨hG, ony.rf⟩)
