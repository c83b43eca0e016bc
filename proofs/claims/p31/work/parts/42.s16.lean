theorem dX11_busiest_54 : decode cX11_busiest 54 = .ok (.aload_n 0, 1) := by decide +kernel
theorem dX11_busiest_55 : decode cX11_busiest 55 = .ok (.getfield 73, 3) := by decide +kernel
theorem dX11_busiest_58 : decode cX11_busiest 58 = .ok (.aload_n 0, 1) := by decide +kernel
theorem dX11_busiest_59 : decode cX11_busiest 59 = .ok (.getfield 69, 3) := by decide +kernel
theorem dX11_busiest_62 : decode cX11_busiest 62 = .ok (.iload_n 3, 1) := by decide +kernel
theorem dX11_busiest_63 : decode cX11_busiest 63 = .ok (.iaload, 1) := by decide +kernel
theorem dX11_busiest_64 : decode cX11_busiest 64 = .ok (.dup2, 1) := by decide +kernel
theorem dX11_busiest_65 : decode cX11_busiest 65 = .ok (.iaload, 1) := by decide +kernel
theorem dX11_busiest_66 : decode cX11_busiest 66 = .ok (.iconst 1, 1) := by decide +kernel
theorem dX11_busiest_67 : decode cX11_busiest 67 = .ok (.iadd, 1) := by decide +kernel
theorem dX11_busiest_68 : decode cX11_busiest 68 = .ok (.iastore, 1) := by decide +kernel
theorem dX11_busiest_103 : decode cX11_busiest 103 = .ok (.iload 4, 2) := by decide +kernel
theorem dX11_busiest_105 : decode cX11_busiest 105 = .ok (.istore_n 3, 1) := by decide +kernel
theorem dX11_busiest_124 : decode cX11_busiest 124 = .ok (.iload_n 2, 1) := by decide +kernel
theorem dX11_busiest_125 : decode cX11_busiest 125 = .ok (.ifCond .ne 7, 3) := by decide +kernel
theorem dX11_busiest_128 : decode cX11_busiest 128 = .ok (.iload_n 3, 1) := by decide +kernel
theorem dX11_busiest_129 : decode cX11_busiest 129 = .ok (.goto 9, 3) := by decide +kernel
theorem dX11_busiest_132 : decode cX11_busiest 132 = .ok (.aload_n 0, 1) := by decide +kernel
theorem dX11_busiest_133 : decode cX11_busiest 133 = .ok (.getfield 73, 3) := by decide +kernel
theorem dX11_busiest_136 : decode cX11_busiest 136 = .ok (.iload_n 3, 1) := by decide +kernel
theorem dX11_busiest_137 : decode cX11_busiest 137 = .ok (.iaload, 1) := by decide +kernel
theorem dX11_busiest_138 : decode cX11_busiest 138 = .ok (.ireturn, 1) := by decide +kernel
set_option maxHeartbeats 4000000 in
set_option maxRecDepth 100000 in
theorem S_X11_busiest_0_t30 {l : Launch} {D : va_G} {ids : List Nat} {ad : Nat → Nat} {ca : Nat → ClassId} {σ : HS} {x1 : Int32} {x2 : Int32} (hid : ∀ i, i < 277 → i ∈ ids) (hG : GIc σ) (htx0 : σ.2.2 0 = 30) (htx1 : σ.2.2 1 = 43) : Ki l D ids ad ca yX11_busiest cX11_busiest 5 .int 7 168 [.ref (ad 0), .int x1, .int x2] σ (fun r σ1 => (GIc σ1) ∧ (ony [9, 10, 11, 27, 28, 60, 61, 62, 63] σ σ1)) := by
  refine Ki.of (by decide) (Nat.le_of_ble_eq_true rfl) 2 (fun Γ C Rt => ?_)
  show AW ids ad ca Γ 0 [some (.ref (ad 0)), some (.int x1), some (.int x2), none, none] [] σ
  have j80 : ∀ (d80 : Nat) (σq80 : HS) (y80_3 : Int32) (y80_4 : Int32), 7 - y80_4.toInt < d80 → GIc σq80 → ony [9, 10, 11, 27, 28, 60, 61, 62, 63] σ σq80 → 0 ≤ y80_3.toInt ∧ y80_3.toInt ≤ 6 → 1 ≤ y80_4.toInt ∧ y80_4.toInt ≤ 7 → 0 ≤ x2.toInt ∧ x2.toInt ≤ 1 → AW ids ad ca Γ 80 [some (.ref (ad 0)), none, some (.int x2), some (.int y80_3), some (.int y80_4)] [] σq80 := by
    intro d80
    induction d80 with
    | zero =>
      intro σq80 y80_3 y80_4 hd80 hGq80 hoq80 hx80_0 hx80_1 hx80_2
      exfalso
      omega
    | succ d80 ih80 =>
      intro σq80 y80_3 y80_4 hd80 hGq80 hoq80 hx80_0 hx80_1 hx80_2
      have j106 : ∀ (σq106 : HS) (y106_3 : Int32), GIc σq106 → ony [9, 10, 11, 27, 28, 60, 61, 62, 63] σ σq106 → 0 ≤ y106_3.toInt ∧ y106_3.toInt ≤ 6 → 1 ≤ y80_4.toInt ∧ y80_4.toInt ≤ 6 → AW ids ad ca Γ 106 [some (.ref (ad 0)), none, some (.int x2), some (.int y106_3), some (.int y80_4)] [] σq106 := by
        intro σq106 y106_3 hGq106 hoq106 hx106_0 hx106_1
        refine s_iinc C dX11_busiest_106 rfl (1) (by decide) (by omega) (by decide) rfl (fun z1 h2 => ?_)
        show AW ids ad ca Γ 109 [some (.ref (ad 0)), none, some (.int x2), some (.int y106_3), some (.int z1)] _ _
        refine a_goto C dX11_busiest_109 (tgt := 80) rfl ?_
        exact ih80 _ y106_3 z1 (by omega) hGq106 hoq106 (by omega) (by omega) (by omega)
      refine a_iload C dX11_busiest_80 rfl ?_
      refine s_bipush C dX11_busiest_82 (7) (by decide) (fun z3 h4 => ?_)
      refine s_ic_ge C dX11_busiest_84 (tgt := 112) rfl (fun c5 => ?_) (fun c5 => ?_)
      ·
        refine a_aload_n C dX11_busiest_112 (i := 0) rfl rfl ?_
        refine a_get C fl_RX11_73 (i := 0) kd_0 (hid 0 (by decide)) (v := .ref (ad 28)) rfl dX11_busiest_113 ?_
        refine a_iload_n C dX11_busiest_116 (i := 3) rfl rfl ?_
        refine s_iald C (i := 28) kd_28 (hid 28 (by decide)) al_28 (by omega) (by omega) dX11_busiest_117 (fun n6 h7 => ?_)
        refine s_val (fun z8 e9 => ?_)
        refine s_if_ne C dX11_busiest_118 (tgt := 124) rfl (fun c10 => ?_) (fun c10 => ?_)
        ·
          refine a_iload_n C dX11_busiest_124 (i := 2) rfl rfl ?_
          refine s_if_ne C dX11_busiest_125 (tgt := 132) rfl (fun c11 => ?_) (fun c11 => ?_)
          ·
            refine a_aload_n C dX11_busiest_132 (i := 0) rfl rfl ?_
            refine a_get C fl_RX11_73 (i := 0) kd_0 (hid 0 (by decide)) (v := .ref (ad 28)) rfl dX11_busiest_133 ?_
            refine a_iload_n C dX11_busiest_136 (i := 3) rfl rfl ?_
            refine s_iald C (i := 28) kd_28 (hid 28 (by decide)) al_28 (by omega) (by omega) dX11_busiest_137 (fun n12 h13 => ?_)
            refine s_val (fun z14 e15 => ?_)
            have g16 : z14.toInt = z8.toInt := congrArg Int32.toInt (e15.symm.trans ((congrArg (σq80.1 28) (show n12 = n6 by omega)).trans e9))
            exact a_iret Rt dX11_busiest_138 rfl (⟨hGq80, hoq80⟩)
          ·
            refine a_iload_n C dX11_busiest_128 (i := 3) rfl rfl ?_
            refine a_goto C dX11_busiest_129 (tgt := 138) rfl ?_
            exact a_iret Rt dX11_busiest_138 rfl (⟨hGq80, hoq80⟩)
        ·
          refine s_bipush C dX11_busiest_121 (-2) (by decide) (fun z17 h18 => ?_)
          exact a_iret Rt dX11_busiest_123 rfl (⟨hGq80, hoq80⟩)
      ·
        refine a_aload_n C dX11_busiest_87 (i := 0) rfl rfl ?_
        refine a_get C fl_RX11_73 (i := 0) kd_0 (hid 0 (by decide)) (v := .ref (ad 28)) rfl dX11_busiest_88 ?_
        refine a_iload C dX11_busiest_91 rfl ?_
        refine s_iald C (i := 28) kd_28 (hid 28 (by decide)) al_28 (by omega) (by omega) dX11_busiest_93 (fun n19 h20 => ?_)
        refine s_val (fun z21 e22 => ?_)
        refine a_aload_n C dX11_busiest_94 (i := 0) rfl rfl ?_
        refine a_get C fl_RX11_73 (i := 0) kd_0 (hid 0 (by decide)) (v := .ref (ad 28)) rfl dX11_busiest_95 ?_
        refine a_iload_n C dX11_busiest_98 (i := 3) rfl rfl ?_
        refine s_iald C (i := 28) kd_28 (hid 28 (by decide)) al_28 (by omega) (by omega) dX11_busiest_99 (fun n23 h24 => ?_)
        refine s_val (fun z25 e26 => ?_)
        refine s_ic_le C dX11_busiest_100 (tgt := 106) rfl (fun c27 => ?_) (fun c27 => ?_)
        ·
          exact j106 _ y80_3 hGq80 hoq80 (by omega) (by omega)
        ·
          refine a_iload C dX11_busiest_103 rfl ?_
          refine a_istore_n C dX11_busiest_105 (i := 3) rfl (by decide) rfl (vs1 := [some (.ref (ad 0)), none, some (.int x2), some (.int y80_4), some (.int y80_4)]) rfl ?_
          exact j106 _ y80_4 hGq80 hoq80 (by omega) (by omega)
  have j33 : ∀ (d33 : Nat) (σq33 : HS) (y33_3 : Int32), 60 - y33_3.toInt < d33 → GIc σq33 → ony [9, 10, 11, 27, 28, 60, 61, 62, 63] σ σq33 → 0 ≤ y33_3.toInt ∧ y33_3.toInt ≤ 60 → 1 ≤ x1.toInt ∧ x1.toInt ≤ 60 → 0 ≤ x2.toInt ∧ x2.toInt ≤ 1 → AW ids ad ca Γ 33 [some (.ref (ad 0)), some (.int x1), some (.int x2), some (.int y33_3), none] [] σq33 := by
    intro d33
    induction d33 with
    | zero =>
      intro σq33 y33_3 hd33 hGq33 hoq33 hx33_0 hx33_1 hx33_2
      exfalso
      omega
    | succ d33 ih33 =>
      intro σq33 y33_3 hd33 hGq33 hoq33 hx33_0 hx33_1 hx33_2
      have j69 : ∀ (σq69 : HS), GIc σq69 → ony [9, 10, 11, 27, 28, 60, 61, 62, 63] σ σq69 → 0 ≤ y33_3.toInt ∧ y33_3.toInt ≤ 59 → AW ids ad ca Γ 69 [some (.ref (ad 0)), some (.int x1), some (.int x2), some (.int y33_3), none] [] σq69 := by
        intro σq69 hGq69 hoq69 hx69_0
        refine s_iinc C dX11_busiest_69 rfl (1) (by decide) (by omega) (by decide) rfl (fun z28 h29 => ?_)
        show AW ids ad ca Γ 72 [some (.ref (ad 0)), some (.int x1), some (.int x2), some (.int z28), none] _ _
        refine a_goto C dX11_busiest_72 (tgt := 33) rfl ?_
        exact ih33 _ z28 (by omega) hGq69 hoq69 (by omega) (by omega) (by omega)
      refine a_iload_n C dX11_busiest_33 (i := 3) rfl rfl ?_
      refine a_iload_n C dX11_busiest_34 (i := 1) rfl rfl ?_
      refine s_ic_ge C dX11_busiest_35 (tgt := 75) rfl (fun c30 => ?_) (fun c30 => ?_)
      ·
        refine s_iconst C dX11_busiest_75 (0) (by decide) (fun z31 h32 => ?_)
        refine a_istore_n C dX11_busiest_76 (i := 3) rfl (by decide) rfl (vs1 := [some (.ref (ad 0)), some (.int x1), some (.int x2), some (.int z31), none]) rfl ?_
        refine s_iconst C dX11_busiest_77 (1) (by decide) (fun z33 h34 => ?_)
        refine a_istore C dX11_busiest_78 (by decide) rfl (vs1 := [some (.ref (ad 0)), some (.int x1), some (.int x2), some (.int z31), some (.int z33)]) rfl ?_
        refine AW.sub (vs' := [some (.ref (ad 0)), none, some (.int x2), some (.int z31), some (.int z33)]) (lsub_of (by simp [lsubB])) ?_
        exact j80 100000 _ z31 z33 (by omega) hGq33 hoq33 (by omega) (by omega) (by omega)
      ·
        refine a_aload_n C dX11_busiest_38 (i := 0) rfl rfl ?_
        refine a_get C fl_RX11_82 (i := 0) kd_0 (hid 0 (by decide)) (v := .ref (ad 30)) (congrArg (fun z => some (Value.ref (ad z))) ((congrFun hoq33.2 0).trans htx0)) dX11_busiest_39 ?_
        refine a_aload_n C dX11_busiest_42 (i := 0) rfl rfl ?_
        refine a_get C fl_RX11_69 (i := 0) kd_0 (hid 0 (by decide)) (v := .ref (ad 27)) rfl dX11_busiest_43 ?_
        refine a_iload_n C dX11_busiest_46 (i := 3) rfl rfl ?_
        refine s_iald C (i := 27) kd_27 (hid 27 (by decide)) al_27 (by omega) (by omega) dX11_busiest_47 (fun n35 h36 => ?_)
        refine s_val (fun z37 e38 => ?_)
        refine a_callVi C (i := 30) kd_30 (hid 30 (by decide)) ⟨_, _, rfl⟩ (by decide) (S_X10_hasThing_30 (x1 := z37) hid hGq33) mi_X10_hasThing ml_RX11_121 rfl rfl (Nat.le_of_ble_eq_true rfl) (Nat.le_of_ble_eq_true rfl) (Nat.le_of_ble_eq_true rfl) dX11_busiest_48 (fun z39 σ40 q41 => ?_)
        obtain ⟨w42, w43, w44⟩ := q41
        rw [w42]
        refine s_if_eq C dX11_busiest_51 (tgt := 69) rfl (fun c45 => ?_) (fun c45 => ?_)
        ·
          exact j69 _ hGq33 hoq33 (by omega)
        ·
          refine a_aload_n C dX11_busiest_54 (i := 0) rfl rfl ?_
          refine a_get C fl_RX11_73 (i := 0) kd_0 (hid 0 (by decide)) (v := .ref (ad 28)) rfl dX11_busiest_55 ?_
          refine a_aload_n C dX11_busiest_58 (i := 0) rfl rfl ?_
          refine a_get C fl_RX11_69 (i := 0) kd_0 (hid 0 (by decide)) (v := .ref (ad 27)) rfl dX11_busiest_59 ?_
          refine a_iload_n C dX11_busiest_62 (i := 3) rfl rfl ?_
          refine s_iald C (i := 27) kd_27 (hid 27 (by decide)) al_27 (by omega) (by omega) dX11_busiest_63 (fun n46 h47 => ?_)
          refine s_val (fun z48 e49 => ?_)
          have g50 : z48.toInt = z37.toInt := congrArg Int32.toInt (e49.symm.trans ((congrArg (σq33.1 27) (show n46 = n35 by omega)).trans e38))
          refine a_dup2 C dX11_busiest_64 rfl rfl ?_
          refine s_iald C (i := 28) kd_28 (hid 28 (by decide)) al_28 (by omega) (by omega) dX11_busiest_65 (fun n51 h52 => ?_)
          refine s_val (fun z53 e54 => ?_)
          refine s_iconst C dX11_busiest_66 (1) (by decide) (fun z55 h56 => ?_)
          refine s_iaddU C dX11_busiest_67 (fun z57 => ?_)
          refine s_iast C (i := 28) kd_28 (hid 28 (by decide)) al_28 (by omega) (by omega) dX11_busiest_68 (fun n59 h60 => ?_)
          have hG61 := wA_28 (v := z57) (j := n59) hGq33
          exact j69 _ hG61 (ony.I hoq33 (by decide)) (by omega)
  refine a_iload_n C dX11_busiest_0 (i := 1) rfl rfl ?_
  refine a_callSi C (S_X11_isSpan (x1 := x1) hid hG) ms_X11_isSpan ml_RX11_307 rfl rfl (Nat.le_of_ble_eq_true rfl) (Nat.le_of_ble_eq_true rfl) (Nat.le_of_ble_eq_true rfl) dX11_busiest_1 (fun z62 σ63 q64 => ?_)
  obtain ⟨w65, w66, w67⟩ := q64
  rw [w65]
  refine s_if_eq C dX11_busiest_4 (tgt := 16) rfl (fun c68 => ?_) (fun c68 => ?_)
  ·
    refine s_iconst C dX11_busiest_16 (-1) (by decide) (fun z69 h70 => ?_)
    exact a_iret Rt dX11_busiest_17 rfl (⟨hG, ony.rf⟩)
  ·
    refine a_iload_n C dX11_busiest_7 (i := 2) rfl rfl ?_
    refine s_if_lt C dX11_busiest_8 (tgt := 16) rfl (fun c71 => ?_) (fun c71 => ?_)
    ·
      refine s_iconst C dX11_busiest_16 (-1) (by decide) (fun z72 h73 => ?_)
      exact a_iret Rt dX11_busiest_17 rfl (⟨hG, ony.rf⟩)
    ·
      refine a_iload_n C dX11_busiest_11 (i := 2) rfl rfl ?_
      refine s_iconst C dX11_busiest_12 (1) (by decide) (fun z74 h75 => ?_)
      refine s_ic_le C dX11_busiest_13 (tgt := 18) rfl (fun c76 => ?_) (fun c76 => ?_)
      ·
        refine a_aload_n C dX11_busiest_18 (i := 0) rfl rfl ?_
        refine a_iload_n C dX11_busiest_19 (i := 1) rfl rfl ?_
        refine a_callVv C (i := 0) kd_0 (hid 0 (by decide)) ⟨_, _, rfl⟩ (by decide) (S_X11_findHands_0_t30 (x1 := x1) hid hG htx0 htx1 (by omega)) mi_X11_findHands ml_RX11_279 rfl rfl (Nat.le_of_ble_eq_true rfl) (Nat.le_of_ble_eq_true rfl) (Nat.le_of_ble_eq_true rfl) dX11_busiest_20 (fun σ78 q79 => ?_)
        obtain ⟨hG80, ho81⟩ := q79
        refine a_aload_n C dX11_busiest_23 (i := 0) rfl rfl ?_
        refine a_get C fl_RX11_73 (i := 0) kd_0 (hid 0 (by decide)) (v := .ref (ad 28)) rfl dX11_busiest_24 ?_
        refine s_iconst C dX11_busiest_27 (0) (by decide) (fun z83 h84 => ?_)
        refine a_callSv C (S_J7_fill_53178_28 (x2 := z83) hid hG80) ms_J7_fill_53178 ml_RX11_310 rfl rfl (Nat.le_of_ble_eq_true rfl) (Nat.le_of_ble_eq_true rfl) (Nat.le_of_ble_eq_true rfl) dX11_busiest_28 (fun σ86 q87 => ?_)
        obtain ⟨hG88, ho89⟩ := q87
        refine s_iconst C dX11_busiest_31 (0) (by decide) (fun z91 h92 => ?_)
        refine a_istore_n C dX11_busiest_32 (i := 3) rfl (by decide) rfl (vs1 := [some (.ref (ad 0)), some (.int x1), some (.int x2), some (.int z91), none]) rfl ?_
        exact j33 100000 _ z91 (by omega) hG88 (ony.tr (ony.tr ony.rf (ony.mono ho81 (by decide))) (ony.mono ho89 (by decide))) (by omega) (by omega) (by omega)
      ·
        refine s_iconst C dX11_busiest_16 (-1) (by decide) (fun z93 h94 => ?_)
        exact a_iret Rt dX11_busiest_17 rfl (⟨hG, ony.rf⟩)
theorem dX11_load_39 : decode cX11_load 39 = .ok (.iload_n 2, 1) := by decide +kernel
theorem dX11_load_40 : decode cX11_load 40 = .ok (.aload_n 0, 1) := by decide +kernel
theorem dX11_load_41 : decode cX11_load 41 = .ok (.getfield 82, 3) := by decide +kernel
theorem dX11_load_44 : decode cX11_load 44 = .ok (.getfield 125, 3) := by decide +kernel
theorem dX11_load_47 : decode cX11_load 47 = .ok (.aload_n 0, 1) := by decide +kernel
theorem dX11_load_48 : decode cX11_load 48 = .ok (.getfield 69, 3) := by decide +kernel
theorem dX11_load_51 : decode cX11_load 51 = .ok (.iload_n 3, 1) := by decide +kernel
theorem dX11_load_52 : decode cX11_load 52 = .ok (.iaload, 1) := by decide +kernel
theorem dX11_load_53 : decode cX11_load 53 = .ok (.iaload, 1) := by decide +kernel
theorem dX11_load_54 : decode cX11_load 54 = .ok (.iadd, 1) := by decide +kernel
theorem dX11_load_55 : decode cX11_load 55 = .ok (.istore_n 2, 1) := by decide +kernel
set_option maxHeartbeats 4000000 in
set_option maxRecDepth 100000 in
theorem S_X11_load_0_t30 {l : Launch} {D : va_G} {ids : List Nat} {ad : Nat → Nat} {ca : Nat → ClassId} {σ : HS} {x1 : Int32} (hid : ∀ i, i < 277 → i ∈ ids) (hG : GIc σ) (htx0 : σ.2.2 0 = 30) (htx1 : σ.2.2 1 = 43) : Ki l D ids ad ca yX11_load cX11_load 4 .int 7 168 [.ref (ad 0), .int x1] σ (fun r σ1 => (GIc σ1) ∧ (ony [9, 10, 11, 27, 60, 61, 62, 63] σ σ1)) := by
  refine Ki.of (by decide) (Nat.le_of_ble_eq_true rfl) 2 (fun Γ C Rt => ?_)
  show AW ids ad ca Γ 0 [some (.ref (ad 0)), some (.int x1), none, none] [] σ
  have j18 : ∀ (d18 : Nat) (σq18 : HS) (y18_2 : Int32) (y18_3 : Int32), 60 - y18_3.toInt < d18 → GIc σq18 → ony [9, 10, 11, 27, 60, 61, 62, 63] σ σq18 → 0 ≤ y18_3.toInt ∧ y18_3.toInt ≤ 60 → 1 ≤ x1.toInt ∧ x1.toInt ≤ 60 → AW ids ad ca Γ 18 [some (.ref (ad 0)), some (.int x1), some (.int y18_2), some (.int y18_3)] [] σq18 := by
    intro d18
    induction d18 with
    | zero =>
      intro σq18 y18_2 y18_3 hd18 hGq18 hoq18 hx18_0 hx18_1
      exfalso
      omega
    | succ d18 ih18 =>
      intro σq18 y18_2 y18_3 hd18 hGq18 hoq18 hx18_0 hx18_1
      have j56 : ∀ (σq56 : HS) (y56_2 : Int32), GIc σq56 → ony [9, 10, 11, 27, 60, 61, 62, 63] σ σq56 → 0 ≤ y18_3.toInt ∧ y18_3.toInt ≤ 59 → AW ids ad ca Γ 56 [some (.ref (ad 0)), some (.int x1), some (.int y56_2), some (.int y18_3)] [] σq56 := by
        intro σq56 y56_2 hGq56 hoq56 hx56_0
        refine s_iinc C dX11_load_56 rfl (1) (by decide) (by omega) (by decide) rfl (fun z1 h2 => ?_)
        show AW ids ad ca Γ 59 [some (.ref (ad 0)), some (.int x1), some (.int y56_2), some (.int z1)] _ _
        refine a_goto C dX11_load_59 (tgt := 18) rfl ?_
        exact ih18 _ y56_2 z1 (by omega) hGq56 hoq56 (by omega) (by omega)
      refine a_iload_n C dX11_load_18 (i := 3) rfl rfl ?_
      refine a_iload_n C dX11_load_19 (i := 1) rfl rfl ?_
      refine s_ic_ge C dX11_load_20 (tgt := 62) rfl (fun c3 => ?_) (fun c3 => ?_)
      ·
        refine a_iload_n C dX11_load_62 (i := 2) rfl rfl ?_
        exact a_iret Rt dX11_load_63 rfl (⟨hGq18, hoq18⟩)
      ·
        refine a_aload_n C dX11_load_23 (i := 0) rfl rfl ?_
        refine a_get C fl_RX11_82 (i := 0) kd_0 (hid 0 (by decide)) (v := .ref (ad 30)) (congrArg (fun z => some (Value.ref (ad z))) ((congrFun hoq18.2 0).trans htx0)) dX11_load_24 ?_
        refine a_aload_n C dX11_load_27 (i := 0) rfl rfl ?_
        refine a_get C fl_RX11_69 (i := 0) kd_0 (hid 0 (by decide)) (v := .ref (ad 27)) rfl dX11_load_28 ?_
        refine a_iload_n C dX11_load_31 (i := 3) rfl rfl ?_
        refine s_iald C (i := 27) kd_27 (hid 27 (by decide)) al_27 (by omega) (by omega) dX11_load_32 (fun n4 h5 => ?_)
        refine s_val (fun z6 e7 => ?_)
        refine a_callVi C (i := 30) kd_30 (hid 30 (by decide)) ⟨_, _, rfl⟩ (by decide) (S_X10_hasThing_30 (x1 := z6) hid hGq18) mi_X10_hasThing ml_RX11_121 rfl rfl (Nat.le_of_ble_eq_true rfl) (Nat.le_of_ble_eq_true rfl) (Nat.le_of_ble_eq_true rfl) dX11_load_33 (fun z8 σ9 q10 => ?_)
        obtain ⟨w11, w12, w13⟩ := q10
        rw [w11]
        refine s_if_eq C dX11_load_36 (tgt := 56) rfl (fun c14 => ?_) (fun c14 => ?_)
        ·
          exact j56 _ y18_2 hGq18 hoq18 (by omega)
        ·
          refine a_iload_n C dX11_load_39 (i := 2) rfl rfl ?_
          refine a_aload_n C dX11_load_40 (i := 0) rfl rfl ?_
          refine a_get C fl_RX11_82 (i := 0) kd_0 (hid 0 (by decide)) (v := .ref (ad 30)) (congrArg (fun z => some (Value.ref (ad z))) ((congrFun hoq18.2 0).trans htx0)) dX11_load_41 ?_
          refine a_get C fl_RX11_125 (i := 30) kd_30 (hid 30 (by decide)) (v := .ref (ad 31)) rfl dX11_load_44 ?_
          refine a_aload_n C dX11_load_47 (i := 0) rfl rfl ?_
          refine a_get C fl_RX11_69 (i := 0) kd_0 (hid 0 (by decide)) (v := .ref (ad 27)) rfl dX11_load_48 ?_
          refine a_iload_n C dX11_load_51 (i := 3) rfl rfl ?_
          refine s_iald C (i := 27) kd_27 (hid 27 (by decide)) al_27 (by omega) (by omega) dX11_load_52 (fun n15 h16 => ?_)
          refine s_val (fun z17 e18 => ?_)
          have g19 : z17.toInt = z6.toInt := congrArg Int32.toInt (e18.symm.trans ((congrArg (σq18.1 27) (show n15 = n4 by omega)).trans e7))
          refine s_iald C (i := 31) kd_31 (hid 31 (by decide)) al_31 (by omega) (by omega) dX11_load_53 (fun n20 h21 => ?_)
          refine s_val (fun z22 e23 => ?_)
          refine s_iaddU C dX11_load_54 (fun z24 => ?_)
          refine a_istore_n C dX11_load_55 (i := 2) rfl (by decide) rfl (vs1 := [some (.ref (ad 0)), some (.int x1), some (.int z24), some (.int y18_3)]) rfl ?_
          exact j56 _ z24 hGq18 hoq18 (by omega)
  refine a_iload_n C dX11_load_0 (i := 1) rfl rfl ?_
  refine a_callSi C (S_X11_isSpan (x1 := x1) hid hG) ms_X11_isSpan ml_RX11_307 rfl rfl (Nat.le_of_ble_eq_true rfl) (Nat.le_of_ble_eq_true rfl) (Nat.le_of_ble_eq_true rfl) dX11_load_1 (fun z26 σ27 q28 => ?_)
  obtain ⟨w29, w30, w31⟩ := q28
  rw [w29]
  refine s_if_ne C dX11_load_4 (tgt := 9) rfl (fun c32 => ?_) (fun c32 => ?_)
  ·
    refine a_aload_n C dX11_load_9 (i := 0) rfl rfl ?_
    refine a_iload_n C dX11_load_10 (i := 1) rfl rfl ?_
    refine a_callVv C (i := 0) kd_0 (hid 0 (by decide)) ⟨_, _, rfl⟩ (by decide) (S_X11_findHands_0_t30 (x1 := x1) hid hG htx0 htx1 (by omega)) mi_X11_findHands ml_RX11_279 rfl rfl (Nat.le_of_ble_eq_true rfl) (Nat.le_of_ble_eq_true rfl) (Nat.le_of_ble_eq_true rfl) dX11_load_11 (fun σ34 q35 => ?_)
    obtain ⟨hG36, ho37⟩ := q35
    refine s_iconst C dX11_load_14 (0) (by decide) (fun z39 h40 => ?_)
    refine a_istore_n C dX11_load_15 (i := 2) rfl (by decide) rfl (vs1 := [some (.ref (ad 0)), some (.int x1), some (.int z39), none]) rfl ?_
    refine s_iconst C dX11_load_16 (0) (by decide) (fun z41 h42 => ?_)
    refine a_istore_n C dX11_load_17 (i := 3) rfl (by decide) rfl (vs1 := [some (.ref (ad 0)), some (.int x1), some (.int z39), some (.int z41)]) rfl ?_
    exact j18 100000 _ z39 z41 (by omega) hG36 (ony.tr ony.rf (ony.mono ho37 (by decide))) (by omega) (by omega)
  ·
    refine s_iconst C dX11_load_7 (-1) (by decide) (fun z43 h44 => ?_)
    exact a_iret Rt dX11_load_8 rfl (⟨hG, ony.rf⟩)
set_option maxHeartbeats 4000000 in
set_option maxRecDepth 100000 in
theorem S_X11_rule_0_t30 {l : Launch} {D : va_G} {ids : List Nat} {ad : Nat → Nat} {ca : Nat → ClassId} {σ : HS} {x1 : Int32} (hid : ∀ i, i < 277 → i ∈ ids) (hG : GIc σ) (htx0 : σ.2.2 0 = 30) (htx1 : σ.2.2 1 = 43) : Ki l D ids ad ca yX11_rule cX11_rule 4 .int 6 146 [.ref (ad 0), .int x1] σ (fun r σ1 => (GIc σ1) ∧ (ony [9, 10, 11, 60, 61, 62, 63] σ σ1)) := by
  refine Ki.of (by decide) (Nat.le_of_ble_eq_true rfl) 2 (fun Γ C Rt => ?_)
  show AW ids ad ca Γ 0 [some (.ref (ad 0)), some (.int x1), none, none] [] σ
  have j26 : ∀ (d26 : Nat) (σq26 : HS) (y26_2 : Int32) (y26_3 : Int32), 60 - y26_3.toInt < d26 → GIc σq26 → ony [9, 10, 11, 60, 61, 62, 63] σ σq26 → 0 ≤ y26_3.toInt ∧ y26_3.toInt ≤ 60 → 1 ≤ x1.toInt ∧ x1.toInt ≤ 60 → AW ids ad ca Γ 26 [some (.ref (ad 0)), some (.int x1), some (.int y26_2), some (.int y26_3)] [] σq26 := by
    intro d26
    induction d26 with
    | zero =>
      intro σq26 y26_2 y26_3 hd26 hGq26 hoq26 hx26_0 hx26_1
      exfalso
      omega
    | succ d26 ih26 =>
      intro σq26 y26_2 y26_3 hd26 hGq26 hoq26 hx26_0 hx26_1
      refine a_iload_n C dX11_rule_26 (i := 3) rfl rfl ?_
      refine a_iload_n C dX11_rule_27 (i := 1) rfl rfl ?_
      refine s_ic_ge C dX11_rule_28 (tgt := 70) rfl (fun c1 => ?_) (fun c1 => ?_)
      ·
        refine a_iload_n C dX11_rule_70 (i := 2) rfl rfl ?_
        exact a_iret Rt dX11_rule_71 rfl (⟨hGq26, hoq26⟩)
      ·
        refine a_iload_n C dX11_rule_31 (i := 2) rfl rfl ?_
        refine a_aload_n C dX11_rule_32 (i := 0) rfl rfl ?_
        refine a_get C fl_RX11_19 (i := 0) kd_0 (hid 0 (by decide)) (v := .ref (ad 8)) rfl dX11_rule_33 ?_
        refine a_aload_n C dX11_rule_36 (i := 0) rfl rfl ?_
        refine a_get C fl_RX11_82 (i := 0) kd_0 (hid 0 (by decide)) (v := .ref (ad 30)) (congrArg (fun z => some (Value.ref (ad z))) ((congrFun hoq26.2 0).trans htx0)) dX11_rule_37 ?_
        refine a_aload_n C dX11_rule_40 (i := 0) rfl rfl ?_
        refine a_get C fl_RX11_58 (i := 0) kd_0 (hid 0 (by decide)) (v := .ref (ad 60)) rfl dX11_rule_41 ?_
        refine a_callVi C (i := 8) kd_8 (hid 8 (by decide)) ⟨_, _, rfl⟩ (by decide) (S_X4_inForce_8_30_60 hid hGq26) mi_X4_inForce ml_RX11_317 rfl rfl (Nat.le_of_ble_eq_true rfl) (Nat.le_of_ble_eq_true rfl) (Nat.le_of_ble_eq_true rfl) dX11_rule_44 (fun z2 σ3 q4 => ?_)
        obtain ⟨hG5, ho6⟩ := q4
        refine s_iaddU C dX11_rule_47 (fun z8 => ?_)
        refine a_istore_n C dX11_rule_48 (i := 2) rfl (by decide) rfl (vs1 := [some (.ref (ad 0)), some (.int x1), some (.int z8), some (.int y26_3)]) rfl ?_
        refine a_aload_n C dX11_rule_49 (i := 0) rfl rfl ?_
        refine a_get C fl_RX11_19 (i := 0) kd_0 (hid 0 (by decide)) (v := .ref (ad 8)) rfl dX11_rule_50 ?_
        refine a_aload_n C dX11_rule_53 (i := 0) rfl rfl ?_
        refine a_get C fl_RX11_82 (i := 0) kd_0 (hid 0 (by decide)) (v := .ref (ad 30)) (congrArg (fun z => some (Value.ref (ad z))) ((congrFun ho6.2 0).trans ((congrFun hoq26.2 0).trans htx0))) dX11_rule_54 ?_
        refine a_aload_n C dX11_rule_57 (i := 0) rfl rfl ?_
        refine a_get C fl_RX11_58 (i := 0) kd_0 (hid 0 (by decide)) (v := .ref (ad 60)) rfl dX11_rule_58 ?_
        refine a_callVv C (i := 8) kd_8 (hid 8 (by decide)) ⟨_, _, rfl⟩ (by decide) (S_X4_goOnSafely_8_30_60 hid hG5) mi_X4_goOnSafely ml_RX11_285 rfl rfl (Nat.le_of_ble_eq_true rfl) (Nat.le_of_ble_eq_true rfl) (Nat.le_of_ble_eq_true rfl) dX11_rule_61 (fun σ11 q12 => ?_)
        obtain ⟨hG13, ho14⟩ := q12
        refine s_iinc C dX11_rule_64 rfl (1) (by decide) (by omega) (by decide) rfl (fun z16 h17 => ?_)
        show AW ids ad ca Γ 67 [some (.ref (ad 0)), some (.int x1), some (.int z8), some (.int z16)] _ _
        refine a_goto C dX11_rule_67 (tgt := 26) rfl ?_
        exact ih26 _ z8 z16 (by omega) hG13 (ony.tr (ony.tr hoq26 (ony.mono ho6 (by decide))) (ony.mono ho14 (by decide))) (by omega) (by omega)
  refine a_iload_n C dX11_rule_0 (i := 1) rfl rfl ?_
  refine a_callSi C (S_X11_isSpan (x1 := x1) hid hG) ms_X11_isSpan ml_RX11_307 rfl rfl (Nat.le_of_ble_eq_true rfl) (Nat.le_of_ble_eq_true rfl) (Nat.le_of_ble_eq_true rfl) dX11_rule_1 (fun z18 σ19 q20 => ?_)
  obtain ⟨w21, w22, w23⟩ := q20
  rw [w21]
  refine s_if_ne C dX11_rule_4 (tgt := 11) rfl (fun c24 => ?_) (fun c24 => ?_)
  ·
    refine a_aload_n C dX11_rule_11 (i := 0) rfl rfl ?_
    refine a_get C fl_RX11_58 (i := 0) kd_0 (hid 0 (by decide)) (v := .ref (ad 60)) rfl dX11_rule_12 ?_
    refine a_aload_n C dX11_rule_15 (i := 0) rfl rfl ?_
    refine a_get C fl_RX11_54 (i := 0) kd_0 (hid 0 (by decide)) (v := .ref (ad 56)) rfl dX11_rule_16 ?_
    refine a_callVv C (i := 60) (n0 := 0) kd_60 (hid 60 (by decide)) ⟨_, _, rfl⟩ (by decide) (S_copy 0 1 rfl rfl (by decide) (by decide) hid hG) mi_X0_copy ml_RX11_230 rfl rfl (Nat.le_of_ble_eq_true rfl) (Nat.le_of_ble_eq_true rfl) (Nat.le_of_ble_eq_true rfl) dX11_rule_19 (fun σ25 q26 => ?_)
    obtain ⟨hG27, ho28⟩ := q26
    refine s_iconst C dX11_rule_22 (0) (by decide) (fun z29 h30 => ?_)
    refine a_istore_n C dX11_rule_23 (i := 2) rfl (by decide) rfl (vs1 := [some (.ref (ad 0)), some (.int x1), some (.int z29), none]) rfl ?_
    refine s_iconst C dX11_rule_24 (0) (by decide) (fun z31 h32 => ?_)
    refine a_istore_n C dX11_rule_25 (i := 3) rfl (by decide) rfl (vs1 := [some (.ref (ad 0)), some (.int x1), some (.int z29), some (.int z31)]) rfl ?_
    exact j26 100000 _ z29 z31 (by omega) hG27 (ony.tr ony.rf (ony.mono ho28 (by decide))) (by omega) (by omega)
  ·
    refine s_ldcw C dX11_rule_7 ko_RX11_316 (-100000) (by decide) (fun z33 h34 => ?_)
    exact a_iret Rt dX11_rule_10 rfl (⟨hG, ony.rf⟩)
theorem dX11_order_37 : decode cX11_order 37 = .ok (.aload_n 0, 1) := by decide +kernel
theorem dX11_order_38 : decode cX11_order 38 = .ok (.getfield 54, 3) := by decide +kernel
theorem dX11_order_41 : decode cX11_order 41 = .ok (.iload 4, 2) := by decide +kernel
theorem dX11_order_43 : decode cX11_order 43 = .ok (.invokevirtual 134, 3) := by decide +kernel
theorem dX11_order_46 : decode cX11_order 46 = .ok (.ifCond .eq 28, 3) := by decide +kernel
theorem dX11_order_49 : decode cX11_order 49 = .ok (.aload_n 0, 1) := by decide +kernel
theorem dX11_order_50 : decode cX11_order 50 = .ok (.getfield 54, 3) := by decide +kernel
theorem dX11_order_53 : decode cX11_order 53 = .ok (.getfield 137, 3) := by decide +kernel
theorem dX11_order_56 : decode cX11_order 56 = .ok (.iload 4, 2) := by decide +kernel
theorem dX11_order_58 : decode cX11_order 58 = .ok (.iaload, 1) := by decide +kernel
theorem dX11_order_59 : decode cX11_order 59 = .ok (.iload_n 3, 1) := by decide +kernel
theorem dX11_order_60 : decode cX11_order 60 = .ok (.if_icmp .ne 14, 3) := by decide +kernel
theorem dX11_order_63 : decode cX11_order 63 = .ok (.iload_n 2, 1) := by decide +kernel
theorem dX11_order_64 : decode cX11_order 64 = .ok (.iload_n 1, 1) := by decide +kernel
theorem dX11_order_65 : decode cX11_order 65 = .ok (.if_icmp .ne 6, 3) := by decide +kernel
theorem dX11_order_68 : decode cX11_order 68 = .ok (.iload 4, 2) := by decide +kernel
theorem dX11_order_70 : decode cX11_order 70 = .ok (.ireturn, 1) := by decide +kernel
theorem dX11_order_71 : decode cX11_order 71 = .ok (.iinc 2 1, 3) := by decide +kernel
theorem dX11_order_74 : decode cX11_order 74 = .ok (.iinc 4 1, 3) := by decide +kernel
theorem dX11_order_77 : decode cX11_order 77 = .ok (.goto (-52), 3) := by decide +kernel
set_option maxHeartbeats 4000000 in
set_option maxRecDepth 100000 in
theorem S_X11_order_0_t30 {l : Launch} {D : va_G} {ids : List Nat} {ad : Nat → Nat} {ca : Nat → ClassId} {σ : HS} {x1 : Int32} (hid : ∀ i, i < 277 → i ∈ ids) (hG : GIc σ) (htx0 : σ.2.2 0 = 30) (htx1 : σ.2.2 1 = 43) : Ki l D ids ad ca yX11_order cX11_order 5 .int 1 21 [.ref (ad 0), .int x1] σ (fun r σ1 => (σ1 = σ)) := by
  refine Ki.of (by decide) (Nat.le_of_ble_eq_true rfl) 3 (fun Γ C Rt => ?_)
  show AW ids ad ca Γ 0 [some (.ref (ad 0)), some (.int x1), none, none, none] [] σ
  have j16 : ∀ (d16 : Nat) (y16_2 : Int32) (y16_3 : Int32), 10 - y16_3.toInt < d16 → 0 ≤ y16_3.toInt ∧ y16_3.toInt ≤ 10 → 0 ≤ x1.toInt ∧ x1.toInt ≤ 6 → AW ids ad ca Γ 16 [some (.ref (ad 0)), some (.int x1), some (.int y16_2), some (.int y16_3), none] [] σ := by
    intro d16
    induction d16 with
    | zero =>
      intro y16_2 y16_3 hd16 hx16_0 hx16_1
      exfalso
      omega
    | succ d16 ih16 =>
      intro y16_2 y16_3 hd16 hx16_0 hx16_1
      have j25 : ∀ (d25 : Nat) (y25_2 : Int32) (y25_4 : Int32), 7 - y25_4.toInt < d25 → 0 ≤ y25_4.toInt ∧ y25_4.toInt ≤ 7 → 0 ≤ y16_3.toInt ∧ y16_3.toInt ≤ 9 → AW ids ad ca Γ 25 [some (.ref (ad 0)), some (.int x1), some (.int y25_2), some (.int y16_3), some (.int y25_4)] [] σ := by
        intro d25
        induction d25 with
        | zero =>
          intro y25_2 y25_4 hd25 hx25_0 hx25_1
          exfalso
          omega
        | succ d25 ih25 =>
          intro y25_2 y25_4 hd25 hx25_0 hx25_1
          have j74 : ∀ (y74_2 : Int32), 0 ≤ y25_4.toInt ∧ y25_4.toInt ≤ 6 → AW ids ad ca Γ 74 [some (.ref (ad 0)), some (.int x1), some (.int y74_2), some (.int y16_3), some (.int y25_4)] [] σ := by
            intro y74_2 hx74_0
            refine s_iinc C dX11_order_74 rfl (1) (by decide) (by omega) (by decide) rfl (fun z1 h2 => ?_)
            show AW ids ad ca Γ 77 [some (.ref (ad 0)), some (.int x1), some (.int y74_2), some (.int y16_3), some (.int z1)] _ _
            refine a_goto C dX11_order_77 (tgt := 25) rfl ?_
            exact ih25 y74_2 z1 (by omega) (by omega) (by omega)
          refine a_iload C dX11_order_25 rfl ?_
          refine a_aload_n C dX11_order_27 (i := 0) rfl rfl ?_
          refine a_get C fl_RX11_54 (i := 0) kd_0 (hid 0 (by decide)) (v := .ref (ad 56)) rfl dX11_order_28 ?_
          have g3 := bF_56_0 hG
          refine a_get C fl_RX11_321 (i := 56) kd_56 (hid 56 (by decide)) (v := .int (σ.1 56 0)) rfl dX11_order_31 ?_
          refine s_ic_ge C dX11_order_34 (tgt := 80) rfl (fun c4 => ?_) (fun c4 => ?_)
          ·
            refine s_iinc C dX11_order_80 rfl (1) (by decide) (by omega) (by decide) rfl (fun z5 h6 => ?_)
            show AW ids ad ca Γ 83 [some (.ref (ad 0)), some (.int x1), some (.int y25_2), some (.int z5), some (.int y25_4)] _ _
            refine a_goto C dX11_order_83 (tgt := 16) rfl ?_
            refine AW.sub (vs' := [some (.ref (ad 0)), some (.int x1), some (.int y25_2), some (.int z5), none]) (lsub_of (by simp [lsubB])) ?_
            exact ih16 y25_2 z5 (by omega) (by omega) (by omega)
          ·
            refine a_aload_n C dX11_order_37 (i := 0) rfl rfl ?_
            refine a_get C fl_RX11_54 (i := 0) kd_0 (hid 0 (by decide)) (v := .ref (ad 56)) rfl dX11_order_38 ?_
            refine a_iload C dX11_order_41 rfl ?_
            refine a_callVi C (i := 56) kd_56 (hid 56 (by decide)) ⟨_, _, rfl⟩ (by decide) (S_X0_isUp_56 (x1 := y25_4) hid hG (by omega)) mi_X0_isUp ml_RX11_134 rfl rfl (Nat.le_of_ble_eq_true rfl) (Nat.le_of_ble_eq_true rfl) (Nat.le_of_ble_eq_true rfl) dX11_order_43 (fun z7 σ8 q9 => ?_)
            obtain ⟨w10, w11⟩ := q9
            rw [w10]
            refine s_if_eq C dX11_order_46 (tgt := 74) rfl (fun c12 => ?_) (fun c12 => ?_)
            ·
              exact j74 y25_2 (by omega)
            ·
              refine a_aload_n C dX11_order_49 (i := 0) rfl rfl ?_
              refine a_get C fl_RX11_54 (i := 0) kd_0 (hid 0 (by decide)) (v := .ref (ad 56)) rfl dX11_order_50 ?_
              refine a_get C fl_RX11_137 (i := 56) kd_56 (hid 56 (by decide)) (v := .ref (ad 58)) rfl dX11_order_53 ?_
              refine a_iload C dX11_order_56 rfl ?_
              refine s_iald C (i := 58) kd_58 (hid 58 (by decide)) al_58 (by omega) (by omega) dX11_order_58 (fun n13 h14 => ?_)
              refine s_val (fun z15 e16 => ?_)
              refine a_iload_n C dX11_order_59 (i := 3) rfl rfl ?_
              refine s_ic_ne C dX11_order_60 (tgt := 74) rfl (fun c17 => ?_) (fun c17 => ?_)
              ·
                exact j74 y25_2 (by omega)
              ·
                refine a_iload_n C dX11_order_63 (i := 2) rfl rfl ?_
                refine a_iload_n C dX11_order_64 (i := 1) rfl rfl ?_
                refine s_ic_ne C dX11_order_65 (tgt := 71) rfl (fun c18 => ?_) (fun c18 => ?_)
                ·
                  refine s_iincU C dX11_order_71 rfl (by decide) rfl (fun z19 => ?_)
                  show AW ids ad ca Γ 74 [some (.ref (ad 0)), some (.int x1), some (.int z19), some (.int y16_3), some (.int y25_4)] _ _
                  exact j74 z19 (by omega)
                ·
                  refine a_iload C dX11_order_68 rfl ?_
                  exact a_iret Rt dX11_order_70 rfl (rfl)
      refine a_iload_n C dX11_order_16 (i := 3) rfl rfl ?_
      refine s_bipush C dX11_order_17 (9) (by decide) (fun z21 h22 => ?_)
      refine s_ic_gt C dX11_order_19 (tgt := 86) rfl (fun c23 => ?_) (fun c23 => ?_)
      ·
        refine s_iconst C dX11_order_86 (-1) (by decide) (fun z24 h25 => ?_)
        exact a_iret Rt dX11_order_87 rfl (rfl)
      ·
        refine s_iconst C dX11_order_22 (0) (by decide) (fun z26 h27 => ?_)
        refine a_istore C dX11_order_23 (by decide) rfl (vs1 := [some (.ref (ad 0)), some (.int x1), some (.int y16_2), some (.int y16_3), some (.int z26)]) rfl ?_
        exact j25 100000 y16_2 z26 (by omega) (by omega) (by omega)
  refine a_iload_n C dX11_order_0 (i := 1) rfl rfl ?_
  refine s_if_lt C dX11_order_1 (tgt := 10) rfl (fun c28 => ?_) (fun c28 => ?_)
  ·
    refine s_iconst C dX11_order_10 (-1) (by decide) (fun z29 h30 => ?_)
    exact a_iret Rt dX11_order_11 rfl (rfl)
  ·
    refine a_iload_n C dX11_order_4 (i := 1) rfl rfl ?_
    refine s_bipush C dX11_order_5 (7) (by decide) (fun z31 h32 => ?_)
    refine s_ic_lt C dX11_order_7 (tgt := 12) rfl (fun c33 => ?_) (fun c33 => ?_)
    ·
      refine s_iconst C dX11_order_12 (0) (by decide) (fun z34 h35 => ?_)
      refine a_istore_n C dX11_order_13 (i := 2) rfl (by decide) rfl (vs1 := [some (.ref (ad 0)), some (.int x1), some (.int z34), none, none]) rfl ?_
      refine s_iconst C dX11_order_14 (0) (by decide) (fun z36 h37 => ?_)
      refine a_istore_n C dX11_order_15 (i := 3) rfl (by decide) rfl (vs1 := [some (.ref (ad 0)), some (.int x1), some (.int z34), some (.int z36), none]) rfl ?_
      exact j16 100000 z34 z36 (by omega) (by omega) (by omega)
    ·
      refine s_iconst C dX11_order_10 (-1) (by decide) (fun z38 h39 => ?_)
      exact a_iret Rt dX11_order_11 rfl (rfl)
theorem dX11_handover_34 : decode cX11_handover 34 = .ok (.aload_n 0, 1) := by decide +kernel
theorem dX11_handover_35 : decode cX11_handover 35 = .ok (.getfield 58, 3) := by decide +kernel
theorem dX11_handover_38 : decode cX11_handover 38 = .ok (.invokevirtual 282, 3) := by decide +kernel
theorem dX11_handover_41 : decode cX11_handover 41 = .ok (.istore_n 3, 1) := by decide +kernel
theorem dX11_handover_42 : decode cX11_handover 42 = .ok (.iload_n 3, 1) := by decide +kernel
theorem dX11_handover_43 : decode cX11_handover 43 = .ok (.iconst (-1), 1) := by decide +kernel
theorem dX11_handover_44 : decode cX11_handover 44 = .ok (.if_icmp .eq 11, 3) := by decide +kernel
theorem dX11_handover_47 : decode cX11_handover 47 = .ok (.iload_n 1, 1) := by decide +kernel
theorem dX11_handover_48 : decode cX11_handover 48 = .ok (.iconst 1, 1) := by decide +kernel
theorem dX11_handover_49 : decode cX11_handover 49 = .ok (.iload_n 3, 1) := by decide +kernel
theorem dX11_handover_50 : decode cX11_handover 50 = .ok (.ishl, 1) := by decide +kernel
theorem dX11_handover_51 : decode cX11_handover 51 = .ok (.iconst (-1), 1) := by decide +kernel
theorem dX11_handover_52 : decode cX11_handover 52 = .ok (.ixor, 1) := by decide +kernel
theorem dX11_handover_53 : decode cX11_handover 53 = .ok (.iand, 1) := by decide +kernel
theorem dX11_handover_54 : decode cX11_handover 54 = .ok (.istore_n 1, 1) := by decide +kernel
theorem dX11_handover_55 : decode cX11_handover 55 = .ok (.aload_n 0, 1) := by decide +kernel
theorem dX11_handover_56 : decode cX11_handover 56 = .ok (.getfield 19, 3) := by decide +kernel
theorem dX11_handover_59 : decode cX11_handover 59 = .ok (.aload_n 0, 1) := by decide +kernel
theorem dX11_handover_60 : decode cX11_handover 60 = .ok (.getfield 82, 3) := by decide +kernel
theorem dX11_handover_63 : decode cX11_handover 63 = .ok (.aload_n 0, 1) := by decide +kernel
theorem dX11_handover_64 : decode cX11_handover 64 = .ok (.getfield 58, 3) := by decide +kernel
theorem dX11_handover_67 : decode cX11_handover 67 = .ok (.iconst 1, 1) := by decide +kernel
theorem dX11_handover_68 : decode cX11_handover 68 = .ok (.aload_n 0, 1) := by decide +kernel
theorem dX11_handover_69 : decode cX11_handover 69 = .ok (.getfield 82, 3) := by decide +kernel
theorem dX11_handover_72 : decode cX11_handover 72 = .ok (.getfield 220, 3) := by decide +kernel
theorem dX11_handover_75 : decode cX11_handover 75 = .ok (.invokevirtual 223, 3) := by decide +kernel
theorem dX11_handover_78 : decode cX11_handover 78 = .ok (.iinc 2 1, 3) := by decide +kernel
theorem dX11_handover_81 : decode cX11_handover 81 = .ok (.goto (-59), 3) := by decide +kernel
theorem dX11_handover_84 : decode cX11_handover 84 = .ok (.bipush (-2), 2) := by decide +kernel
theorem dX11_handover_86 : decode cX11_handover 86 = .ok (.ireturn, 1) := by decide +kernel
set_option maxHeartbeats 4000000 in
set_option maxRecDepth 100000 in
theorem S_X11_handover_0_t30 {l : Launch} {D : va_G} {ids : List Nat} {ad : Nat → Nat} {ca : Nat → ClassId} {σ : HS} (hid : ∀ i, i < 277 → i ∈ ids) (hG : GIc σ) (htx0 : σ.2.2 0 = 30) (htx1 : σ.2.2 1 = 43) : Ki l D ids ad ca yX11_handover cX11_handover 4 .int 6 149 [.ref (ad 0)] σ (fun r σ1 => (GIc σ1) ∧ (ony [9, 10, 11, 60, 61, 62, 63] σ σ1)) := by
  refine Ki.of (by decide) (Nat.le_of_ble_eq_true rfl) 3 (fun Γ C Rt => ?_)
  show AW ids ad ca Γ 0 [some (.ref (ad 0)), none, none, none] [] σ
  have j22 : ∀ (d22 : Nat) (σq22 : HS) (y22_1 : Int32) (y22_2 : Int32), 61 - y22_2.toInt < d22 → GIc σq22 → ony [9, 10, 11, 60, 61, 62, 63] σ σq22 → 0 ≤ y22_2.toInt ∧ y22_2.toInt ≤ 61 → AW ids ad ca Γ 22 [some (.ref (ad 0)), some (.int y22_1), some (.int y22_2), none] [] σq22 := by
    intro d22
    induction d22 with
    | zero =>
      intro σq22 y22_1 y22_2 hd22 hGq22 hoq22 hx22_0
      exfalso
      omega
    | succ d22 ih22 =>
      intro σq22 y22_1 y22_2 hd22 hGq22 hoq22 hx22_0
      have j55 : ∀ (σq55 : HS) (y55_1 : Int32), GIc σq55 → ony [9, 10, 11, 60, 61, 62, 63] σ σq55 → 0 ≤ y22_2.toInt ∧ y22_2.toInt ≤ 60 → AW ids ad ca Γ 55 [some (.ref (ad 0)), some (.int y55_1), some (.int y22_2), none] [] σq55 := by
        intro σq55 y55_1 hGq55 hoq55 hx55_0
        refine a_aload_n C dX11_handover_55 (i := 0) rfl rfl ?_
        refine a_get C fl_RX11_19 (i := 0) kd_0 (hid 0 (by decide)) (v := .ref (ad 8)) rfl dX11_handover_56 ?_
        refine a_aload_n C dX11_handover_59 (i := 0) rfl rfl ?_
        refine a_get C fl_RX11_82 (i := 0) kd_0 (hid 0 (by decide)) (v := .ref (ad 30)) (congrArg (fun z => some (Value.ref (ad z))) ((congrFun hoq55.2 0).trans htx0)) dX11_handover_60 ?_
        refine a_aload_n C dX11_handover_63 (i := 0) rfl rfl ?_
        refine a_get C fl_RX11_58 (i := 0) kd_0 (hid 0 (by decide)) (v := .ref (ad 60)) rfl dX11_handover_64 ?_
        refine s_iconst C dX11_handover_67 (1) (by decide) (fun z1 h2 => ?_)
        refine a_aload_n C dX11_handover_68 (i := 0) rfl rfl ?_
        refine a_get C fl_RX11_82 (i := 0) kd_0 (hid 0 (by decide)) (v := .ref (ad 30)) (congrArg (fun z => some (Value.ref (ad z))) ((congrFun hoq55.2 0).trans htx0)) dX11_handover_69 ?_
        refine a_get C fl_RX11_220 (i := 30) kd_30 (hid 30 (by decide)) (v := .int (σq55.1 30 11)) rfl dX11_handover_72 ?_
        refine a_callVv C (i := 8) kd_8 (hid 8 (by decide)) ⟨_, _, rfl⟩ (by decide) (S_X4_goOn_8_30_60 (x3 := z1) (x4 := (σq55.1 30 11)) hid hGq55 (by omega)) mi_X4_goOn ml_RX11_223 rfl rfl (Nat.le_of_ble_eq_true rfl) (Nat.le_of_ble_eq_true rfl) (Nat.le_of_ble_eq_true rfl) dX11_handover_75 (fun σ4 q5 => ?_)
        obtain ⟨hG6, ho7⟩ := q5
        refine s_iinc C dX11_handover_78 rfl (1) (by decide) (by omega) (by decide) rfl (fun z9 h10 => ?_)
        show AW ids ad ca Γ 81 [some (.ref (ad 0)), some (.int y55_1), some (.int z9), none] _ _
        refine a_goto C dX11_handover_81 (tgt := 22) rfl ?_
        exact ih22 _ y55_1 z9 (by omega) hG6 (ony.tr hoq55 (ony.mono ho7 (by decide))) (by omega)
      refine a_iload_n C dX11_handover_22 (i := 2) rfl rfl ?_
      refine s_bipush C dX11_handover_23 (60) (by decide) (fun z11 h12 => ?_)
      refine s_ic_gt C dX11_handover_25 (tgt := 84) rfl (fun c13 => ?_) (fun c13 => ?_)
      ·
        refine s_bipush C dX11_handover_84 (-2) (by decide) (fun z14 h15 => ?_)
        exact a_iret Rt dX11_handover_86 rfl (⟨hGq22, hoq22⟩)
      ·
        refine a_iload_n C dX11_handover_28 (i := 1) rfl rfl ?_
        refine s_if_ne C dX11_handover_29 (tgt := 34) rfl (fun c16 => ?_) (fun c16 => ?_)
        ·
          refine a_aload_n C dX11_handover_34 (i := 0) rfl rfl ?_
          refine a_get C fl_RX11_58 (i := 0) kd_0 (hid 0 (by decide)) (v := .ref (ad 60)) rfl dX11_handover_35 ?_
          refine a_callVi C (i := 60) kd_60 (hid 60 (by decide)) ⟨_, _, rfl⟩ (by decide) (S_X0_firstLanding_60 hid hGq22) mi_X0_firstLanding ml_RX11_282 rfl rfl (Nat.le_of_ble_eq_true rfl) (Nat.le_of_ble_eq_true rfl) (Nat.le_of_ble_eq_true rfl) dX11_handover_38 (fun z17 σ18 q19 => ?_)
          obtain ⟨w20, w21⟩ := q19
          rw [w20]
          refine a_istore_n C dX11_handover_41 (i := 3) rfl (by decide) rfl (vs1 := [some (.ref (ad 0)), some (.int y22_1), some (.int y22_2), some (.int z17)]) rfl ?_
          refine a_iload_n C dX11_handover_42 (i := 3) rfl rfl ?_
          refine s_iconst C dX11_handover_43 (-1) (by decide) (fun z22 h23 => ?_)
          refine s_ic_eq C dX11_handover_44 (tgt := 55) rfl (fun c24 => ?_) (fun c24 => ?_)
          ·
            refine AW.sub (vs' := [some (.ref (ad 0)), some (.int y22_1), some (.int y22_2), none]) (lsub_of (by simp [lsubB])) ?_
            exact j55 _ y22_1 hGq22 hoq22 (by omega)
          ·
            refine a_iload_n C dX11_handover_47 (i := 1) rfl rfl ?_
            refine s_iconst C dX11_handover_48 (1) (by decide) (fun z25 h26 => ?_)
            refine a_iload_n C dX11_handover_49 (i := 3) rfl rfl ?_
            refine s_ishlU C dX11_handover_50 (fun z27 => ?_)
            refine s_iconst C dX11_handover_51 (-1) (by decide) (fun z29 h30 => ?_)
            refine s_ixorU C dX11_handover_52 (fun z31 => ?_)
            refine s_iandU C dX11_handover_53 (fun z33 => ?_)
            refine a_istore_n C dX11_handover_54 (i := 1) rfl (by decide) rfl (vs1 := [some (.ref (ad 0)), some (.int z33), some (.int y22_2), some (.int z17)]) rfl ?_
            refine AW.sub (vs' := [some (.ref (ad 0)), some (.int z33), some (.int y22_2), none]) (lsub_of (by simp [lsubB])) ?_
            exact j55 _ z33 hGq22 hoq22 (by omega)
        ·
          refine a_iload_n C dX11_handover_32 (i := 2) rfl rfl ?_
          exact a_iret Rt dX11_handover_33 rfl (⟨hGq22, hoq22⟩)
  refine a_aload_n C dX11_handover_0 (i := 0) rfl rfl ?_
  refine a_get C fl_RX11_58 (i := 0) kd_0 (hid 0 (by decide)) (v := .ref (ad 60)) rfl dX11_handover_1 ?_
  refine a_aload_n C dX11_handover_4 (i := 0) rfl rfl ?_
  refine a_get C fl_RX11_54 (i := 0) kd_0 (hid 0 (by decide)) (v := .ref (ad 56)) rfl dX11_handover_5 ?_
  refine a_callVv C (i := 60) (n0 := 0) kd_60 (hid 60 (by decide)) ⟨_, _, rfl⟩ (by decide) (S_copy 0 1 rfl rfl (by decide) (by decide) hid hG) mi_X0_copy ml_RX11_230 rfl rfl (Nat.le_of_ble_eq_true rfl) (Nat.le_of_ble_eq_true rfl) (Nat.le_of_ble_eq_true rfl) dX11_handover_8 (fun σ35 q36 => ?_)
  obtain ⟨hG37, ho38⟩ := q36
  refine a_aload_n C dX11_handover_11 (i := 0) rfl rfl ?_
  refine a_get C fl_RX11_54 (i := 0) kd_0 (hid 0 (by decide)) (v := .ref (ad 56)) rfl dX11_handover_12 ?_
  refine s_iconst C dX11_handover_15 (0) (by decide) (fun z39 h40 => ?_)
  refine a_callVi C (i := 56) kd_56 (hid 56 (by decide)) ⟨_, _, rfl⟩ (by decide) (S_X0_bitsOf_56 (x1 := z39) hid hG37) mi_X0_bitsOf ml_RX11_180 rfl rfl (Nat.le_of_ble_eq_true rfl) (Nat.le_of_ble_eq_true rfl) (Nat.le_of_ble_eq_true rfl) dX11_handover_16 (fun z41 σ42 q43 => ?_)
  rw [q43]
  refine a_istore_n C dX11_handover_19 (i := 1) rfl (by decide) rfl (vs1 := [some (.ref (ad 0)), some (.int z41), none, none]) rfl ?_
  refine s_iconst C dX11_handover_20 (0) (by decide) (fun z44 h45 => ?_)
  refine a_istore_n C dX11_handover_21 (i := 2) rfl (by decide) rfl (vs1 := [some (.ref (ad 0)), some (.int z41), some (.int z44), none]) rfl ?_
  exact j22 100000 _ z41 z44 (by omega) hG37 (ony.tr ony.rf (ony.mono ho38 (by decide))) (by omega)
set_option maxHeartbeats 4000000 in
set_option maxRecDepth 100000 in
theorem S_X11_limit_0_t30 {l : Launch} {D : va_G} {ids : List Nat} {ad : Nat → Nat} {ca : Nat → ClassId} {σ : HS} {x1 : Int32} (hid : ∀ i, i < 277 → i ∈ ids) (hG : GIc σ) (htx0 : σ.2.2 0 = 30) (htx1 : σ.2.2 1 = 43) : Ki l D ids ad ca yX11_limit cX11_limit 3 .int 6 149 [.ref (ad 0), .int x1] σ (fun r σ1 => (GIc σ1) ∧ (ony [9, 10, 11, 60, 61, 62, 63] σ σ1)) := by
  refine Ki.of (by decide) (Nat.le_of_ble_eq_true rfl) 1 (fun Γ C Rt => ?_)
  show AW ids ad ca Γ 0 [some (.ref (ad 0)), some (.int x1), none] [] σ
  have j26 : ∀ (d26 : Nat) (σq26 : HS) (y26_2 : Int32), 201 - y26_2.toInt < d26 → GIc σq26 → ony [9, 10, 11, 60, 61, 62, 63] σ σq26 → 0 ≤ y26_2.toInt ∧ y26_2.toInt ≤ 201 → 0 ≤ x1.toInt ∧ x1.toInt ≤ 999 → AW ids ad ca Γ 26 [some (.ref (ad 0)), some (.int x1), some (.int y26_2)] [] σq26 := by
    intro d26
    induction d26 with
    | zero =>
      intro σq26 y26_2 hd26 hGq26 hoq26 hx26_0 hx26_1
      exfalso
      omega
    | succ d26 ih26 =>
      intro σq26 y26_2 hd26 hGq26 hoq26 hx26_0 hx26_1
      refine a_iload_n C dX11_limit_26 (i := 2) rfl rfl ?_
      refine s_sipush C dX11_limit_27 (200) (by decide) (fun z1 h2 => ?_)
      refine s_ic_gt C dX11_limit_30 (tgt := 75) rfl (fun c3 => ?_) (fun c3 => ?_)
      ·
        refine s_bipush C dX11_limit_75 (-2) (by decide) (fun z4 h5 => ?_)
        exact a_iret Rt dX11_limit_77 rfl (⟨hGq26, hoq26⟩)
      ·
        refine a_aload_n C dX11_limit_33 (i := 0) rfl rfl ?_
        refine a_get C fl_RX11_58 (i := 0) kd_0 (hid 0 (by decide)) (v := .ref (ad 60)) rfl dX11_limit_34 ?_
        refine a_get C fl_RX11_177 (i := 60) kd_60 (hid 60 (by decide)) (v := .int (σq26.1 60 5)) rfl dX11_limit_37 ?_
        refine a_iload_n C dX11_limit_40 (i := 1) rfl rfl ?_
        refine s_ic_lt C dX11_limit_41 (tgt := 46) rfl (fun c6 => ?_) (fun c6 => ?_)
        ·
          refine a_aload_n C dX11_limit_46 (i := 0) rfl rfl ?_
          refine a_get C fl_RX11_19 (i := 0) kd_0 (hid 0 (by decide)) (v := .ref (ad 8)) rfl dX11_limit_47 ?_
          refine a_aload_n C dX11_limit_50 (i := 0) rfl rfl ?_
          refine a_get C fl_RX11_82 (i := 0) kd_0 (hid 0 (by decide)) (v := .ref (ad 30)) (congrArg (fun z => some (Value.ref (ad z))) ((congrFun hoq26.2 0).trans htx0)) dX11_limit_51 ?_
          refine a_aload_n C dX11_limit_54 (i := 0) rfl rfl ?_
          refine a_get C fl_RX11_58 (i := 0) kd_0 (hid 0 (by decide)) (v := .ref (ad 60)) rfl dX11_limit_55 ?_
          refine s_iconst C dX11_limit_58 (1) (by decide) (fun z7 h8 => ?_)
          refine a_aload_n C dX11_limit_59 (i := 0) rfl rfl ?_
          refine a_get C fl_RX11_82 (i := 0) kd_0 (hid 0 (by decide)) (v := .ref (ad 30)) (congrArg (fun z => some (Value.ref (ad z))) ((congrFun hoq26.2 0).trans htx0)) dX11_limit_60 ?_
          refine a_get C fl_RX11_220 (i := 30) kd_30 (hid 30 (by decide)) (v := .int (σq26.1 30 11)) rfl dX11_limit_63 ?_
          refine a_callVv C (i := 8) kd_8 (hid 8 (by decide)) ⟨_, _, rfl⟩ (by decide) (S_X4_goOn_8_30_60 (x3 := z7) (x4 := (σq26.1 30 11)) hid hGq26 (by omega)) mi_X4_goOn ml_RX11_223 rfl rfl (Nat.le_of_ble_eq_true rfl) (Nat.le_of_ble_eq_true rfl) (Nat.le_of_ble_eq_true rfl) dX11_limit_66 (fun σ10 q11 => ?_)
          obtain ⟨hG12, ho13⟩ := q11
          refine s_iinc C dX11_limit_69 rfl (1) (by decide) (by omega) (by decide) rfl (fun z15 h16 => ?_)
          show AW ids ad ca Γ 72 [some (.ref (ad 0)), some (.int x1), some (.int z15)] _ _
          refine a_goto C dX11_limit_72 (tgt := 26) rfl ?_
          exact ih26 _ z15 (by omega) hG12 (ony.tr hoq26 (ony.mono ho13 (by decide))) (by omega) (by omega)
        ·
          refine a_iload_n C dX11_limit_44 (i := 2) rfl rfl ?_
          exact a_iret Rt dX11_limit_45 rfl (⟨hGq26, hoq26⟩)
  refine a_iload_n C dX11_limit_0 (i := 1) rfl rfl ?_
  refine s_if_lt C dX11_limit_1 (tgt := 11) rfl (fun c17 => ?_) (fun c17 => ?_)
  ·
    refine s_iconst C dX11_limit_11 (-1) (by decide) (fun z18 h19 => ?_)
    exact a_iret Rt dX11_limit_12 rfl (⟨hG, ony.rf⟩)
  ·
    refine a_iload_n C dX11_limit_4 (i := 1) rfl rfl ?_
    refine s_sipush C dX11_limit_5 (999) (by decide) (fun z20 h21 => ?_)
    refine s_ic_le C dX11_limit_8 (tgt := 13) rfl (fun c22 => ?_) (fun c22 => ?_)
    ·
      refine a_aload_n C dX11_limit_13 (i := 0) rfl rfl ?_
      refine a_get C fl_RX11_58 (i := 0) kd_0 (hid 0 (by decide)) (v := .ref (ad 60)) rfl dX11_limit_14 ?_
      refine a_aload_n C dX11_limit_17 (i := 0) rfl rfl ?_
      refine a_get C fl_RX11_54 (i := 0) kd_0 (hid 0 (by decide)) (v := .ref (ad 56)) rfl dX11_limit_18 ?_
      refine a_callVv C (i := 60) (n0 := 0) kd_60 (hid 60 (by decide)) ⟨_, _, rfl⟩ (by decide) (S_copy 0 1 rfl rfl (by decide) (by decide) hid hG) mi_X0_copy ml_RX11_230 rfl rfl (Nat.le_of_ble_eq_true rfl) (Nat.le_of_ble_eq_true rfl) (Nat.le_of_ble_eq_true rfl) dX11_limit_21 (fun σ23 q24 => ?_)
      obtain ⟨hG25, ho26⟩ := q24
      refine s_iconst C dX11_limit_24 (0) (by decide) (fun z27 h28 => ?_)
      refine a_istore_n C dX11_limit_25 (i := 2) rfl (by decide) rfl (vs1 := [some (.ref (ad 0)), some (.int x1), some (.int z27)]) rfl ?_
      exact j26 100000 _ z27 (by omega) hG25 (ony.tr ony.rf (ony.mono ho26 (by decide))) (by omega) (by omega)
    ·
      refine s_iconst C dX11_limit_11 (-1) (by decide) (fun z29 h30 => ?_)
      exact a_iret Rt dX11_limit_12 rfl (⟨hG, ony.rf⟩)
theorem dX11_down_32 : decode cX11_down 32 = .ok (.aload_n 0, 1) := by decide +kernel
theorem dX11_down_33 : decode cX11_down 33 = .ok (.getfield 19, 3) := by decide +kernel
theorem dX11_down_36 : decode cX11_down 36 = .ok (.aload_n 0, 1) := by decide +kernel
theorem dX11_down_37 : decode cX11_down 37 = .ok (.getfield 82, 3) := by decide +kernel
theorem dX11_down_40 : decode cX11_down 40 = .ok (.aload_n 0, 1) := by decide +kernel
theorem dX11_down_41 : decode cX11_down 41 = .ok (.getfield 58, 3) := by decide +kernel
theorem dX11_down_44 : decode cX11_down 44 = .ok (.iconst 1, 1) := by decide +kernel
theorem dX11_down_45 : decode cX11_down 45 = .ok (.aload_n 0, 1) := by decide +kernel
theorem dX11_down_46 : decode cX11_down 46 = .ok (.getfield 82, 3) := by decide +kernel
theorem dX11_down_49 : decode cX11_down 49 = .ok (.getfield 220, 3) := by decide +kernel
theorem dX11_down_52 : decode cX11_down 52 = .ok (.invokevirtual 223, 3) := by decide +kernel
theorem dX11_down_55 : decode cX11_down 55 = .ok (.iinc 1 1, 3) := by decide +kernel
theorem dX11_down_58 : decode cX11_down 58 = .ok (.goto (-45), 3) := by decide +kernel
theorem dX11_down_61 : decode cX11_down 61 = .ok (.bipush (-2), 2) := by decide +kernel
theorem dX11_down_63 : decode cX11_down 63 = .ok (.ireturn, 1) := by decide +kernel
set_option maxHeartbeats 4000000 in
set_option maxRecDepth 100000 in
theorem S_X11_down_0_t30 {l : Launch} {D : va_G} {ids : List Nat} {ad : Nat → Nat} {ca : Nat → ClassId} {σ : HS} (hid : ∀ i, i < 277 → i ∈ ids) (hG : GIc σ) (htx0 : σ.2.2 0 = 30) (htx1 : σ.2.2 1 = 43) : Ki l D ids ad ca yX11_down cX11_down 2 .int 6 149 [.ref (ad 0)] σ (fun r σ1 => (GIc σ1) ∧ (ony [9, 10, 11, 60, 61, 62, 63] σ σ1)) := by
  refine Ki.of (by decide) (Nat.le_of_ble_eq_true rfl) 1 (fun Γ C Rt => ?_)
  show AW ids ad ca Γ 0 [some (.ref (ad 0)), none] [] σ
  have j13 : ∀ (d13 : Nat) (σq13 : HS) (y13_1 : Int32), 201 - y13_1.toInt < d13 → GIc σq13 → ony [9, 10, 11, 60, 61, 62, 63] σ σq13 → 0 ≤ y13_1.toInt ∧ y13_1.toInt ≤ 201 → AW ids ad ca Γ 13 [some (.ref (ad 0)), some (.int y13_1)] [] σq13 := by
    intro d13
    induction d13 with
    | zero =>
      intro σq13 y13_1 hd13 hGq13 hoq13 hx13_0
      exfalso
      omega
    | succ d13 ih13 =>
      intro σq13 y13_1 hd13 hGq13 hoq13 hx13_0
      refine a_iload_n C dX11_down_13 (i := 1) rfl rfl ?_
      refine s_sipush C dX11_down_14 (200) (by decide) (fun z1 h2 => ?_)
      refine s_ic_gt C dX11_down_17 (tgt := 61) rfl (fun c3 => ?_) (fun c3 => ?_)
      ·
        refine s_bipush C dX11_down_61 (-2) (by decide) (fun z4 h5 => ?_)
        exact a_iret Rt dX11_down_63 rfl (⟨hGq13, hoq13⟩)
      ·
        refine a_aload_n C dX11_down_20 (i := 0) rfl rfl ?_
        refine a_get C fl_RX11_58 (i := 0) kd_0 (hid 0 (by decide)) (v := .ref (ad 60)) rfl dX11_down_21 ?_
        refine a_callVi C (i := 60) kd_60 (hid 60 (by decide)) ⟨_, _, rfl⟩ (by decide) (S_X0_howManyUp_60 hid hGq13) mi_X0_howManyUp ml_RX11_156 rfl rfl (Nat.le_of_ble_eq_true rfl) (Nat.le_of_ble_eq_true rfl) (Nat.le_of_ble_eq_true rfl) dX11_down_24 (fun z6 σ7 q8 => ?_)
        rw [q8]
        refine s_if_ne C dX11_down_27 (tgt := 32) rfl (fun c9 => ?_) (fun c9 => ?_)
        ·
          refine a_aload_n C dX11_down_32 (i := 0) rfl rfl ?_
          refine a_get C fl_RX11_19 (i := 0) kd_0 (hid 0 (by decide)) (v := .ref (ad 8)) rfl dX11_down_33 ?_
          refine a_aload_n C dX11_down_36 (i := 0) rfl rfl ?_
          refine a_get C fl_RX11_82 (i := 0) kd_0 (hid 0 (by decide)) (v := .ref (ad 30)) (congrArg (fun z => some (Value.ref (ad z))) ((congrFun hoq13.2 0).trans htx0)) dX11_down_37 ?_
          refine a_aload_n C dX11_down_40 (i := 0) rfl rfl ?_
          refine a_get C fl_RX11_58 (i := 0) kd_0 (hid 0 (by decide)) (v := .ref (ad 60)) rfl dX11_down_41 ?_
          refine s_iconst C dX11_down_44 (1) (by decide) (fun z10 h11 => ?_)
          refine a_aload_n C dX11_down_45 (i := 0) rfl rfl ?_
          refine a_get C fl_RX11_82 (i := 0) kd_0 (hid 0 (by decide)) (v := .ref (ad 30)) (congrArg (fun z => some (Value.ref (ad z))) ((congrFun hoq13.2 0).trans htx0)) dX11_down_46 ?_
          refine a_get C fl_RX11_220 (i := 30) kd_30 (hid 30 (by decide)) (v := .int (σq13.1 30 11)) rfl dX11_down_49 ?_
          refine a_callVv C (i := 8) kd_8 (hid 8 (by decide)) ⟨_, _, rfl⟩ (by decide) (S_X4_goOn_8_30_60 (x3 := z10) (x4 := (σq13.1 30 11)) hid hGq13 (by omega)) mi_X4_goOn ml_RX11_223 rfl rfl (Nat.le_of_ble_eq_true rfl) (Nat.le_of_ble_eq_true rfl) (Nat.le_of_ble_eq_true rfl) dX11_down_52 (fun σ13 q14 => ?_)
          obtain ⟨hG15, ho16⟩ := q14
          refine s_iinc C dX11_down_55 rfl (1) (by decide) (by omega) (by decide) rfl (fun z18 h19 => ?_)
          show AW ids ad ca Γ 58 [some (.ref (ad 0)), some (.int z18)] _ _
          refine a_goto C dX11_down_58 (tgt := 13) rfl ?_
          exact ih13 _ z18 (by omega) hG15 (ony.tr hoq13 (ony.mono ho16 (by decide))) (by omega)
        ·
          refine a_iload_n C dX11_down_30 (i := 1) rfl rfl ?_
          exact a_iret Rt dX11_down_31 rfl (⟨hGq13, hoq13⟩)
  refine a_aload_n C dX11_down_0 (i := 0) rfl rfl ?_
  refine a_get C fl_RX11_58 (i := 0) kd_0 (hid 0 (by decide)) (v := .ref (ad 60)) rfl dX11_down_1 ?_
  refine a_aload_n C dX11_down_4 (i := 0) rfl rfl ?_
  refine a_get C fl_RX11_54 (i := 0) kd_0 (hid 0 (by decide)) (v := .ref (ad 56)) rfl dX11_down_5 ?_
  refine a_callVv C (i := 60) (n0 := 0) kd_60 (hid 60 (by decide)) ⟨_, _, rfl⟩ (by decide) (S_copy 0 1 rfl rfl (by decide) (by decide) hid hG) mi_X0_copy ml_RX11_230 rfl rfl (Nat.le_of_ble_eq_true rfl) (Nat.le_of_ble_eq_true rfl) (Nat.le_of_ble_eq_true rfl) dX11_down_8 (fun σ20 q21 => ?_)
  obtain ⟨hG22, ho23⟩ := q21
  refine s_iconst C dX11_down_11 (0) (by decide) (fun z24 h25 => ?_)
  refine a_istore_n C dX11_down_12 (i := 1) rfl (by decide) rfl (vs1 := [some (.ref (ad 0)), some (.int z24)]) rfl ?_
  exact j13 100000 _ z24 (by omega) hG22 (ony.tr ony.rf (ony.mono ho23 (by decide))) (by omega)
theorem dX11_light_40 : decode cX11_light 40 = .ok (.aload_n 0, 1) := by decide +kernel
theorem dX11_light_41 : decode cX11_light 41 = .ok (.getfield 82, 3) := by decide +kernel
theorem dX11_light_44 : decode cX11_light 44 = .ok (.getfield 149, 3) := by decide +kernel
theorem dX11_light_47 : decode cX11_light 47 = .ok (.iload 5, 2) := by decide +kernel
theorem dX11_light_49 : decode cX11_light 49 = .ok (.aaload, 1) := by decide +kernel
theorem dX11_light_50 : decode cX11_light 50 = .ok (.aload_n 0, 1) := by decide +kernel
theorem dX11_light_51 : decode cX11_light 51 = .ok (.getfield 82, 3) := by decide +kernel
theorem dX11_light_54 : decode cX11_light 54 = .ok (.getfield 146, 3) := by decide +kernel
theorem dX11_light_57 : decode cX11_light 57 = .ok (.iload 5, 2) := by decide +kernel
theorem dX11_light_59 : decode cX11_light 59 = .ok (.iaload, 1) := by decide +kernel
theorem dX11_light_60 : decode cX11_light 60 = .ok (.iconst 1, 1) := by decide +kernel
theorem dX11_light_61 : decode cX11_light 61 = .ok (.invokestatic 233, 3) := by decide +kernel
theorem dX11_light_64 : decode cX11_light 64 = .ok (.aload_n 0, 1) := by decide +kernel
theorem dX11_light_65 : decode cX11_light 65 = .ok (.getfield 54, 3) := by decide +kernel
theorem dX11_light_68 : decode cX11_light 68 = .ok (.invokevirtual 156, 3) := by decide +kernel
theorem dX11_light_71 : decode cX11_light 71 = .ok (.if_icmp .ne 76, 3) := by decide +kernel
theorem dX11_light_74 : decode cX11_light 74 = .ok (.aload_n 0, 1) := by decide +kernel
theorem dX11_light_75 : decode cX11_light 75 = .ok (.getfield 58, 3) := by decide +kernel
theorem dX11_light_78 : decode cX11_light 78 = .ok (.aload_n 0, 1) := by decide +kernel
theorem dX11_light_79 : decode cX11_light 79 = .ok (.getfield 54, 3) := by decide +kernel
theorem dX11_light_82 : decode cX11_light 82 = .ok (.invokevirtual 230, 3) := by decide +kernel
theorem dX11_light_85 : decode cX11_light 85 = .ok (.aload_n 0, 1) := by decide +kernel
theorem dX11_light_86 : decode cX11_light 86 = .ok (.getfield 58, 3) := by decide +kernel
theorem dX11_light_89 : decode cX11_light 89 = .ok (.iload 5, 2) := by decide +kernel
theorem dX11_light_91 : decode cX11_light 91 = .ok (.invokevirtual 214, 3) := by decide +kernel
theorem dX11_light_94 : decode cX11_light 94 = .ok (.aload_n 0, 1) := by decide +kernel
theorem dX11_light_95 : decode cX11_light 95 = .ok (.getfield 19, 3) := by decide +kernel
theorem dX11_light_98 : decode cX11_light 98 = .ok (.aload_n 0, 1) := by decide +kernel
theorem dX11_light_99 : decode cX11_light 99 = .ok (.getfield 82, 3) := by decide +kernel
theorem dX11_light_102 : decode cX11_light 102 = .ok (.aload_n 0, 1) := by decide +kernel
theorem dX11_light_103 : decode cX11_light 103 = .ok (.getfield 58, 3) := by decide +kernel
theorem dX11_light_106 : decode cX11_light 106 = .ok (.iload_n 1, 1) := by decide +kernel
theorem dX11_light_107 : decode cX11_light 107 = .ok (.aload_n 0, 1) := by decide +kernel
theorem dX11_light_108 : decode cX11_light 108 = .ok (.getfield 82, 3) := by decide +kernel
theorem dX11_light_111 : decode cX11_light 111 = .ok (.getfield 220, 3) := by decide +kernel
theorem dX11_light_114 : decode cX11_light 114 = .ok (.invokevirtual 223, 3) := by decide +kernel
theorem dX11_light_117 : decode cX11_light 117 = .ok (.iload_n 3, 1) := by decide +kernel
theorem dX11_light_118 : decode cX11_light 118 = .ok (.bipush (-2), 2) := by decide +kernel
theorem dX11_light_120 : decode cX11_light 120 = .ok (.if_icmp .eq 15, 3) := by decide +kernel
theorem dX11_light_123 : decode cX11_light 123 = .ok (.aload_n 0, 1) := by decide +kernel
theorem dX11_light_124 : decode cX11_light 124 = .ok (.getfield 58, 3) := by decide +kernel
theorem dX11_light_127 : decode cX11_light 127 = .ok (.getfield 177, 3) := by decide +kernel
theorem dX11_light_130 : decode cX11_light 130 = .ok (.iload 4, 2) := by decide +kernel
theorem dX11_light_132 : decode cX11_light 132 = .ok (.if_icmp .ge 15, 3) := by decide +kernel
theorem dX11_light_135 : decode cX11_light 135 = .ok (.iload 5, 2) := by decide +kernel
theorem dX11_light_137 : decode cX11_light 137 = .ok (.istore_n 3, 1) := by decide +kernel
theorem dX11_light_138 : decode cX11_light 138 = .ok (.aload_n 0, 1) := by decide +kernel
theorem dX11_light_139 : decode cX11_light 139 = .ok (.getfield 58, 3) := by decide +kernel
theorem dX11_light_142 : decode cX11_light 142 = .ok (.getfield 177, 3) := by decide +kernel
theorem dX11_light_145 : decode cX11_light 145 = .ok (.istore 4, 2) := by decide +kernel
theorem dX11_light_147 : decode cX11_light 147 = .ok (.iinc 5 1, 3) := by decide +kernel
theorem dX11_light_150 : decode cX11_light 150 = .ok (.goto (-122), 3) := by decide +kernel
set_option maxHeartbeats 4000000 in
set_option maxRecDepth 100000 in
theorem S_X11_light_0_t30 {l : Launch} {D : va_G} {ids : List Nat} {ad : Nat → Nat} {ca : Nat → ClassId} {σ : HS} {x1 : Int32} {x2 : Int32} (hid : ∀ i, i < 277 → i ∈ ids) (hG : GIc σ) (htx0 : σ.2.2 0 = 30) (htx1 : σ.2.2 1 = 43) : Ki l D ids ad ca yX11_light cX11_light 6 .int 6 149 [.ref (ad 0), .int x1, .int x2] σ (fun r σ1 => (GIc σ1) ∧ (ony [9, 10, 11, 60, 61, 62, 63] σ σ1)) := by
  refine Ki.of (by decide) (Nat.le_of_ble_eq_true rfl) 3 (fun Γ C Rt => ?_)
  show AW ids ad ca Γ 0 [some (.ref (ad 0)), some (.int x1), some (.int x2), none, none, none] [] σ
  have j28 : ∀ (d28 : Nat) (σq28 : HS) (y28_3 : Int32) (y28_4 : Int32) (y28_5 : Int32), 5 - y28_5.toInt < d28 → GIc σq28 → ony [9, 10, 11, 60, 61, 62, 63] σ σq28 → -2 ≤ y28_3.toInt ∧ y28_3.toInt ≤ 4 → 0 ≤ y28_5.toInt ∧ y28_5.toInt ≤ 5 → 1 ≤ x1.toInt ∧ x1.toInt ≤ 60 → 0 ≤ x2.toInt ∧ x2.toInt ≤ 1 → AW ids ad ca Γ 28 [some (.ref (ad 0)), some (.int x1), some (.int x2), some (.int y28_3), some (.int y28_4), some (.int y28_5)] [] σq28 := by
    intro d28
    induction d28 with
    | zero =>
      intro σq28 y28_3 y28_4 y28_5 hd28 hGq28 hoq28 hx28_0 hx28_1 hx28_2 hx28_3
      exfalso
      omega
    | succ d28 ih28 =>
      intro σq28 y28_3 y28_4 y28_5 hd28 hGq28 hoq28 hx28_0 hx28_1 hx28_2 hx28_3
      have j147 : ∀ (σq147 : HS) (y147_3 : Int32) (y147_4 : Int32), GIc σq147 → ony [9, 10, 11, 60, 61, 62, 63] σ σq147 → -2 ≤ y147_3.toInt ∧ y147_3.toInt ≤ 4 → 0 ≤ y28_5.toInt ∧ y28_5.toInt ≤ 4 → AW ids ad ca Γ 147 [some (.ref (ad 0)), some (.int x1), some (.int x2), some (.int y147_3), some (.int y147_4), some (.int y28_5)] [] σq147 := by
        intro σq147 y147_3 y147_4 hGq147 hoq147 hx147_0 hx147_1
        refine s_iinc C dX11_light_147 rfl (1) (by decide) (by omega) (by decide) rfl (fun z1 h2 => ?_)
        show AW ids ad ca Γ 150 [some (.ref (ad 0)), some (.int x1), some (.int x2), some (.int y147_3), some (.int y147_4), some (.int z1)] _ _
        refine a_goto C dX11_light_150 (tgt := 28) rfl ?_
        exact ih28 _ y147_3 y147_4 z1 (by omega) hGq147 hoq147 (by omega) (by omega) (by omega) (by omega)
      have j135 : ∀ (σq135 : HS), GIc σq135 → ony [9, 10, 11, 60, 61, 62, 63] σ σq135 → 0 ≤ y28_5.toInt ∧ y28_5.toInt ≤ 4 → AW ids ad ca Γ 135 [some (.ref (ad 0)), some (.int x1), some (.int x2), none, none, some (.int y28_5)] [] σq135 := by
        intro σq135 hGq135 hoq135 hx135_0
        refine a_iload C dX11_light_135 rfl ?_
        refine a_istore_n C dX11_light_137 (i := 3) rfl (by decide) rfl (vs1 := [some (.ref (ad 0)), some (.int x1), some (.int x2), some (.int y28_5), none, some (.int y28_5)]) rfl ?_
        refine a_aload_n C dX11_light_138 (i := 0) rfl rfl ?_
        refine a_get C fl_RX11_58 (i := 0) kd_0 (hid 0 (by decide)) (v := .ref (ad 60)) rfl dX11_light_139 ?_
        refine a_get C fl_RX11_177 (i := 60) kd_60 (hid 60 (by decide)) (v := .int (σq135.1 60 5)) rfl dX11_light_142 ?_
        refine a_istore C dX11_light_145 (by decide) rfl (vs1 := [some (.ref (ad 0)), some (.int x1), some (.int x2), some (.int y28_5), some (.int (σq135.1 60 5)), some (.int y28_5)]) rfl ?_
        exact j147 _ y28_5 (σq135.1 60 5) hGq135 hoq135 (by omega) (by omega)
      refine a_iload C dX11_light_28 rfl ?_
      refine a_aload_n C dX11_light_30 (i := 0) rfl rfl ?_
      refine a_get C fl_RX11_82 (i := 0) kd_0 (hid 0 (by decide)) (v := .ref (ad 30)) (congrArg (fun z => some (Value.ref (ad z))) ((congrFun hoq28.2 0).trans htx0)) dX11_light_31 ?_
      have g3 := bF_30_4 hGq28
      refine a_get C fl_RX11_171 (i := 30) kd_30 (hid 30 (by decide)) (v := .int (σq28.1 30 4)) rfl dX11_light_34 ?_
      refine s_ic_ge C dX11_light_37 (tgt := 153) rfl (fun c4 => ?_) (fun c4 => ?_)
      ·
        refine a_iload_n C dX11_light_153 (i := 2) rfl rfl ?_
        refine s_if_ne C dX11_light_154 (tgt := 161) rfl (fun c5 => ?_) (fun c5 => ?_)
        ·
          refine a_iload C dX11_light_161 rfl ?_
          exact a_iret Rt dX11_light_163 rfl (⟨hGq28, hoq28⟩)
        ·
          refine a_iload_n C dX11_light_157 (i := 3) rfl rfl ?_
          refine a_goto C dX11_light_158 (tgt := 163) rfl ?_
          exact a_iret Rt dX11_light_163 rfl (⟨hGq28, hoq28⟩)
      ·
        refine a_aload_n C dX11_light_40 (i := 0) rfl rfl ?_
        refine a_get C fl_RX11_82 (i := 0) kd_0 (hid 0 (by decide)) (v := .ref (ad 30)) (congrArg (fun z => some (Value.ref (ad z))) ((congrFun hoq28.2 0).trans htx0)) dX11_light_41 ?_
        refine a_get C fl_RX11_149 (i := 30) kd_30 (hid 30 (by decide)) (v := .ref (ad 34)) rfl dX11_light_44 ?_
        refine a_iload C dX11_light_47 rfl ?_
        refine s_aaldH C (i := 34) kd_34 (hid 34 (by decide)) al_34 (by omega) (by omega) dX11_light_49 (fun n6 h7 h8 => ?_)
        refine a_aload_n C dX11_light_50 (i := 0) rfl rfl ?_
        refine a_get C fl_RX11_82 (i := 0) kd_0 (hid 0 (by decide)) (v := .ref (ad 30)) (congrArg (fun z => some (Value.ref (ad z))) ((congrFun hoq28.2 0).trans htx0)) dX11_light_51 ?_
        refine a_get C fl_RX11_146 (i := 30) kd_30 (hid 30 (by decide)) (v := .ref (ad 40)) rfl dX11_light_54 ?_
        refine a_iload C dX11_light_57 rfl ?_
        refine s_iald C (i := 40) kd_40 (hid 40 (by decide)) al_40 (by omega) (by omega) dX11_light_59 (fun n9 h10 => ?_)
        refine s_val (fun z11 e12 => ?_)
        have g13 := bA_40 hGq28 n9
        rw [e12] at g13
        refine s_iconst C dX11_light_60 (1) (by decide) (fun z14 h15 => ?_)
        refine a_callSi C (S_X11_closingOf_H8 (x2 := z11) (x3 := z14) (ar1 := (34 + 1 + n6)) hid hGq28 (by omega) (kdH_34 n6 h8).1 (hid _ (kdH_34 n6 h8).2.2) (kdH_34 n6 h8).2.1 (bH_34 hGq28 h8)) ms_X11_closingOf ml_RX11_233 rfl rfl (Nat.le_of_ble_eq_true rfl) (Nat.le_of_ble_eq_true rfl) (Nat.le_of_ble_eq_true rfl) dX11_light_61 (fun z16 σ17 q18 => ?_)
        rw [q18]
        refine a_aload_n C dX11_light_64 (i := 0) rfl rfl ?_
        refine a_get C fl_RX11_54 (i := 0) kd_0 (hid 0 (by decide)) (v := .ref (ad 56)) rfl dX11_light_65 ?_
        refine a_callVi C (i := 56) kd_56 (hid 56 (by decide)) ⟨_, _, rfl⟩ (by decide) (S_X0_howManyUp_56 hid hGq28) mi_X0_howManyUp ml_RX11_156 rfl rfl (Nat.le_of_ble_eq_true rfl) (Nat.le_of_ble_eq_true rfl) (Nat.le_of_ble_eq_true rfl) dX11_light_68 (fun z19 σ20 q21 => ?_)
        rw [q21]
        refine s_ic_ne C dX11_light_71 (tgt := 147) rfl (fun c22 => ?_) (fun c22 => ?_)
        ·
          exact j147 _ y28_3 y28_4 hGq28 hoq28 (by omega) (by omega)
        ·
          refine a_aload_n C dX11_light_74 (i := 0) rfl rfl ?_
          refine a_get C fl_RX11_58 (i := 0) kd_0 (hid 0 (by decide)) (v := .ref (ad 60)) rfl dX11_light_75 ?_
          refine a_aload_n C dX11_light_78 (i := 0) rfl rfl ?_
          refine a_get C fl_RX11_54 (i := 0) kd_0 (hid 0 (by decide)) (v := .ref (ad 56)) rfl dX11_light_79 ?_
          refine a_callVv C (i := 60) (n0 := 0) kd_60 (hid 60 (by decide)) ⟨_, _, rfl⟩ (by decide) (S_copy 0 1 rfl rfl (by decide) (by decide) hid hGq28) mi_X0_copy ml_RX11_230 rfl rfl (Nat.le_of_ble_eq_true rfl) (Nat.le_of_ble_eq_true rfl) (Nat.le_of_ble_eq_true rfl) dX11_light_82 (fun σ23 q24 => ?_)
          obtain ⟨hG25, ho26⟩ := q24
          refine a_aload_n C dX11_light_85 (i := 0) rfl rfl ?_
          refine a_get C fl_RX11_58 (i := 0) kd_0 (hid 0 (by decide)) (v := .ref (ad 60)) rfl dX11_light_86 ?_
          refine a_iload C dX11_light_89 rfl ?_
          refine a_callVv C (i := 60) kd_60 (hid 60 (by decide)) ⟨_, _, rfl⟩ (by decide) (S_X0_takeUp_60 (x1 := y28_5) hid hG25) mi_X0_takeUp ml_RX11_214 rfl rfl (Nat.le_of_ble_eq_true rfl) (Nat.le_of_ble_eq_true rfl) (Nat.le_of_ble_eq_true rfl) dX11_light_91 (fun σ28 q29 => ?_)
          obtain ⟨hG30, ho31⟩ := q29
          refine a_aload_n C dX11_light_94 (i := 0) rfl rfl ?_
          refine a_get C fl_RX11_19 (i := 0) kd_0 (hid 0 (by decide)) (v := .ref (ad 8)) rfl dX11_light_95 ?_
          refine a_aload_n C dX11_light_98 (i := 0) rfl rfl ?_
          refine a_get C fl_RX11_82 (i := 0) kd_0 (hid 0 (by decide)) (v := .ref (ad 30)) (congrArg (fun z => some (Value.ref (ad z))) ((congrFun ho31.2 0).trans ((congrFun ho26.2 0).trans ((congrFun hoq28.2 0).trans htx0)))) dX11_light_99 ?_
          refine a_aload_n C dX11_light_102 (i := 0) rfl rfl ?_
          refine a_get C fl_RX11_58 (i := 0) kd_0 (hid 0 (by decide)) (v := .ref (ad 60)) rfl dX11_light_103 ?_
          refine a_iload_n C dX11_light_106 (i := 1) rfl rfl ?_
          refine a_aload_n C dX11_light_107 (i := 0) rfl rfl ?_
          refine a_get C fl_RX11_82 (i := 0) kd_0 (hid 0 (by decide)) (v := .ref (ad 30)) (congrArg (fun z => some (Value.ref (ad z))) ((congrFun ho31.2 0).trans ((congrFun ho26.2 0).trans ((congrFun hoq28.2 0).trans htx0)))) dX11_light_108 ?_
          refine a_get C fl_RX11_220 (i := 30) kd_30 (hid 30 (by decide)) (v := .int (σ28.1 30 11)) rfl dX11_light_111 ?_
          refine a_callVv C (i := 8) kd_8 (hid 8 (by decide)) ⟨_, _, rfl⟩ (by decide) (S_X4_goOn_8_30_60 (x3 := x1) (x4 := (σ28.1 30 11)) hid hG30 (by omega)) mi_X4_goOn ml_RX11_223 rfl rfl (Nat.le_of_ble_eq_true rfl) (Nat.le_of_ble_eq_true rfl) (Nat.le_of_ble_eq_true rfl) dX11_light_114 (fun σ34 q35 => ?_)
          obtain ⟨hG36, ho37⟩ := q35
          refine a_iload_n C dX11_light_117 (i := 3) rfl rfl ?_
          refine s_bipush C dX11_light_118 (-2) (by decide) (fun z39 h40 => ?_)
          refine s_ic_eq C dX11_light_120 (tgt := 135) rfl (fun c41 => ?_) (fun c41 => ?_)
          ·
            refine AW.sub (vs' := [some (.ref (ad 0)), some (.int x1), some (.int x2), none, none, some (.int y28_5)]) (lsub_of (by simp [lsubB])) ?_
            exact j135 _ hG36 (ony.tr (ony.tr (ony.tr hoq28 (ony.mono ho26 (by decide))) (ony.mono ho31 (by decide))) (ony.mono ho37 (by decide))) (by omega)
          ·
            refine a_aload_n C dX11_light_123 (i := 0) rfl rfl ?_
            refine a_get C fl_RX11_58 (i := 0) kd_0 (hid 0 (by decide)) (v := .ref (ad 60)) rfl dX11_light_124 ?_
            refine a_get C fl_RX11_177 (i := 60) kd_60 (hid 60 (by decide)) (v := .int (σ34.1 60 5)) rfl dX11_light_127 ?_
            refine a_iload C dX11_light_130 rfl ?_
            refine s_ic_ge C dX11_light_132 (tgt := 147) rfl (fun c42 => ?_) (fun c42 => ?_)
            ·
              exact j147 _ y28_3 y28_4 hG36 (ony.tr (ony.tr (ony.tr hoq28 (ony.mono ho26 (by decide))) (ony.mono ho31 (by decide))) (ony.mono ho37 (by decide))) (by omega) (by omega)
            ·
              refine AW.sub (vs' := [some (.ref (ad 0)), some (.int x1), some (.int x2), none, none, some (.int y28_5)]) (lsub_of (by simp [lsubB])) ?_
              exact j135 _ hG36 (ony.tr (ony.tr (ony.tr hoq28 (ony.mono ho26 (by decide))) (ony.mono ho31 (by decide))) (ony.mono ho37 (by decide))) (by omega)
  refine a_iload_n C dX11_light_0 (i := 1) rfl rfl ?_
  refine a_callSi C (S_X11_isSpan (x1 := x1) hid hG) ms_X11_isSpan ml_RX11_307 rfl rfl (Nat.le_of_ble_eq_true rfl) (Nat.le_of_ble_eq_true rfl) (Nat.le_of_ble_eq_true rfl) dX11_light_1 (fun z43 σ44 q45 => ?_)
  obtain ⟨w46, w47, w48⟩ := q45
  rw [w46]
  refine s_if_eq C dX11_light_4 (tgt := 16) rfl (fun c49 => ?_) (fun c49 => ?_)
  ·
    refine s_iconst C dX11_light_16 (-1) (by decide) (fun z50 h51 => ?_)
    exact a_iret Rt dX11_light_17 rfl (⟨hG, ony.rf⟩)
  ·
    refine a_iload_n C dX11_light_7 (i := 2) rfl rfl ?_
    refine s_if_lt C dX11_light_8 (tgt := 16) rfl (fun c52 => ?_) (fun c52 => ?_)
    ·
      refine s_iconst C dX11_light_16 (-1) (by decide) (fun z53 h54 => ?_)
      exact a_iret Rt dX11_light_17 rfl (⟨hG, ony.rf⟩)
    ·
      refine a_iload_n C dX11_light_11 (i := 2) rfl rfl ?_
      refine s_iconst C dX11_light_12 (1) (by decide) (fun z55 h56 => ?_)
      refine s_ic_le C dX11_light_13 (tgt := 18) rfl (fun c57 => ?_) (fun c57 => ?_)
      ·
        refine s_bipush C dX11_light_18 (-2) (by decide) (fun z58 h59 => ?_)
        refine a_istore_n C dX11_light_20 (i := 3) rfl (by decide) rfl (vs1 := [some (.ref (ad 0)), some (.int x1), some (.int x2), some (.int z58), none, none]) rfl ?_
        refine s_bipush C dX11_light_21 (-2) (by decide) (fun z60 h61 => ?_)
        refine a_istore C dX11_light_23 (by decide) rfl (vs1 := [some (.ref (ad 0)), some (.int x1), some (.int x2), some (.int z58), some (.int z60), none]) rfl ?_
        refine s_iconst C dX11_light_25 (0) (by decide) (fun z62 h63 => ?_)
        refine a_istore C dX11_light_26 (by decide) rfl (vs1 := [some (.ref (ad 0)), some (.int x1), some (.int x2), some (.int z58), some (.int z60), some (.int z62)]) rfl ?_
        exact j28 100000 _ z58 z60 z62 (by omega) hG ony.rf (by omega) (by omega) (by omega) (by omega)
      ·
        refine s_iconst C dX11_light_16 (-1) (by decide) (fun z64 h65 => ?_)
        exact a_iret Rt dX11_light_17 rfl (⟨hG, ony.rf⟩)
set_option maxHeartbeats 4000000 in
set_option maxRecDepth 100000 in
theorem S_X11_then_0_t30 {l : Launch} {D : va_G} {ids : List Nat} {ad : Nat → Nat} {ca : Nat → ClassId} {σ : HS} {x1 : Int32} {x2 : Int32} (hid : ∀ i, i < 277 → i ∈ ids) (hG : GIc σ) (htx0 : σ.2.2 0 = 30) (htx1 : σ.2.2 1 = 43) : Ki l D ids ad ca yX11_then cX11_then 3 .int 6 149 [.ref (ad 0), .int x1, .int x2] σ (fun r σ1 => (GIc σ1) ∧ (ony [9, 10, 11, 60, 61, 62, 63] σ σ1)) := by
  refine Ki.of (by decide) (Nat.le_of_ble_eq_true rfl) 0 (fun Γ C Rt => ?_)
  show AW ids ad ca Γ 0 [some (.ref (ad 0)), some (.int x1), some (.int x2)] [] σ
  refine a_iload_n C dX11_then_0 (i := 1) rfl rfl ?_
  refine s_if_lt C dX11_then_1 (tgt := 19) rfl (fun c1 => ?_) (fun c1 => ?_)
  ·
    refine s_iconst C dX11_then_19 (-1) (by decide) (fun z2 h3 => ?_)
    exact a_iret Rt dX11_then_20 rfl (⟨hG, ony.rf⟩)
  ·
    refine a_iload_n C dX11_then_4 (i := 1) rfl rfl ?_
    refine s_bipush C dX11_then_5 (60) (by decide) (fun z4 h5 => ?_)
    refine s_ic_gt C dX11_then_7 (tgt := 19) rfl (fun c6 => ?_) (fun c6 => ?_)
    ·
      refine s_iconst C dX11_then_19 (-1) (by decide) (fun z7 h8 => ?_)
      exact a_iret Rt dX11_then_20 rfl (⟨hG, ony.rf⟩)
    ·
      refine a_iload_n C dX11_then_10 (i := 2) rfl rfl ?_
      refine s_if_lt C dX11_then_11 (tgt := 19) rfl (fun c9 => ?_) (fun c9 => ?_)
      ·
        refine s_iconst C dX11_then_19 (-1) (by decide) (fun z10 h11 => ?_)
        exact a_iret Rt dX11_then_20 rfl (⟨hG, ony.rf⟩)
      ·
        refine a_iload_n C dX11_then_14 (i := 2) rfl rfl ?_
        refine s_iconst C dX11_then_15 (3) (by decide) (fun z12 h13 => ?_)
        refine s_ic_le C dX11_then_16 (tgt := 21) rfl (fun c14 => ?_) (fun c14 => ?_)
        ·
          refine a_aload_n C dX11_then_21 (i := 0) rfl rfl ?_
          refine a_get C fl_RX11_58 (i := 0) kd_0 (hid 0 (by decide)) (v := .ref (ad 60)) rfl dX11_then_22 ?_
          refine a_aload_n C dX11_then_25 (i := 0) rfl rfl ?_
          refine a_get C fl_RX11_54 (i := 0) kd_0 (hid 0 (by decide)) (v := .ref (ad 56)) rfl dX11_then_26 ?_
          refine a_callVv C (i := 60) (n0 := 0) kd_60 (hid 60 (by decide)) ⟨_, _, rfl⟩ (by decide) (S_copy 0 1 rfl rfl (by decide) (by decide) hid hG) mi_X0_copy ml_RX11_230 rfl rfl (Nat.le_of_ble_eq_true rfl) (Nat.le_of_ble_eq_true rfl) (Nat.le_of_ble_eq_true rfl) dX11_then_29 (fun σ15 q16 => ?_)
          obtain ⟨hG17, ho18⟩ := q16
          refine a_aload_n C dX11_then_32 (i := 0) rfl rfl ?_
          refine a_get C fl_RX11_19 (i := 0) kd_0 (hid 0 (by decide)) (v := .ref (ad 8)) rfl dX11_then_33 ?_
          refine a_aload_n C dX11_then_36 (i := 0) rfl rfl ?_
          refine a_get C fl_RX11_82 (i := 0) kd_0 (hid 0 (by decide)) (v := .ref (ad 30)) (congrArg (fun z => some (Value.ref (ad z))) ((congrFun ho18.2 0).trans htx0)) dX11_then_37 ?_
          refine a_aload_n C dX11_then_40 (i := 0) rfl rfl ?_
          refine a_get C fl_RX11_58 (i := 0) kd_0 (hid 0 (by decide)) (v := .ref (ad 60)) rfl dX11_then_41 ?_
          refine a_iload_n C dX11_then_44 (i := 1) rfl rfl ?_
          refine a_aload_n C dX11_then_45 (i := 0) rfl rfl ?_
          refine a_get C fl_RX11_82 (i := 0) kd_0 (hid 0 (by decide)) (v := .ref (ad 30)) (congrArg (fun z => some (Value.ref (ad z))) ((congrFun ho18.2 0).trans htx0)) dX11_then_46 ?_
          refine a_get C fl_RX11_220 (i := 30) kd_30 (hid 30 (by decide)) (v := .int (σ15.1 30 11)) rfl dX11_then_49 ?_
          refine a_callVv C (i := 8) kd_8 (hid 8 (by decide)) ⟨_, _, rfl⟩ (by decide) (S_X4_goOn_8_30_60 (x3 := x1) (x4 := (σ15.1 30 11)) hid hG17 (by omega)) mi_X4_goOn ml_RX11_223 rfl rfl (Nat.le_of_ble_eq_true rfl) (Nat.le_of_ble_eq_true rfl) (Nat.le_of_ble_eq_true rfl) dX11_then_52 (fun σ20 q21 => ?_)
          obtain ⟨hG22, ho23⟩ := q21
          refine a_iload_n C dX11_then_55 (i := 2) rfl rfl ?_
          by_cases hsw : x2.toInt < 0 ∨ 2 < x2.toInt
          ·
            refine a_tableOut C dX11_then_56 hsw (tgt := 116) rfl ?_
            refine a_aload_n C dX11_then_116 (i := 0) rfl rfl ?_
            refine a_get C fl_RX11_58 (i := 0) kd_0 (hid 0 (by decide)) (v := .ref (ad 60)) rfl dX11_then_117 ?_
            refine a_get C fl_RX11_190 (i := 60) kd_60 (hid 60 (by decide)) (v := .int (σ20.1 60 8)) rfl dX11_then_120 ?_
            refine a_aload_n C dX11_then_123 (i := 0) rfl rfl ?_
            refine a_get C fl_RX11_54 (i := 0) kd_0 (hid 0 (by decide)) (v := .ref (ad 56)) rfl dX11_then_124 ?_
            refine a_get C fl_RX11_190 (i := 56) kd_56 (hid 56 (by decide)) (v := .int (σ20.1 56 8)) rfl dX11_then_127 ?_
            refine s_isubU C dX11_then_130 (fun z25 => ?_)
            exact a_iret Rt dX11_then_131 rfl (⟨hG22, (ony.tr (ony.tr ony.rf (ony.mono ho18 (by decide))) (ony.mono ho23 (by decide)))⟩)
          rcases (show x2.toInt = 0 ∨ x2.toInt = 1 ∨ x2.toInt = 2 by omega) with hq | hq | hq
          ·
            refine a_tableIn C dX11_then_56 (by omega) (by omega) (by rw [hq]; rfl) (tgt := 84) rfl ?_
            refine a_aload_n C dX11_then_84 (i := 0) rfl rfl ?_
            refine a_get C fl_RX11_58 (i := 0) kd_0 (hid 0 (by decide)) (v := .ref (ad 60)) rfl dX11_then_85 ?_
            refine a_get C fl_RX11_177 (i := 60) kd_60 (hid 60 (by decide)) (v := .int (σ20.1 60 5)) rfl dX11_then_88 ?_
            exact a_iret Rt dX11_then_91 rfl (⟨hG22, (ony.tr (ony.tr ony.rf (ony.mono ho18 (by decide))) (ony.mono ho23 (by decide)))⟩)
          ·
            refine a_tableIn C dX11_then_56 (by omega) (by omega) (by rw [hq]; rfl) (tgt := 92) rfl ?_
            refine a_aload_n C dX11_then_92 (i := 0) rfl rfl ?_
            refine a_get C fl_RX11_58 (i := 0) kd_0 (hid 0 (by decide)) (v := .ref (ad 60)) rfl dX11_then_93 ?_
            refine a_callVi C (i := 60) kd_60 (hid 60 (by decide)) ⟨_, _, rfl⟩ (by decide) (S_X0_howManyUp_60 hid hG22) mi_X0_howManyUp ml_RX11_156 rfl rfl (Nat.le_of_ble_eq_true rfl) (Nat.le_of_ble_eq_true rfl) (Nat.le_of_ble_eq_true rfl) dX11_then_96 (fun z27 σ28 q29 => ?_)
            rw [q29]
            exact a_iret Rt dX11_then_99 rfl (⟨hG22, (ony.tr (ony.tr ony.rf (ony.mono ho18 (by decide))) (ony.mono ho23 (by decide)))⟩)
          ·
            refine a_tableIn C dX11_then_56 (by omega) (by omega) (by rw [hq]; rfl) (tgt := 100) rfl ?_
            refine a_aload_n C dX11_then_100 (i := 0) rfl rfl ?_
            refine a_get C fl_RX11_58 (i := 0) kd_0 (hid 0 (by decide)) (v := .ref (ad 60)) rfl dX11_then_101 ?_
            refine a_get C fl_RX11_184 (i := 60) kd_60 (hid 60 (by decide)) (v := .int (σ20.1 60 6)) rfl dX11_then_104 ?_
            refine a_aload_n C dX11_then_107 (i := 0) rfl rfl ?_
            refine a_get C fl_RX11_54 (i := 0) kd_0 (hid 0 (by decide)) (v := .ref (ad 56)) rfl dX11_then_108 ?_
            refine a_get C fl_RX11_184 (i := 56) kd_56 (hid 56 (by decide)) (v := .int (σ20.1 56 6)) rfl dX11_then_111 ?_
            refine s_isubU C dX11_then_114 (fun z30 => ?_)
            exact a_iret Rt dX11_then_115 rfl (⟨hG22, (ony.tr (ony.tr ony.rf (ony.mono ho18 (by decide))) (ony.mono ho23 (by decide)))⟩)
        ·
          refine s_iconst C dX11_then_19 (-1) (by decide) (fun z32 h33 => ?_)
          exact a_iret Rt dX11_then_20 rfl (⟨hG, ony.rf⟩)
