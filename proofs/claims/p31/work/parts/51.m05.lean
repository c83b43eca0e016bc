theorem dX12_load_33 : decode cX12_load 33 = .ok (.iload_n 2, 1) := by decide +kernel
theorem dX12_load_34 : decode cX12_load 34 = .ok (.aload_n 0, 1) := by decide +kernel
theorem dX12_load_35 : decode cX12_load 35 = .ok (.getfield 46, 3) := by decide +kernel
theorem dX12_load_38 : decode cX12_load 38 = .ok (.bipush 7, 2) := by decide +kernel
theorem dX12_load_40 : decode cX12_load 40 = .ok (.aload_n 0, 1) := by decide +kernel
theorem dX12_load_41 : decode cX12_load 41 = .ok (.getfield 221, 3) := by decide +kernel
theorem dX12_load_44 : decode cX12_load 44 = .ok (.imul, 1) := by decide +kernel
theorem dX12_load_45 : decode cX12_load 45 = .ok (.aload_n 0, 1) := by decide +kernel
theorem dX12_load_46 : decode cX12_load 46 = .ok (.getfield 341, 3) := by decide +kernel
theorem dX12_load_49 : decode cX12_load 49 = .ok (.iadd, 1) := by decide +kernel
theorem dX12_load_50 : decode cX12_load 50 = .ok (.iaload, 1) := by decide +kernel
theorem dX12_load_51 : decode cX12_load 51 = .ok (.iadd, 1) := by decide +kernel
theorem dX12_load_52 : decode cX12_load 52 = .ok (.istore_n 2, 1) := by decide +kernel
set_option maxHeartbeats 4000000 in
set_option maxRecDepth 100000 in
theorem S_X12_load_236 {l : Launch} {D : va_G} {ids : List Nat} {ad : Nat → Nat} {ca : Nat → ClassId} {σ : HS} {x1 : Int32} (hid : ∀ i, i < 277 → i ∈ ids) (hG : GIm σ) {b : Int} (hR : RKm b σ) : Ki l D ids ad ca yX12_load cX12_load 4 .int 5 122 [.ref (ad 236), .int x1] σ (fun r σ1 => (GIm σ1) ∧ (onm [264, 265, 267, 1046, 1049, 1050, 1051, 1052, 1053, 2021, 2026, 2027] σ σ1) ∧ (RKm b σ1)) := by
  refine Ki.of (by decide) (Nat.le_of_ble_eq_true rfl) 2 (fun Γ C Rt => ?_)
  show AW ids ad ca Γ 0 [some (.ref (ad 236)), some (.int x1), none, none] [] σ
  have j17 : ∀ (d17 : Nat) (σq17 : HS) (y17_2 : Int32) (y17_3 : Int32), 60 - y17_3.toInt < d17 → GIm σq17 → onm [264, 265, 267, 1046, 1049, 1050, 1051, 1052, 1053, 2021, 2026, 2027] σ σq17 → RKm b σq17 → 0 ≤ y17_3.toInt ∧ y17_3.toInt ≤ 60 → 1 ≤ x1.toInt ∧ x1.toInt ≤ 60 → ((σq17.1 267 21).toInt ≤ b + y17_3.toInt) → AW ids ad ca Γ 17 [some (.ref (ad 236)), some (.int x1), some (.int y17_2), some (.int y17_3)] [] σq17 := by
    intro d17
    induction d17 with
    | zero =>
      intro σq17 y17_2 y17_3 hd17 hGq17 hoq17 hRq17 hx17_0 hx17_1 hx17_2
      exfalso
      omega
    | succ d17 ih17 =>
      intro σq17 y17_2 y17_3 hd17 hGq17 hoq17 hRq17 hx17_0 hx17_1 hx17_2
      have j53 : ∀ (σq53 : HS) (y53_2 : Int32), GIm σq53 → onm [264, 265, 267, 1046, 1049, 1050, 1051, 1052, 1053, 2021, 2026, 2027] σ σq53 → RKm b σq53 → 0 ≤ y17_3.toInt ∧ y17_3.toInt ≤ 59 → ((σq53.1 267 21).toInt ≤ b + y17_3.toInt + 1) → AW ids ad ca Γ 53 [some (.ref (ad 236)), some (.int x1), some (.int y53_2), some (.int y17_3)] [] σq53 := by
        intro σq53 y53_2 hGq53 hoq53 hRq53 hx53_0 hx53_1
        refine s_iinc C dX12_load_53 rfl (1) (by decide) (by omega) (by decide) rfl (fun z1 h2 => ?_)
        show AW ids ad ca Γ 56 [some (.ref (ad 236)), some (.int x1), some (.int y53_2), some (.int z1)] _ _
        refine a_goto C dX12_load_56 (tgt := 17) rfl ?_
        exact ih17 _ y53_2 z1 (by omega) hGq53 hoq53 hRq53 (by omega) (by omega) (show (σq53.1 267 21).toInt ≤ b + z1.toInt by omega)
      refine a_iload_n C dX12_load_17 (i := 3) rfl rfl ?_
      refine a_iload_n C dX12_load_18 (i := 1) rfl rfl ?_
      refine s_ic_ge C dX12_load_19 (tgt := 59) rfl (fun c3 => ?_) (fun c3 => ?_)
      ·
        refine a_iload_n C dX12_load_59 (i := 2) rfl rfl ?_
        exact a_iret Rt dX12_load_60 rfl (⟨hGq17, hoq17, hRq17⟩)
      ·
        refine a_aload_n C dX12_load_22 (i := 0) rfl rfl ?_
        refine a_callVv C (i := 236) kd_236 (hid 236 (by decide)) ⟨_, _, rfl⟩ (by decide) (S_X12_beatGoes_236 hid hGq17 hRq17 (by omega)) mi_X12_beatGoes ml_RX12_387 rfl rfl (Nat.le_of_ble_eq_true rfl) (Nat.le_of_ble_eq_true rfl) (Nat.le_of_ble_eq_true rfl) dX12_load_23 (fun σ5 q6 => ?_)
        obtain ⟨hG7, ho8, hR9, w10⟩ := q6
        refine a_aload_n C dX12_load_26 (i := 0) rfl rfl ?_
        have g11 := bF_236_51 hG7
        refine a_get C fl_RX12_341 (i := 236) kd_236 (hid 236 (by decide)) (v := .int (σ5.1 236 51)) rfl dX12_load_27 ?_
        refine s_if_lt C dX12_load_30 (tgt := 53) rfl (fun c12 => ?_) (fun c12 => ?_)
        ·
          exact j53 _ y17_2 hG7 (onm.tr hoq17 (onm.mono ho8 (by decide))) hR9 (by omega) (show (σ5.1 267 21).toInt ≤ b + y17_3.toInt + 1 by omega)
        ·
          refine a_iload_n C dX12_load_33 (i := 2) rfl rfl ?_
          refine a_aload_n C dX12_load_34 (i := 0) rfl rfl ?_
          refine a_get C fl_RX12_46 (i := 236) kd_236 (hid 236 (by decide)) (v := .ref (ad 246)) rfl dX12_load_35 ?_
          refine s_bipush C dX12_load_38 (7) (by decide) (fun z13 h14 => ?_)
          refine a_aload_n C dX12_load_40 (i := 0) rfl rfl ?_
          have g15 := bF_236_18 hG7
          have g16 := bF_236_18 hGq17
          have g17 : (σq17.1 236 18).toInt = (σ.1 236 18).toInt := congrArg Int32.toInt (hoq17.1 236 18 (by decide))
          have g18 : (σ5.1 236 18).toInt = (σq17.1 236 18).toInt := congrArg Int32.toInt (ho8.1 236 18 (by decide))
          refine a_get C fl_RX12_221 (i := 236) kd_236 (hid 236 (by decide)) (v := .int (σ5.1 236 18)) rfl dX12_load_41 ?_
          refine s_imuld C dX12_load_44 (7) (by omega) (by omega) (fun z19 h20 => ?_)
          refine a_aload_n C dX12_load_45 (i := 0) rfl rfl ?_
          refine a_get C fl_RX12_341 (i := 236) kd_236 (hid 236 (by decide)) (v := .int (σ5.1 236 51)) rfl dX12_load_46 ?_
          refine s_iadd C dX12_load_49 (by omega) (fun z21 h22 => ?_)
          refine s_iald C (i := 246) kd_246 (hid 246 (by decide)) al_246 (by omega) (by omega) dX12_load_50 (fun n23 h24 => ?_)
          refine s_val (fun z25 e26 => ?_)
          refine s_iaddU C dX12_load_51 (fun z27 => ?_)
          refine a_istore_n C dX12_load_52 (i := 2) rfl (by decide) rfl (vs1 := [some (.ref (ad 236)), some (.int x1), some (.int z27), some (.int y17_3)]) rfl ?_
          exact j53 _ z27 hG7 (onm.tr hoq17 (onm.mono ho8 (by decide))) hR9 (by omega) (show (σ5.1 267 21).toInt ≤ b + y17_3.toInt + 1 by omega)
  refine a_iload_n C dX12_load_0 (i := 1) rfl rfl ?_
  refine a_callSi C (S_X12_isSome (x1 := x1) hid hG) ms_X12_isSome ml_RX12_454 rfl rfl (Nat.le_of_ble_eq_true rfl) (Nat.le_of_ble_eq_true rfl) (Nat.le_of_ble_eq_true rfl) dX12_load_1 (fun z29 σ30 q31 => ?_)
  obtain ⟨w32, w33, w34⟩ := q31
  rw [w32]
  refine s_if_ne C dX12_load_4 (tgt := 9) rfl (fun c35 => ?_) (fun c35 => ?_)
  ·
    refine a_aload_n C dX12_load_9 (i := 0) rfl rfl ?_
    refine a_callVv C (i := 236) kd_236 (hid 236 (by decide)) ⟨_, _, rfl⟩ (by decide) (S_X12_copiesStill_236 hid hG hR) mi_X12_copiesStill ml_RX12_429 rfl rfl (Nat.le_of_ble_eq_true rfl) (Nat.le_of_ble_eq_true rfl) (Nat.le_of_ble_eq_true rfl) dX12_load_10 (fun σ37 q38 => ?_)
    obtain ⟨hG39, ho40, hR41, w42⟩ := q38
    refine s_iconst C dX12_load_13 (0) (by decide) (fun z43 h44 => ?_)
    refine a_istore_n C dX12_load_14 (i := 2) rfl (by decide) rfl (vs1 := [some (.ref (ad 236)), some (.int x1), some (.int z43), none]) rfl ?_
    refine s_iconst C dX12_load_15 (0) (by decide) (fun z45 h46 => ?_)
    refine a_istore_n C dX12_load_16 (i := 3) rfl (by decide) rfl (vs1 := [some (.ref (ad 236)), some (.int x1), some (.int z43), some (.int z45)]) rfl ?_
    exact j17 100000 _ z43 z45 (by omega) hG39 (onm.tr onm.rf (onm.mono ho40 (by decide))) hR41 (by omega) (by omega) (show (σ37.1 267 21).toInt ≤ b + z45.toInt by omega)
  ·
    refine s_iconst C dX12_load_7 (-1) (by decide) (fun z47 h48 => ?_)
    exact a_iret Rt dX12_load_8 rfl (⟨hG, onm.rf, hR⟩)
theorem dX12_gap_25 : decode cX12_gap 25 = .ok (.iinc 1 1, 3) := by decide +kernel
theorem dX12_gap_28 : decode cX12_gap 28 = .ok (.goto (-22), 3) := by decide +kernel
theorem dX12_gap_31 : decode cX12_gap 31 = .ok (.bipush (-2), 2) := by decide +kernel
theorem dX12_gap_33 : decode cX12_gap 33 = .ok (.ireturn, 1) := by decide +kernel
set_option maxHeartbeats 4000000 in
set_option maxRecDepth 100000 in
theorem S_X12_gap_236 {l : Launch} {D : va_G} {ids : List Nat} {ad : Nat → Nat} {ca : Nat → ClassId} {σ : HS} (hid : ∀ i, i < 277 → i ∈ ids) (hG : GIm σ) {b : Int} (hR : RKm b σ) : Ki l D ids ad ca yX12_gap cX12_gap 2 .int 5 122 [.ref (ad 236)] σ (fun r σ1 => (GIm σ1) ∧ (onm [264, 265, 267, 1046, 1049, 1050, 1051, 1052, 1053, 2021, 2026, 2027] σ σ1) ∧ (RKm b σ1)) := by
  refine Ki.of (by decide) (Nat.le_of_ble_eq_true rfl) 1 (fun Γ C Rt => ?_)
  show AW ids ad ca Γ 0 [some (.ref (ad 236)), none] [] σ
  have j6 : ∀ (d6 : Nat) (σq6 : HS) (y6_1 : Int32), 61 - y6_1.toInt < d6 → GIm σq6 → onm [264, 265, 267, 1046, 1049, 1050, 1051, 1052, 1053, 2021, 2026, 2027] σ σq6 → RKm b σq6 → 0 ≤ y6_1.toInt ∧ y6_1.toInt ≤ 61 → ((σq6.1 267 21).toInt ≤ b + y6_1.toInt) → AW ids ad ca Γ 6 [some (.ref (ad 236)), some (.int y6_1)] [] σq6 := by
    intro d6
    induction d6 with
    | zero =>
      intro σq6 y6_1 hd6 hGq6 hoq6 hRq6 hx6_0 hx6_1
      exfalso
      omega
    | succ d6 ih6 =>
      intro σq6 y6_1 hd6 hGq6 hoq6 hRq6 hx6_0 hx6_1
      refine a_iload_n C dX12_gap_6 (i := 1) rfl rfl ?_
      refine s_bipush C dX12_gap_7 (60) (by decide) (fun z1 h2 => ?_)
      refine s_ic_gt C dX12_gap_9 (tgt := 31) rfl (fun c3 => ?_) (fun c3 => ?_)
      ·
        refine s_bipush C dX12_gap_31 (-2) (by decide) (fun z4 h5 => ?_)
        exact a_iret Rt dX12_gap_33 rfl (⟨hGq6, hoq6, hRq6⟩)
      ·
        refine a_aload_n C dX12_gap_12 (i := 0) rfl rfl ?_
        refine a_callVv C (i := 236) kd_236 (hid 236 (by decide)) ⟨_, _, rfl⟩ (by decide) (S_X12_beatGoes_236 hid hGq6 hRq6 (by omega)) mi_X12_beatGoes ml_RX12_387 rfl rfl (Nat.le_of_ble_eq_true rfl) (Nat.le_of_ble_eq_true rfl) (Nat.le_of_ble_eq_true rfl) dX12_gap_13 (fun σ7 q8 => ?_)
        obtain ⟨hG9, ho10, hR11, w12⟩ := q8
        refine a_aload_n C dX12_gap_16 (i := 0) rfl rfl ?_
        have g13 := bF_236_51 hG9
        refine a_get C fl_RX12_341 (i := 236) kd_236 (hid 236 (by decide)) (v := .int (σ7.1 236 51)) rfl dX12_gap_17 ?_
        refine s_if_ge C dX12_gap_20 (tgt := 25) rfl (fun c14 => ?_) (fun c14 => ?_)
        ·
          refine s_iinc C dX12_gap_25 rfl (1) (by decide) (by omega) (by decide) rfl (fun z15 h16 => ?_)
          show AW ids ad ca Γ 28 [some (.ref (ad 236)), some (.int z15)] _ _
          refine a_goto C dX12_gap_28 (tgt := 6) rfl ?_
          exact ih6 _ z15 (by omega) hG9 (onm.tr hoq6 (onm.mono ho10 (by decide))) hR11 (by omega) (show (σ7.1 267 21).toInt ≤ b + z15.toInt by omega)
        ·
          refine a_iload_n C dX12_gap_23 (i := 1) rfl rfl ?_
          exact a_iret Rt dX12_gap_24 rfl (⟨hG9, (onm.tr hoq6 (onm.mono ho10 (by decide))), hR11⟩)
  refine a_aload_n C dX12_gap_0 (i := 0) rfl rfl ?_
  refine a_callVv C (i := 236) kd_236 (hid 236 (by decide)) ⟨_, _, rfl⟩ (by decide) (S_X12_copiesStill_236 hid hG hR) mi_X12_copiesStill ml_RX12_429 rfl rfl (Nat.le_of_ble_eq_true rfl) (Nat.le_of_ble_eq_true rfl) (Nat.le_of_ble_eq_true rfl) dX12_gap_1 (fun σ18 q19 => ?_)
  obtain ⟨hG20, ho21, hR22, w23⟩ := q19
  refine s_iconst C dX12_gap_4 (0) (by decide) (fun z24 h25 => ?_)
  refine a_istore_n C dX12_gap_5 (i := 1) rfl (by decide) rfl (vs1 := [some (.ref (ad 236)), some (.int z24)]) rfl ?_
  exact j6 100000 _ z24 (by omega) hG20 (onm.tr onm.rf (onm.mono ho21 (by decide))) hR22 (by omega) (show (σ18.1 267 21).toInt ≤ b + z24.toInt by omega)
theorem dX12_takesPattern_0 : decode cX12_takesPattern 0 = .ok (.iconst 0, 1) := by decide +kernel
theorem dX12_takesPattern_1 : decode cX12_takesPattern 1 = .ok (.istore_n 3, 1) := by decide +kernel
theorem dX12_takesPattern_2 : decode cX12_takesPattern 2 = .ok (.iload_n 3, 1) := by decide +kernel
theorem dX12_takesPattern_3 : decode cX12_takesPattern 3 = .ok (.aload_n 0, 1) := by decide +kernel
theorem dX12_takesPattern_4 : decode cX12_takesPattern 4 = .ok (.iload_n 1, 1) := by decide +kernel
theorem dX12_takesPattern_5 : decode cX12_takesPattern 5 = .ok (.invokevirtual 318, 3) := by decide +kernel
theorem dX12_takesPattern_8 : decode cX12_takesPattern 8 = .ok (.if_icmp .ge 23, 3) := by decide +kernel
theorem dX12_takesPattern_11 : decode cX12_takesPattern 11 = .ok (.aload_n 0, 1) := by decide +kernel
theorem dX12_takesPattern_12 : decode cX12_takesPattern 12 = .ok (.getfield 116, 3) := by decide +kernel
theorem dX12_takesPattern_15 : decode cX12_takesPattern 15 = .ok (.iload_n 2, 1) := by decide +kernel
theorem dX12_takesPattern_16 : decode cX12_takesPattern 16 = .ok (.iload_n 3, 1) := by decide +kernel
theorem dX12_takesPattern_17 : decode cX12_takesPattern 17 = .ok (.iadd, 1) := by decide +kernel
theorem dX12_takesPattern_18 : decode cX12_takesPattern 18 = .ok (.aload_n 0, 1) := by decide +kernel
theorem dX12_takesPattern_19 : decode cX12_takesPattern 19 = .ok (.iload_n 1, 1) := by decide +kernel
theorem dX12_takesPattern_20 : decode cX12_takesPattern 20 = .ok (.iload_n 3, 1) := by decide +kernel
theorem dX12_takesPattern_21 : decode cX12_takesPattern 21 = .ok (.invokevirtual 321, 3) := by decide +kernel
theorem dX12_takesPattern_24 : decode cX12_takesPattern 24 = .ok (.iastore, 1) := by decide +kernel
theorem dX12_takesPattern_25 : decode cX12_takesPattern 25 = .ok (.iinc 3 1, 3) := by decide +kernel
theorem dX12_takesPattern_28 : decode cX12_takesPattern 28 = .ok (.goto (-26), 3) := by decide +kernel
theorem dX12_takesPattern_31 : decode cX12_takesPattern 31 = .ok (.aload_n 0, 1) := by decide +kernel
theorem dX12_takesPattern_32 : decode cX12_takesPattern 32 = .ok (.iload_n 2, 1) := by decide +kernel
theorem dX12_takesPattern_33 : decode cX12_takesPattern 33 = .ok (.aload_n 0, 1) := by decide +kernel
theorem dX12_takesPattern_34 : decode cX12_takesPattern 34 = .ok (.iload_n 1, 1) := by decide +kernel
theorem dX12_takesPattern_35 : decode cX12_takesPattern 35 = .ok (.invokevirtual 318, 3) := by decide +kernel
theorem dX12_takesPattern_38 : decode cX12_takesPattern 38 = .ok (.iadd, 1) := by decide +kernel
theorem dX12_takesPattern_39 : decode cX12_takesPattern 39 = .ok (.putfield 408, 3) := by decide +kernel
theorem dX12_takesPattern_42 : decode cX12_takesPattern 42 = .ok (.return_, 1) := by decide +kernel
set_option maxHeartbeats 4000000 in
set_option maxRecDepth 100000 in
theorem S_X12_takesPattern_236 {l : Launch} {D : va_G} {ids : List Nat} {ad : Nat → Nat} {ca : Nat → ClassId} {σ : HS} {x1 : Int32} {x2 : Int32} (hid : ∀ i, i < 277 → i ∈ ids) (hG : GIm σ) {b : Int} (hR : RKm b σ) (hx1 : 0 ≤ x1.toInt ∧ x1.toInt ≤ 4) (hx2 : 0 ≤ x2.toInt ∧ x2.toInt ≤ 8) (hp0 : 0 ≤ x1.toInt ∧ x1.toInt ≤ 4 ∧ x1.toInt < plm σ) : Kv l D ids ad ca yX12_takesPattern cX12_takesPattern 4 2 43 [.ref (ad 236), .int x1, .int x2] σ (fun σ1 => (GIm σ1) ∧ (onm [269, 1057] σ σ1) ∧ (RKm b σ1) ∧ (1 ≤ (σ1.1 236 57).toInt)) := by
  refine Kv.of (by decide) (Nat.le_of_ble_eq_true rfl) 1 (fun Γ C Rt => ?_)
  show AW ids ad ca Γ 0 [some (.ref (ad 236)), some (.int x1), some (.int x2), none] [] σ
  have j2 : ∀ (d2 : Nat) (σq2 : HS) (y2_3 : Int32), 8 - y2_3.toInt < d2 → GIm σq2 → onm [269, 1057] σ σq2 → RKm b σq2 → 0 ≤ y2_3.toInt ∧ y2_3.toInt ≤ 8 → AW ids ad ca Γ 2 [some (.ref (ad 236)), some (.int x1), some (.int x2), some (.int y2_3)] [] σq2 := by
    intro d2
    induction d2 with
    | zero =>
      intro σq2 y2_3 hd2 hGq2 hoq2 hRq2 hx2_0
      exfalso
      omega
    | succ d2 ih2 =>
      intro σq2 y2_3 hd2 hGq2 hoq2 hRq2 hx2_0
      refine a_iload_n C dX12_takesPattern_2 (i := 3) rfl rfl ?_
      refine a_aload_n C dX12_takesPattern_3 (i := 0) rfl rfl ?_
      refine a_iload_n C dX12_takesPattern_4 (i := 1) rfl rfl ?_
      have g4 := onm.pl (hoq2 : onm [269, 1057] σ _) (by decide)
      refine a_callVi C (i := 236) kd_236 (hid 236 (by decide)) ⟨_, _, rfl⟩ (by decide) (S_X12_lengthOf_236 (x1 := x1) hid hGq2 hRq2 (by omega) (by omega)) mi_X12_lengthOf ml_RX12_318 rfl rfl (Nat.le_of_ble_eq_true rfl) (Nat.le_of_ble_eq_true rfl) (Nat.le_of_ble_eq_true rfl) dX12_takesPattern_5 (fun z1 σ2 q3 => ?_)
      obtain ⟨w5, w6⟩ := q3
      rw [w5]
      refine s_ic_ge C dX12_takesPattern_8 (tgt := 31) rfl (fun c7 => ?_) (fun c7 => ?_)
      ·
        refine a_aload_n C dX12_takesPattern_31 (i := 0) rfl rfl ?_
        refine a_iload_n C dX12_takesPattern_32 (i := 2) rfl rfl ?_
        refine a_aload_n C dX12_takesPattern_33 (i := 0) rfl rfl ?_
        refine a_iload_n C dX12_takesPattern_34 (i := 1) rfl rfl ?_
        have g11 := onm.pl (hoq2 : onm [269, 1057] σ _) (by decide)
        refine a_callVi C (i := 236) kd_236 (hid 236 (by decide)) ⟨_, _, rfl⟩ (by decide) (S_X12_lengthOf_236 (x1 := x1) hid hGq2 hRq2 (by omega) (by omega)) mi_X12_lengthOf ml_RX12_318 rfl rfl (Nat.le_of_ble_eq_true rfl) (Nat.le_of_ble_eq_true rfl) (Nat.le_of_ble_eq_true rfl) dX12_takesPattern_35 (fun z8 σ9 q10 => ?_)
        obtain ⟨w12, w13⟩ := q10
        rw [w12]
        refine s_iadd C dX12_takesPattern_38 (by omega) (fun z14 h15 => ?_)
        refine a_put C fp_RX12_408 (i := 236) kd_236 (hid 236 (by decide)) rfl rfl dX12_takesPattern_39 ?_
        have hG16 := wF_236_57 (v := z14) hGq2 (by omega) (by omega)
        have hR17 := RKm.ony (σ1 := hI _ 236 57 z14) hRq2 (onm.F (L := [1057]) onm.rf (by decide)) (by decide)
        exact a_vret Rt dX12_takesPattern_42 (⟨hG16, (onm.F hoq2 (by decide)), hR17, (show 1 ≤ z14.toInt by intros; omega)⟩)
      ·
        refine a_aload_n C dX12_takesPattern_11 (i := 0) rfl rfl ?_
        refine a_get C fl_RX12_116 (i := 236) kd_236 (hid 236 (by decide)) (v := .ref (ad 269)) rfl dX12_takesPattern_12 ?_
        refine a_iload_n C dX12_takesPattern_15 (i := 2) rfl rfl ?_
        refine a_iload_n C dX12_takesPattern_16 (i := 3) rfl rfl ?_
        refine s_iadd C dX12_takesPattern_17 (by omega) (fun z18 h19 => ?_)
        refine a_aload_n C dX12_takesPattern_18 (i := 0) rfl rfl ?_
        refine a_iload_n C dX12_takesPattern_19 (i := 1) rfl rfl ?_
        refine a_iload_n C dX12_takesPattern_20 (i := 3) rfl rfl ?_
        have g23 := onm.pl (hoq2 : onm [269, 1057] σ _) (by decide)
        refine a_callVi C (i := 236) kd_236 (hid 236 (by decide)) ⟨_, _, rfl⟩ (by decide) (S_X12_heightAt_236 (x1 := x1) (x2 := y2_3) hid hGq2 hRq2 (by omega) (by omega) (by omega)) mi_X12_heightAt ml_RX12_321 rfl rfl (Nat.le_of_ble_eq_true rfl) (Nat.le_of_ble_eq_true rfl) (Nat.le_of_ble_eq_true rfl) dX12_takesPattern_21 (fun z20 σ21 q22 => ?_)
        obtain ⟨w24, w25⟩ := q22
        rw [w24]
        refine s_iast C (i := 269) kd_269 (hid 269 (by decide)) al_269 (by omega) (by omega) dX12_takesPattern_24 (fun n26 h27 => ?_)
        have hG28 := wA_269 (v := z20) (j := n26) hGq2 (by omega) (by omega)
        have hR29 := RKm.ony (σ1 := hI _ 269 n26 z20) hRq2 (onm.I (L := [269]) onm.rf (by decide)) (by decide)
        refine s_iinc C dX12_takesPattern_25 rfl (1) (by decide) (by omega) (by decide) rfl (fun z30 h31 => ?_)
        show AW ids ad ca Γ 28 [some (.ref (ad 236)), some (.int x1), some (.int x2), some (.int z30)] _ _
        refine a_goto C dX12_takesPattern_28 (tgt := 2) rfl ?_
        exact ih2 _ z30 (by omega) hG28 (onm.I hoq2 (by decide)) hR29 (by omega)
  refine s_iconst C dX12_takesPattern_0 (0) (by decide) (fun z32 h33 => ?_)
  refine a_istore_n C dX12_takesPattern_1 (i := 3) rfl (by decide) rfl (vs1 := [some (.ref (ad 236)), some (.int x1), some (.int x2), some (.int z32)]) rfl ?_
  exact j2 100000 _ z32 (by omega) hG onm.rf hR (by omega)
set_option maxHeartbeats 4000000 in
set_option maxRecDepth 100000 in
theorem S_X12_keeps_236 {l : Launch} {D : va_G} {ids : List Nat} {ad : Nat → Nat} {ca : Nat → ClassId} {σ : HS} (hid : ∀ i, i < 277 → i ∈ ids) (hG : GIm σ) (hp0 : 1 ≤ (σ.1 236 57).toInt) : Ki l D ids ad ca yX12_keeps cX12_keeps 5 .int 0 0 [.ref (ad 236)] σ (fun r σ1 => (σ1 = σ)) := by
  refine Ki.of (by decide) (Nat.le_of_ble_eq_true rfl) 4 (fun Γ C Rt => ?_)
  show AW ids ad ca Γ 0 [some (.ref (ad 236)), none, none, none, none] [] σ
  have j6 : ∀ (d6 : Nat) (y6_1 : Int32) (y6_2 : Int32) (y6_3 : Int32), 16 - y6_3.toInt < d6 → 0 ≤ y6_3.toInt ∧ y6_3.toInt ≤ 16 → AW ids ad ca Γ 6 [some (.ref (ad 236)), some (.int y6_1), some (.int y6_2), some (.int y6_3), none] [] σ := by
    intro d6
    induction d6 with
    | zero =>
      intro y6_1 y6_2 y6_3 hd6 hx6_0
      exfalso
      omega
    | succ d6 ih6 =>
      intro y6_1 y6_2 y6_3 hd6 hx6_0
      refine a_iload_n C dX12_keeps_6 (i := 3) rfl rfl ?_
      refine a_aload_n C dX12_keeps_7 (i := 0) rfl rfl ?_
      have g1 := bF_236_57 hG
      refine a_get C fl_RX12_408 (i := 236) kd_236 (hid 236 (by decide)) (v := .int (σ.1 236 57)) rfl dX12_keeps_8 ?_
      refine s_ic_ge C dX12_keeps_11 (tgt := 64) rfl (fun c2 => ?_) (fun c2 => ?_)
      ·
        refine a_iload_n C dX12_keeps_64 (i := 2) rfl rfl ?_
        refine a_aload_n C dX12_keeps_65 (i := 0) rfl rfl ?_
        refine a_get C fl_RX12_408 (i := 236) kd_236 (hid 236 (by decide)) (v := .int (σ.1 236 57)) rfl dX12_keeps_66 ?_
        refine s_idivU C dX12_keeps_69 (by omega) (fun z3 => ?_)
        exact a_iret Rt dX12_keeps_70 rfl (rfl)
      ·
        refine a_iload_n C dX12_keeps_14 (i := 3) rfl rfl ?_
        refine a_aload_n C dX12_keeps_15 (i := 0) rfl rfl ?_
        refine a_get C fl_RX12_116 (i := 236) kd_236 (hid 236 (by decide)) (v := .ref (ad 269)) rfl dX12_keeps_16 ?_
        refine a_iload_n C dX12_keeps_19 (i := 3) rfl rfl ?_
        refine s_iald C (i := 269) kd_269 (hid 269 (by decide)) al_269 (by omega) (by omega) dX12_keeps_20 (fun n5 h6 => ?_)
        refine s_val (fun z7 e8 => ?_)
        have g9 := bA_269 hG n5
        rw [e8] at g9
        refine s_iadd C dX12_keeps_21 (by omega) (fun z10 h11 => ?_)
        refine a_aload_n C dX12_keeps_22 (i := 0) rfl rfl ?_
        refine a_get C fl_RX12_408 (i := 236) kd_236 (hid 236 (by decide)) (v := .int (σ.1 236 57)) rfl dX12_keeps_23 ?_
        refine s_iremU C dX12_keeps_26 (by omega) (fun z12 => ?_)
        refine a_istore C dX12_keeps_27 (by decide) rfl (vs1 := [some (.ref (ad 236)), some (.int y6_1), some (.int y6_2), some (.int y6_3), some (.int z12)]) rfl ?_
        refine a_iload_n C dX12_keeps_29 (i := 1) rfl rfl ?_
        refine a_iload C dX12_keeps_30 rfl ?_
        refine s_ishrU C dX12_keeps_32 (fun z14 => ?_)
        refine s_iconst C dX12_keeps_33 (1) (by decide) (fun z16 h17 => ?_)
        refine s_iand C dX12_keeps_34 (by omega) (fun z18 h19 => ?_)
        refine s_iconst C dX12_keeps_35 (1) (by decide) (fun z20 h21 => ?_)
        refine s_ic_ne C dX12_keeps_36 (tgt := 42) rfl (fun c22 => ?_) (fun c22 => ?_)
        ·
          refine a_iload_n C dX12_keeps_42 (i := 1) rfl rfl ?_
          refine s_iconst C dX12_keeps_43 (1) (by decide) (fun z23 h24 => ?_)
          refine a_iload C dX12_keeps_44 rfl ?_
          refine s_ishlU C dX12_keeps_46 (fun z25 => ?_)
          refine s_iorU C dX12_keeps_47 (fun z27 => ?_)
          refine a_istore_n C dX12_keeps_48 (i := 1) rfl (by decide) rfl (vs1 := [some (.ref (ad 236)), some (.int z27), some (.int y6_2), some (.int y6_3), some (.int z12)]) rfl ?_
          refine a_iload_n C dX12_keeps_49 (i := 2) rfl rfl ?_
          refine a_aload_n C dX12_keeps_50 (i := 0) rfl rfl ?_
          refine a_get C fl_RX12_116 (i := 236) kd_236 (hid 236 (by decide)) (v := .ref (ad 269)) rfl dX12_keeps_51 ?_
          refine a_iload_n C dX12_keeps_54 (i := 3) rfl rfl ?_
          refine s_iald C (i := 269) kd_269 (hid 269 (by decide)) al_269 (by omega) (by omega) dX12_keeps_55 (fun n29 h30 => ?_)
          refine s_val (fun z31 e32 => ?_)
          have g33 : z31.toInt = z7.toInt := congrArg Int32.toInt (e32.symm.trans ((congrArg (σ.1 269) (show n29 = n5 by omega)).trans e8))
          have g34 := bA_269 hG n29
          rw [e32] at g34
          refine s_iaddU C dX12_keeps_56 (fun z35 => ?_)
          refine a_istore_n C dX12_keeps_57 (i := 2) rfl (by decide) rfl (vs1 := [some (.ref (ad 236)), some (.int z27), some (.int z35), some (.int y6_3), some (.int z12)]) rfl ?_
          refine s_iinc C dX12_keeps_58 rfl (1) (by decide) (by omega) (by decide) rfl (fun z37 h38 => ?_)
          show AW ids ad ca Γ 61 [some (.ref (ad 236)), some (.int z27), some (.int z35), some (.int z37), some (.int z12)] _ _
          refine a_goto C dX12_keeps_61 (tgt := 6) rfl ?_
          refine AW.sub (vs' := [some (.ref (ad 236)), some (.int z27), some (.int z35), some (.int z37), none]) (lsub_of (by simp [lsubB])) ?_
          exact ih6 z27 z35 z37 (by omega) (by omega)
        ·
          refine s_bipush C dX12_keeps_39 (-2) (by decide) (fun z39 h40 => ?_)
          exact a_iret Rt dX12_keeps_41 rfl (rfl)
  refine s_iconst C dX12_keeps_0 (0) (by decide) (fun z41 h42 => ?_)
  refine a_istore_n C dX12_keeps_1 (i := 1) rfl (by decide) rfl (vs1 := [some (.ref (ad 236)), some (.int z41), none, none, none]) rfl ?_
  refine s_iconst C dX12_keeps_2 (0) (by decide) (fun z43 h44 => ?_)
  refine a_istore_n C dX12_keeps_3 (i := 2) rfl (by decide) rfl (vs1 := [some (.ref (ad 236)), some (.int z41), some (.int z43), none, none]) rfl ?_
  refine s_iconst C dX12_keeps_4 (0) (by decide) (fun z45 h46 => ?_)
  refine a_istore_n C dX12_keeps_5 (i := 3) rfl (by decide) rfl (vs1 := [some (.ref (ad 236)), some (.int z41), some (.int z43), some (.int z45), none]) rfl ?_
  exact j6 100000 z41 z43 z45 (by omega) (by omega)
theorem dX12_keepsOf_0 : decode cX12_keepsOf 0 = .ok (.aload_n 0, 1) := by decide +kernel
theorem dX12_keepsOf_1 : decode cX12_keepsOf 1 = .ok (.iload_n 1, 1) := by decide +kernel
theorem dX12_keepsOf_2 : decode cX12_keepsOf 2 = .ok (.iconst 0, 1) := by decide +kernel
theorem dX12_keepsOf_3 : decode cX12_keepsOf 3 = .ok (.invokevirtual 411, 3) := by decide +kernel
theorem dX12_keepsOf_6 : decode cX12_keepsOf 6 = .ok (.aload_n 0, 1) := by decide +kernel
theorem dX12_keepsOf_7 : decode cX12_keepsOf 7 = .ok (.invokevirtual 414, 3) := by decide +kernel
theorem dX12_keepsOf_10 : decode cX12_keepsOf 10 = .ok (.ireturn, 1) := by decide +kernel
set_option maxHeartbeats 4000000 in
set_option maxRecDepth 100000 in
theorem S_X12_keepsOf_236 {l : Launch} {D : va_G} {ids : List Nat} {ad : Nat → Nat} {ca : Nat → ClassId} {σ : HS} {x1 : Int32} (hid : ∀ i, i < 277 → i ∈ ids) (hG : GIm σ) {b : Int} (hR : RKm b σ) (hx1 : 0 ≤ x1.toInt ∧ x1.toInt ≤ 4) (hp0 : 0 ≤ x1.toInt ∧ x1.toInt ≤ 4 ∧ x1.toInt < plm σ) : Ki l D ids ad ca yX12_keepsOf cX12_keepsOf 2 .int 3 66 [.ref (ad 236), .int x1] σ (fun r σ1 => (GIm σ1) ∧ (onm [269, 1057] σ σ1) ∧ (RKm b σ1) ∧ (1 ≤ (σ1.1 236 57).toInt)) := by
  refine Ki.of (by decide) (Nat.le_of_ble_eq_true rfl) 0 (fun Γ C Rt => ?_)
  show AW ids ad ca Γ 0 [some (.ref (ad 236)), some (.int x1)] [] σ
  refine a_aload_n C dX12_keepsOf_0 (i := 0) rfl rfl ?_
  refine a_iload_n C dX12_keepsOf_1 (i := 1) rfl rfl ?_
  refine s_iconst C dX12_keepsOf_2 (0) (by decide) (fun z1 h2 => ?_)
  have g6 := onm.pl (onm.rf : onm [269, 1057] σ _) (by decide)
  refine a_callVv C (i := 236) kd_236 (hid 236 (by decide)) ⟨_, _, rfl⟩ (by decide) (S_X12_takesPattern_236 (x1 := x1) (x2 := z1) hid hG hR (by omega) (by omega) (by omega)) mi_X12_takesPattern ml_RX12_411 rfl rfl (Nat.le_of_ble_eq_true rfl) (Nat.le_of_ble_eq_true rfl) (Nat.le_of_ble_eq_true rfl) dX12_keepsOf_3 (fun σ4 q5 => ?_)
  obtain ⟨hG7, ho8, hR9, w10⟩ := q5
  refine a_aload_n C dX12_keepsOf_6 (i := 0) rfl rfl ?_
  have g14 := bF_236_57 hG7
  refine a_callVi C (i := 236) kd_236 (hid 236 (by decide)) ⟨_, _, rfl⟩ (by decide) (S_X12_keeps_236 hid hG7 (by omega)) mi_X12_keeps ml_RX12_414 rfl rfl (Nat.le_of_ble_eq_true rfl) (Nat.le_of_ble_eq_true rfl) (Nat.le_of_ble_eq_true rfl) dX12_keepsOf_7 (fun z11 σ12 q13 => ?_)
  rw [q13]
  exact a_iret Rt dX12_keepsOf_10 rfl (⟨hG7, (onm.tr onm.rf (onm.mono ho8 (by decide))), hR9, (show 1 ≤ (σ4.1 236 57).toInt by intros; omega)⟩)
theorem dX12_light_42 : decode cX12_light 42 = .ok (.aload_n 0, 1) := by decide +kernel
theorem dX12_light_43 : decode cX12_light 43 = .ok (.invokevirtual 429, 3) := by decide +kernel
theorem dX12_light_46 : decode cX12_light 46 = .ok (.aload_n 0, 1) := by decide +kernel
theorem dX12_light_47 : decode cX12_light 47 = .ok (.iload 5, 2) := by decide +kernel
theorem dX12_light_49 : decode cX12_light 49 = .ok (.invokevirtual 417, 3) := by decide +kernel
theorem dX12_light_52 : decode cX12_light 52 = .ok (.aload_n 0, 1) := by decide +kernel
theorem dX12_light_53 : decode cX12_light 53 = .ok (.iconst 0, 1) := by decide +kernel
theorem dX12_light_54 : decode cX12_light 54 = .ok (.invokevirtual 350, 3) := by decide +kernel
theorem dX12_light_57 : decode cX12_light 57 = .ok (.invokestatic 353, 3) := by decide +kernel
theorem dX12_light_60 : decode cX12_light 60 = .ok (.if_icmp .eq 6, 3) := by decide +kernel
theorem dX12_light_63 : decode cX12_light 63 = .ok (.goto 45, 3) := by decide +kernel
theorem dX12_light_66 : decode cX12_light 66 = .ok (.aload_n 0, 1) := by decide +kernel
theorem dX12_light_67 : decode cX12_light 67 = .ok (.iload 5, 2) := by decide +kernel
theorem dX12_light_69 : decode cX12_light 69 = .ok (.invokevirtual 399, 3) := by decide +kernel
theorem dX12_light_72 : decode cX12_light 72 = .ok (.aload_n 0, 1) := by decide +kernel
theorem dX12_light_73 : decode cX12_light 73 = .ok (.iload_n 1, 1) := by decide +kernel
theorem dX12_light_74 : decode cX12_light 74 = .ok (.invokevirtual 405, 3) := by decide +kernel
theorem dX12_light_77 : decode cX12_light 77 = .ok (.iload_n 3, 1) := by decide +kernel
theorem dX12_light_78 : decode cX12_light 78 = .ok (.ifCond .lt 18, 3) := by decide +kernel
theorem dX12_light_81 : decode cX12_light 81 = .ok (.aload_n 0, 1) := by decide +kernel
theorem dX12_light_82 : decode cX12_light 82 = .ok (.getfield 110, 3) := by decide +kernel
theorem dX12_light_85 : decode cX12_light 85 = .ok (.bipush 22, 2) := by decide +kernel
theorem dX12_light_87 : decode cX12_light 87 = .ok (.iaload, 1) := by decide +kernel
theorem dX12_light_88 : decode cX12_light 88 = .ok (.iload 4, 2) := by decide +kernel
theorem dX12_light_90 : decode cX12_light 90 = .ok (.if_icmp .lt 6, 3) := by decide +kernel
theorem dX12_light_93 : decode cX12_light 93 = .ok (.goto 15, 3) := by decide +kernel
theorem dX12_light_96 : decode cX12_light 96 = .ok (.iload 5, 2) := by decide +kernel
theorem dX12_light_98 : decode cX12_light 98 = .ok (.istore_n 3, 1) := by decide +kernel
theorem dX12_light_99 : decode cX12_light 99 = .ok (.aload_n 0, 1) := by decide +kernel
theorem dX12_light_100 : decode cX12_light 100 = .ok (.getfield 110, 3) := by decide +kernel
theorem dX12_light_103 : decode cX12_light 103 = .ok (.bipush 22, 2) := by decide +kernel
theorem dX12_light_105 : decode cX12_light 105 = .ok (.iaload, 1) := by decide +kernel
theorem dX12_light_106 : decode cX12_light 106 = .ok (.istore 4, 2) := by decide +kernel
theorem dX12_light_108 : decode cX12_light 108 = .ok (.iinc 5 1, 3) := by decide +kernel
theorem dX12_light_111 : decode cX12_light 111 = .ok (.goto (-83), 3) := by decide +kernel
set_option maxHeartbeats 4000000 in
set_option maxRecDepth 100000 in
theorem S_X12_light_236 {l : Launch} {D : va_G} {ids : List Nat} {ad : Nat → Nat} {ca : Nat → ClassId} {σ : HS} {x1 : Int32} {x2 : Int32} (hid : ∀ i, i < 277 → i ∈ ids) (hG : GIm σ) {b : Int} (hR : RKm b σ) : Ki l D ids ad ca yX12_light cX12_light 6 .int 6 144 [.ref (ad 236), .int x1, .int x2] σ (fun r σ1 => (GIm σ1) ∧ (onm [264, 265, 267, 269, 1046, 1049, 1050, 1051, 1052, 1053, 1057, 2021, 2026, 2027] σ σ1) ∧ (RKm b σ1)) := by
  refine Ki.of (by decide) (Nat.le_of_ble_eq_true rfl) 3 (fun Γ C Rt => ?_)
  show AW ids ad ca Γ 0 [some (.ref (ad 236)), some (.int x1), some (.int x2), none, none, none] [] σ
  have j28 : ∀ (d28 : Nat) (σq28 : HS) (y28_3 : Int32) (y28_4 : Int32) (y28_5 : Int32), 5 - y28_5.toInt < d28 → GIm σq28 → onm [264, 265, 267, 269, 1046, 1049, 1050, 1051, 1052, 1053, 1057, 2021, 2026, 2027] σ σq28 → RKm b σq28 → -2 ≤ y28_3.toInt ∧ y28_3.toInt ≤ 4 → 0 ≤ y28_5.toInt ∧ y28_5.toInt ≤ 5 → 1 ≤ x1.toInt ∧ x1.toInt ≤ 60 → AW ids ad ca Γ 28 [some (.ref (ad 236)), some (.int x1), some (.int x2), some (.int y28_3), some (.int y28_4), some (.int y28_5)] [] σq28 := by
    intro d28
    induction d28 with
    | zero =>
      intro σq28 y28_3 y28_4 y28_5 hd28 hGq28 hoq28 hRq28 hx28_0 hx28_1 hx28_2
      exfalso
      omega
    | succ d28 ih28 =>
      intro σq28 y28_3 y28_4 y28_5 hd28 hGq28 hoq28 hRq28 hx28_0 hx28_1 hx28_2
      have j108 : ∀ (σq108 : HS) (y108_3 : Int32) (y108_4 : Int32), GIm σq108 → onm [264, 265, 267, 269, 1046, 1049, 1050, 1051, 1052, 1053, 1057, 2021, 2026, 2027] σ σq108 → RKm b σq108 → -2 ≤ y108_3.toInt ∧ y108_3.toInt ≤ 4 → 0 ≤ y28_5.toInt ∧ y28_5.toInt ≤ 4 → AW ids ad ca Γ 108 [some (.ref (ad 236)), some (.int x1), some (.int x2), some (.int y108_3), some (.int y108_4), some (.int y28_5)] [] σq108 := by
        intro σq108 y108_3 y108_4 hGq108 hoq108 hRq108 hx108_0 hx108_1
        refine s_iinc C dX12_light_108 rfl (1) (by decide) (by omega) (by decide) rfl (fun z1 h2 => ?_)
        show AW ids ad ca Γ 111 [some (.ref (ad 236)), some (.int x1), some (.int x2), some (.int y108_3), some (.int y108_4), some (.int z1)] _ _
        refine a_goto C dX12_light_111 (tgt := 28) rfl ?_
        exact ih28 _ y108_3 y108_4 z1 (by omega) hGq108 hoq108 hRq108 (by omega) (by omega) (by omega)
      have j96 : ∀ (σq96 : HS), GIm σq96 → onm [264, 265, 267, 269, 1046, 1049, 1050, 1051, 1052, 1053, 1057, 2021, 2026, 2027] σ σq96 → RKm b σq96 → 0 ≤ y28_5.toInt ∧ y28_5.toInt ≤ 4 → AW ids ad ca Γ 96 [some (.ref (ad 236)), some (.int x1), some (.int x2), none, none, some (.int y28_5)] [] σq96 := by
        intro σq96 hGq96 hoq96 hRq96 hx96_0
        refine a_iload C dX12_light_96 rfl ?_
        refine a_istore_n C dX12_light_98 (i := 3) rfl (by decide) rfl (vs1 := [some (.ref (ad 236)), some (.int x1), some (.int x2), some (.int y28_5), none, some (.int y28_5)]) rfl ?_
        refine a_aload_n C dX12_light_99 (i := 0) rfl rfl ?_
        refine a_get C fl_RX12_110 (i := 236) kd_236 (hid 236 (by decide)) (v := .ref (ad 267)) rfl dX12_light_100 ?_
        refine s_bipush C dX12_light_103 (22) (by decide) (fun z3 h4 => ?_)
        refine s_iald C (i := 267) kd_267 (hid 267 (by decide)) al_267 (by omega) (by omega) dX12_light_105 (fun n5 h6 => ?_)
        refine s_val (fun z7 e8 => ?_)
        refine a_istore C dX12_light_106 (by decide) rfl (vs1 := [some (.ref (ad 236)), some (.int x1), some (.int x2), some (.int y28_5), some (.int z7), some (.int y28_5)]) rfl ?_
        exact j108 _ y28_5 z7 hGq96 hoq96 hRq96 (by omega) (by omega)
      refine a_iload C dX12_light_28 rfl ?_
      refine a_aload_n C dX12_light_30 (i := 0) rfl rfl ?_
      refine a_get C fl_RX12_55 (i := 236) kd_236 (hid 236 (by decide)) (v := .ref (ad 249)) rfl dX12_light_31 ?_
      refine a_aload_n C dX12_light_34 (i := 0) rfl rfl ?_
      have g9 := bF_236_18 hGq28
      have g10 : (σq28.1 236 18).toInt = (σ.1 236 18).toInt := congrArg Int32.toInt (hoq28.1 236 18 (by decide))
      refine a_get C fl_RX12_221 (i := 236) kd_236 (hid 236 (by decide)) (v := .int (σq28.1 236 18)) rfl dX12_light_35 ?_
      refine s_iald C (i := 249) kd_249 (hid 249 (by decide)) al_249 (by omega) (by omega) dX12_light_38 (fun n11 h12 => ?_)
      refine s_val (fun z13 e14 => ?_)
      have g15 := bA_249 hGq28 n11
      rw [e14] at g15
      have gp : plm σq28 = z13.toInt := by unfold plm; rw [show (σq28.1 236 18).toInt.toNat = n11 by omega, e14]
      have gp2 := onm.pl (hoq28 : onm [264, 265, 267, 269, 1046, 1049, 1050, 1051, 1052, 1053, 1057, 2021, 2026, 2027] σ _) (by decide)
      refine s_ic_ge C dX12_light_39 (tgt := 114) rfl (fun c16 => ?_) (fun c16 => ?_)
      ·
        refine a_iload_n C dX12_light_114 (i := 2) rfl rfl ?_
        refine s_if_ne C dX12_light_115 (tgt := 122) rfl (fun c17 => ?_) (fun c17 => ?_)
        ·
          refine a_iload C dX12_light_122 rfl ?_
          exact a_iret Rt dX12_light_124 rfl (⟨hGq28, hoq28, hRq28⟩)
        ·
          refine a_iload_n C dX12_light_118 (i := 3) rfl rfl ?_
          refine a_goto C dX12_light_119 (tgt := 124) rfl ?_
          exact a_iret Rt dX12_light_124 rfl (⟨hGq28, hoq28, hRq28⟩)
      ·
        refine a_aload_n C dX12_light_42 (i := 0) rfl rfl ?_
        refine a_callVv C (i := 236) kd_236 (hid 236 (by decide)) ⟨_, _, rfl⟩ (by decide) (S_X12_copiesStill_236 hid hGq28 hRq28) mi_X12_copiesStill ml_RX12_429 rfl rfl (Nat.le_of_ble_eq_true rfl) (Nat.le_of_ble_eq_true rfl) (Nat.le_of_ble_eq_true rfl) dX12_light_43 (fun σ19 q20 => ?_)
        obtain ⟨hG21, ho22, hR23, w24⟩ := q20
        refine a_aload_n C dX12_light_46 (i := 0) rfl rfl ?_
        refine a_iload C dX12_light_47 rfl ?_
        have g28 := onm.pl ((onm.tr hoq28 (onm.mono ho22 (by decide))) : onm [264, 265, 267, 269, 1046, 1049, 1050, 1051, 1052, 1053, 1057, 2021, 2026, 2027] σ _) (by decide)
        refine a_callVi C (i := 236) kd_236 (hid 236 (by decide)) ⟨_, _, rfl⟩ (by decide) (S_X12_keepsOf_236 (x1 := y28_5) hid hG21 hR23 (by omega) (by omega)) mi_X12_keepsOf ml_RX12_417 rfl rfl (Nat.le_of_ble_eq_true rfl) (Nat.le_of_ble_eq_true rfl) (Nat.le_of_ble_eq_true rfl) dX12_light_49 (fun z25 σ26 q27 => ?_)
        obtain ⟨hG29, ho30, hR31, w32⟩ := q27
        refine a_aload_n C dX12_light_52 (i := 0) rfl rfl ?_
        refine s_iconst C dX12_light_53 (0) (by decide) (fun z33 h34 => ?_)
        refine a_callVi C (i := 236) kd_236 (hid 236 (by decide)) ⟨_, _, rfl⟩ (by decide) (S_X12_thingsSo_236 (x1 := z33) hid hG29) mi_X12_thingsSo ml_RX12_350 rfl rfl (Nat.le_of_ble_eq_true rfl) (Nat.le_of_ble_eq_true rfl) (Nat.le_of_ble_eq_true rfl) dX12_light_54 (fun z35 σ36 q37 => ?_)
        rw [q37]
        refine a_callSi C (S_X12_bits (x1 := z35) hid hG29) ms_X12_bits ml_RX12_353 rfl rfl (Nat.le_of_ble_eq_true rfl) (Nat.le_of_ble_eq_true rfl) (Nat.le_of_ble_eq_true rfl) dX12_light_57 (fun z38 σ39 q40 => ?_)
        rw [q40]
        refine s_ic_eq C dX12_light_60 (tgt := 66) rfl (fun c41 => ?_) (fun c41 => ?_)
        ·
          refine a_aload_n C dX12_light_66 (i := 0) rfl rfl ?_
          refine a_iload C dX12_light_67 rfl ?_
          have g45 := onm.pl ((onm.tr (onm.tr hoq28 (onm.mono ho22 (by decide))) (onm.mono ho30 (by decide))) : onm [264, 265, 267, 269, 1046, 1049, 1050, 1051, 1052, 1053, 1057, 2021, 2026, 2027] σ _) (by decide)
          have g46 : (σ26.1 267 21).toInt = (σ19.1 267 21).toInt := congrArg Int32.toInt (ho30.1 267 21 (by decide))
          refine a_callVv C (i := 236) kd_236 (hid 236 (by decide)) ⟨_, _, rfl⟩ (by decide) (S_X12_uses_236 (x1 := y28_5) hid hG29 hR31 (by omega) (by omega)) mi_X12_uses ml_RX12_399 rfl rfl (Nat.le_of_ble_eq_true rfl) (Nat.le_of_ble_eq_true rfl) (Nat.le_of_ble_eq_true rfl) dX12_light_69 (fun σ43 q44 => ?_)
          obtain ⟨hG47, ho48, hR49, w50⟩ := q44
          refine a_aload_n C dX12_light_72 (i := 0) rfl rfl ?_
          refine a_iload_n C dX12_light_73 (i := 1) rfl rfl ?_
          have g54 : (σ43.1 267 21).toInt = (σ26.1 267 21).toInt := congrArg Int32.toInt (ho48.1 267 21 (by decide))
          refine a_callVv C (i := 236) kd_236 (hid 236 (by decide)) ⟨_, _, rfl⟩ (by decide) (S_X12_goes_236 (x1 := x1) hid hG47 hR49 (by omega) (by omega)) mi_X12_goes ml_RX12_405 rfl rfl (Nat.le_of_ble_eq_true rfl) (Nat.le_of_ble_eq_true rfl) (Nat.le_of_ble_eq_true rfl) dX12_light_74 (fun σ52 q53 => ?_)
          obtain ⟨hG55, ho56, hR57, w58⟩ := q53
          refine a_iload_n C dX12_light_77 (i := 3) rfl rfl ?_
          refine s_if_lt C dX12_light_78 (tgt := 96) rfl (fun c59 => ?_) (fun c59 => ?_)
          ·
            refine AW.sub (vs' := [some (.ref (ad 236)), some (.int x1), some (.int x2), none, none, some (.int y28_5)]) (lsub_of (by simp [lsubB])) ?_
            exact j96 _ hG55 (onm.tr (onm.tr (onm.tr (onm.tr hoq28 (onm.mono ho22 (by decide))) (onm.mono ho30 (by decide))) (onm.mono ho48 (by decide))) (onm.mono ho56 (by decide))) hR57 (by omega)
          ·
            refine a_aload_n C dX12_light_81 (i := 0) rfl rfl ?_
            refine a_get C fl_RX12_110 (i := 236) kd_236 (hid 236 (by decide)) (v := .ref (ad 267)) rfl dX12_light_82 ?_
            refine s_bipush C dX12_light_85 (22) (by decide) (fun z60 h61 => ?_)
            refine s_iald C (i := 267) kd_267 (hid 267 (by decide)) al_267 (by omega) (by omega) dX12_light_87 (fun n62 h63 => ?_)
            refine s_val (fun z64 e65 => ?_)
            refine a_iload C dX12_light_88 rfl ?_
            refine s_ic_lt C dX12_light_90 (tgt := 96) rfl (fun c66 => ?_) (fun c66 => ?_)
            ·
              refine AW.sub (vs' := [some (.ref (ad 236)), some (.int x1), some (.int x2), none, none, some (.int y28_5)]) (lsub_of (by simp [lsubB])) ?_
              exact j96 _ hG55 (onm.tr (onm.tr (onm.tr (onm.tr hoq28 (onm.mono ho22 (by decide))) (onm.mono ho30 (by decide))) (onm.mono ho48 (by decide))) (onm.mono ho56 (by decide))) hR57 (by omega)
            ·
              refine a_goto C dX12_light_93 (tgt := 108) rfl ?_
              exact j108 _ y28_3 y28_4 hG55 (onm.tr (onm.tr (onm.tr (onm.tr hoq28 (onm.mono ho22 (by decide))) (onm.mono ho30 (by decide))) (onm.mono ho48 (by decide))) (onm.mono ho56 (by decide))) hR57 (by omega) (by omega)
        ·
          refine a_goto C dX12_light_63 (tgt := 108) rfl ?_
          exact j108 _ y28_3 y28_4 hG29 (onm.tr (onm.tr hoq28 (onm.mono ho22 (by decide))) (onm.mono ho30 (by decide))) hR31 (by omega) (by omega)
  refine a_iload_n C dX12_light_0 (i := 1) rfl rfl ?_
  refine a_callSi C (S_X12_isSome (x1 := x1) hid hG) ms_X12_isSome ml_RX12_454 rfl rfl (Nat.le_of_ble_eq_true rfl) (Nat.le_of_ble_eq_true rfl) (Nat.le_of_ble_eq_true rfl) dX12_light_1 (fun z67 σ68 q69 => ?_)
  obtain ⟨w70, w71, w72⟩ := q69
  rw [w70]
  refine s_if_eq C dX12_light_4 (tgt := 16) rfl (fun c73 => ?_) (fun c73 => ?_)
  ·
    refine s_iconst C dX12_light_16 (-1) (by decide) (fun z74 h75 => ?_)
    exact a_iret Rt dX12_light_17 rfl (⟨hG, onm.rf, hR⟩)
  ·
    refine a_iload_n C dX12_light_7 (i := 2) rfl rfl ?_
    refine s_iconst C dX12_light_8 (0) (by decide) (fun z76 h77 => ?_)
    refine s_iconst C dX12_light_9 (1) (by decide) (fun z78 h79 => ?_)
    refine a_callSi C (S_X12_in (x1 := x2) (x2 := z76) (x3 := z78) hid hG) ms_X12_in ml_RX12_301 rfl rfl (Nat.le_of_ble_eq_true rfl) (Nat.le_of_ble_eq_true rfl) (Nat.le_of_ble_eq_true rfl) dX12_light_10 (fun z80 σ81 q82 => ?_)
    obtain ⟨w83, w84, w85⟩ := q82
    rw [w83]
    refine s_if_ne C dX12_light_13 (tgt := 18) rfl (fun c86 => ?_) (fun c86 => ?_)
    ·
      refine s_bipush C dX12_light_18 (-2) (by decide) (fun z87 h88 => ?_)
      refine a_istore_n C dX12_light_20 (i := 3) rfl (by decide) rfl (vs1 := [some (.ref (ad 236)), some (.int x1), some (.int x2), some (.int z87), none, none]) rfl ?_
      refine s_bipush C dX12_light_21 (-2) (by decide) (fun z89 h90 => ?_)
      refine a_istore C dX12_light_23 (by decide) rfl (vs1 := [some (.ref (ad 236)), some (.int x1), some (.int x2), some (.int z87), some (.int z89), none]) rfl ?_
      refine s_iconst C dX12_light_25 (0) (by decide) (fun z91 h92 => ?_)
      refine a_istore C dX12_light_26 (by decide) rfl (vs1 := [some (.ref (ad 236)), some (.int x1), some (.int x2), some (.int z87), some (.int z89), some (.int z91)]) rfl ?_
      exact j28 100000 _ z87 z89 z91 (by omega) hG onm.rf hR (by omega) (by omega) (by omega)
    ·
      refine s_iconst C dX12_light_16 (-1) (by decide) (fun z93 h94 => ?_)
      exact a_iret Rt dX12_light_17 rfl (⟨hG, onm.rf, hR⟩)
set_option maxHeartbeats 4000000 in
set_option maxRecDepth 100000 in
theorem S_X12_rule_236 {l : Launch} {D : va_G} {ids : List Nat} {ad : Nat → Nat} {ca : Nat → ClassId} {σ : HS} {x1 : Int32} (hid : ∀ i, i < 277 → i ∈ ids) (hG : GIm σ) {b : Int} (hR : RKm b σ) : Ki l D ids ad ca yX12_rule cX12_rule 4 .int 5 122 [.ref (ad 236), .int x1] σ (fun r σ1 => (GIm σ1) ∧ (onm [264, 265, 267, 1046, 1049, 1050, 1051, 1052, 1053, 2021, 2026, 2027] σ σ1) ∧ (RKm b σ1)) := by
  refine Ki.of (by decide) (Nat.le_of_ble_eq_true rfl) 2 (fun Γ C Rt => ?_)
  show AW ids ad ca Γ 0 [some (.ref (ad 236)), some (.int x1), none, none] [] σ
  have j19 : ∀ (d19 : Nat) (σq19 : HS) (y19_2 : Int32) (y19_3 : Int32), 60 - y19_3.toInt < d19 → GIm σq19 → onm [264, 265, 267, 1046, 1049, 1050, 1051, 1052, 1053, 2021, 2026, 2027] σ σq19 → RKm b σq19 → 0 ≤ y19_3.toInt ∧ y19_3.toInt ≤ 60 → 1 ≤ x1.toInt ∧ x1.toInt ≤ 60 → ((σq19.1 267 21).toInt ≤ b + y19_3.toInt) → AW ids ad ca Γ 19 [some (.ref (ad 236)), some (.int x1), some (.int y19_2), some (.int y19_3)] [] σq19 := by
    intro d19
    induction d19 with
    | zero =>
      intro σq19 y19_2 y19_3 hd19 hGq19 hoq19 hRq19 hx19_0 hx19_1 hx19_2
      exfalso
      omega
    | succ d19 ih19 =>
      intro σq19 y19_2 y19_3 hd19 hGq19 hoq19 hRq19 hx19_0 hx19_1 hx19_2
      refine a_iload_n C dX12_rule_19 (i := 3) rfl rfl ?_
      refine a_iload_n C dX12_rule_20 (i := 1) rfl rfl ?_
      refine s_ic_ge C dX12_rule_21 (tgt := 41) rfl (fun c1 => ?_) (fun c1 => ?_)
      ·
        refine a_iload_n C dX12_rule_41 (i := 2) rfl rfl ?_
        exact a_iret Rt dX12_rule_42 rfl (⟨hGq19, hoq19, hRq19⟩)
      ·
        refine a_aload_n C dX12_rule_24 (i := 0) rfl rfl ?_
        refine a_callVv C (i := 236) kd_236 (hid 236 (by decide)) ⟨_, _, rfl⟩ (by decide) (S_X12_beatGoes_236 hid hGq19 hRq19 (by omega)) mi_X12_beatGoes ml_RX12_387 rfl rfl (Nat.le_of_ble_eq_true rfl) (Nat.le_of_ble_eq_true rfl) (Nat.le_of_ble_eq_true rfl) dX12_rule_25 (fun σ3 q4 => ?_)
        obtain ⟨hG5, ho6, hR7, w8⟩ := q4
        refine a_iload_n C dX12_rule_28 (i := 2) rfl rfl ?_
        refine a_aload_n C dX12_rule_29 (i := 0) rfl rfl ?_
        refine a_get C fl_RX12_365 (i := 236) kd_236 (hid 236 (by decide)) (v := .int (σ3.1 236 53)) rfl dX12_rule_30 ?_
        refine s_iaddU C dX12_rule_33 (fun z9 => ?_)
        refine a_istore_n C dX12_rule_34 (i := 2) rfl (by decide) rfl (vs1 := [some (.ref (ad 236)), some (.int x1), some (.int z9), some (.int y19_3)]) rfl ?_
        refine s_iinc C dX12_rule_35 rfl (1) (by decide) (by omega) (by decide) rfl (fun z11 h12 => ?_)
        show AW ids ad ca Γ 38 [some (.ref (ad 236)), some (.int x1), some (.int z9), some (.int z11)] _ _
        refine a_goto C dX12_rule_38 (tgt := 19) rfl ?_
        exact ih19 _ z9 z11 (by omega) hG5 (onm.tr hoq19 (onm.mono ho6 (by decide))) hR7 (by omega) (by omega) (show (σ3.1 267 21).toInt ≤ b + z11.toInt by omega)
  refine a_iload_n C dX12_rule_0 (i := 1) rfl rfl ?_
  refine a_callSi C (S_X12_isSome (x1 := x1) hid hG) ms_X12_isSome ml_RX12_454 rfl rfl (Nat.le_of_ble_eq_true rfl) (Nat.le_of_ble_eq_true rfl) (Nat.le_of_ble_eq_true rfl) dX12_rule_1 (fun z13 σ14 q15 => ?_)
  obtain ⟨w16, w17, w18⟩ := q15
  rw [w16]
  refine s_if_ne C dX12_rule_4 (tgt := 11) rfl (fun c19 => ?_) (fun c19 => ?_)
  ·
    refine a_aload_n C dX12_rule_11 (i := 0) rfl rfl ?_
    refine a_callVv C (i := 236) kd_236 (hid 236 (by decide)) ⟨_, _, rfl⟩ (by decide) (S_X12_copiesStill_236 hid hG hR) mi_X12_copiesStill ml_RX12_429 rfl rfl (Nat.le_of_ble_eq_true rfl) (Nat.le_of_ble_eq_true rfl) (Nat.le_of_ble_eq_true rfl) dX12_rule_12 (fun σ21 q22 => ?_)
    obtain ⟨hG23, ho24, hR25, w26⟩ := q22
    refine s_iconst C dX12_rule_15 (0) (by decide) (fun z27 h28 => ?_)
    refine a_istore_n C dX12_rule_16 (i := 2) rfl (by decide) rfl (vs1 := [some (.ref (ad 236)), some (.int x1), some (.int z27), none]) rfl ?_
    refine s_iconst C dX12_rule_17 (0) (by decide) (fun z29 h30 => ?_)
    refine a_istore_n C dX12_rule_18 (i := 3) rfl (by decide) rfl (vs1 := [some (.ref (ad 236)), some (.int x1), some (.int z27), some (.int z29)]) rfl ?_
    exact j19 100000 _ z27 z29 (by omega) hG23 (onm.tr onm.rf (onm.mono ho24 (by decide))) hR25 (by omega) (by omega) (show (σ21.1 267 21).toInt ≤ b + z29.toInt by omega)
  ·
    refine s_ldcw C dX12_rule_7 ko_RX12_457 (-100000) (by decide) (fun z31 h32 => ?_)
    exact a_iret Rt dX12_rule_10 rfl (⟨hG, onm.rf, hR⟩)
theorem dX12_down_23 : decode cX12_down 23 = .ok (.aload_n 0, 1) := by decide +kernel
theorem dX12_down_24 : decode cX12_down 24 = .ok (.invokevirtual 387, 3) := by decide +kernel
theorem dX12_down_27 : decode cX12_down 27 = .ok (.iinc 1 1, 3) := by decide +kernel
theorem dX12_down_30 : decode cX12_down 30 = .ok (.goto (-24), 3) := by decide +kernel
theorem dX12_down_33 : decode cX12_down 33 = .ok (.bipush (-2), 2) := by decide +kernel
theorem dX12_down_35 : decode cX12_down 35 = .ok (.ireturn, 1) := by decide +kernel
set_option maxHeartbeats 4000000 in
set_option maxRecDepth 100000 in
theorem S_X12_down_236 {l : Launch} {D : va_G} {ids : List Nat} {ad : Nat → Nat} {ca : Nat → ClassId} {σ : HS} (hid : ∀ i, i < 277 → i ∈ ids) (hG : GIm σ) {b : Int} (hR : RKm b σ) : Ki l D ids ad ca yX12_down cX12_down 2 .int 5 122 [.ref (ad 236)] σ (fun r σ1 => (GIm σ1) ∧ (onm [264, 265, 267, 1046, 1049, 1050, 1051, 1052, 1053, 2021, 2026, 2027] σ σ1) ∧ (RKm b σ1)) := by
  refine Ki.of (by decide) (Nat.le_of_ble_eq_true rfl) 1 (fun Γ C Rt => ?_)
  show AW ids ad ca Γ 0 [some (.ref (ad 236)), none] [] σ
  have j6 : ∀ (d6 : Nat) (σq6 : HS) (y6_1 : Int32), 201 - y6_1.toInt < d6 → GIm σq6 → onm [264, 265, 267, 1046, 1049, 1050, 1051, 1052, 1053, 2021, 2026, 2027] σ σq6 → RKm b σq6 → 0 ≤ y6_1.toInt ∧ y6_1.toInt ≤ 201 → ((σq6.1 267 21).toInt ≤ b + y6_1.toInt) → AW ids ad ca Γ 6 [some (.ref (ad 236)), some (.int y6_1)] [] σq6 := by
    intro d6
    induction d6 with
    | zero =>
      intro σq6 y6_1 hd6 hGq6 hoq6 hRq6 hx6_0 hx6_1
      exfalso
      omega
    | succ d6 ih6 =>
      intro σq6 y6_1 hd6 hGq6 hoq6 hRq6 hx6_0 hx6_1
      refine a_iload_n C dX12_down_6 (i := 1) rfl rfl ?_
      refine s_sipush C dX12_down_7 (200) (by decide) (fun z1 h2 => ?_)
      refine s_ic_gt C dX12_down_10 (tgt := 33) rfl (fun c3 => ?_) (fun c3 => ?_)
      ·
        refine s_bipush C dX12_down_33 (-2) (by decide) (fun z4 h5 => ?_)
        exact a_iret Rt dX12_down_35 rfl (⟨hGq6, hoq6, hRq6⟩)
      ·
        refine a_aload_n C dX12_down_13 (i := 0) rfl rfl ?_
        refine s_iconst C dX12_down_14 (0) (by decide) (fun z6 h7 => ?_)
        refine a_callVi C (i := 236) kd_236 (hid 236 (by decide)) ⟨_, _, rfl⟩ (by decide) (S_X12_thingsSo_236 (x1 := z6) hid hGq6) mi_X12_thingsSo ml_RX12_350 rfl rfl (Nat.le_of_ble_eq_true rfl) (Nat.le_of_ble_eq_true rfl) (Nat.le_of_ble_eq_true rfl) dX12_down_15 (fun z8 σ9 q10 => ?_)
        rw [q10]
        refine s_if_ne C dX12_down_18 (tgt := 23) rfl (fun c11 => ?_) (fun c11 => ?_)
        ·
          refine a_aload_n C dX12_down_23 (i := 0) rfl rfl ?_
          refine a_callVv C (i := 236) kd_236 (hid 236 (by decide)) ⟨_, _, rfl⟩ (by decide) (S_X12_beatGoes_236 hid hGq6 hRq6 (by omega)) mi_X12_beatGoes ml_RX12_387 rfl rfl (Nat.le_of_ble_eq_true rfl) (Nat.le_of_ble_eq_true rfl) (Nat.le_of_ble_eq_true rfl) dX12_down_24 (fun σ13 q14 => ?_)
          obtain ⟨hG15, ho16, hR17, w18⟩ := q14
          refine s_iinc C dX12_down_27 rfl (1) (by decide) (by omega) (by decide) rfl (fun z19 h20 => ?_)
          show AW ids ad ca Γ 30 [some (.ref (ad 236)), some (.int z19)] _ _
          refine a_goto C dX12_down_30 (tgt := 6) rfl ?_
          exact ih6 _ z19 (by omega) hG15 (onm.tr hoq6 (onm.mono ho16 (by decide))) hR17 (by omega) (show (σ13.1 267 21).toInt ≤ b + z19.toInt by omega)
        ·
          refine a_iload_n C dX12_down_21 (i := 1) rfl rfl ?_
          exact a_iret Rt dX12_down_22 rfl (⟨hGq6, hoq6, hRq6⟩)
  refine a_aload_n C dX12_down_0 (i := 0) rfl rfl ?_
  refine a_callVv C (i := 236) kd_236 (hid 236 (by decide)) ⟨_, _, rfl⟩ (by decide) (S_X12_copiesStill_236 hid hG hR) mi_X12_copiesStill ml_RX12_429 rfl rfl (Nat.le_of_ble_eq_true rfl) (Nat.le_of_ble_eq_true rfl) (Nat.le_of_ble_eq_true rfl) dX12_down_1 (fun σ22 q23 => ?_)
  obtain ⟨hG24, ho25, hR26, w27⟩ := q23
  refine s_iconst C dX12_down_4 (0) (by decide) (fun z28 h29 => ?_)
  refine a_istore_n C dX12_down_5 (i := 1) rfl (by decide) rfl (vs1 := [some (.ref (ad 236)), some (.int z28)]) rfl ?_
  exact j6 100000 _ z28 (by omega) hG24 (onm.tr onm.rf (onm.mono ho25 (by decide))) hR26 (by omega) (show (σ22.1 267 21).toInt ≤ b + z28.toInt by omega)
set_option maxHeartbeats 4000000 in
set_option maxRecDepth 100000 in
theorem S_X12_then_236 {l : Launch} {D : va_G} {ids : List Nat} {ad : Nat → Nat} {ca : Nat → ClassId} {σ : HS} {x1 : Int32} {x2 : Int32} (hid : ∀ i, i < 277 → i ∈ ids) (hG : GIm σ) {b : Int} (hR : RKm b σ) : Ki l D ids ad ca yX12_then cX12_then 3 .int 6 144 [.ref (ad 236), .int x1, .int x2] σ (fun r σ1 => (GIm σ1) ∧ (onm [264, 265, 267, 1046, 1049, 1050, 1051, 1052, 1053, 2021, 2026, 2027] σ σ1) ∧ (RKm b σ1)) := by
  refine Ki.of (by decide) (Nat.le_of_ble_eq_true rfl) 0 (fun Γ C Rt => ?_)
  show AW ids ad ca Γ 0 [some (.ref (ad 236)), some (.int x1), some (.int x2)] [] σ
  refine a_iload_n C dX12_then_0 (i := 1) rfl rfl ?_
  refine a_callSi C (S_X12_isLong (x1 := x1) hid hG) ms_X12_isLong ml_RX12_402 rfl rfl (Nat.le_of_ble_eq_true rfl) (Nat.le_of_ble_eq_true rfl) (Nat.le_of_ble_eq_true rfl) dX12_then_1 (fun z1 σ2 q3 => ?_)
  obtain ⟨w4, w5, w6⟩ := q3
  rw [w4]
  refine s_if_eq C dX12_then_4 (tgt := 16) rfl (fun c7 => ?_) (fun c7 => ?_)
  ·
    refine s_iconst C dX12_then_16 (-1) (by decide) (fun z8 h9 => ?_)
    exact a_iret Rt dX12_then_17 rfl (⟨hG, onm.rf, hR⟩)
  ·
    refine a_iload_n C dX12_then_7 (i := 2) rfl rfl ?_
    refine s_iconst C dX12_then_8 (0) (by decide) (fun z10 h11 => ?_)
    refine s_iconst C dX12_then_9 (3) (by decide) (fun z12 h13 => ?_)
    refine a_callSi C (S_X12_in (x1 := x2) (x2 := z10) (x3 := z12) hid hG) ms_X12_in ml_RX12_301 rfl rfl (Nat.le_of_ble_eq_true rfl) (Nat.le_of_ble_eq_true rfl) (Nat.le_of_ble_eq_true rfl) dX12_then_10 (fun z14 σ15 q16 => ?_)
    obtain ⟨w17, w18, w19⟩ := q16
    rw [w17]
    refine s_if_ne C dX12_then_13 (tgt := 18) rfl (fun c20 => ?_) (fun c20 => ?_)
    ·
      refine a_aload_n C dX12_then_18 (i := 0) rfl rfl ?_
      refine a_callVv C (i := 236) kd_236 (hid 236 (by decide)) ⟨_, _, rfl⟩ (by decide) (S_X12_copies_236 hid hG hR) mi_X12_copies ml_RX12_311 rfl rfl (Nat.le_of_ble_eq_true rfl) (Nat.le_of_ble_eq_true rfl) (Nat.le_of_ble_eq_true rfl) dX12_then_19 (fun σ22 q23 => ?_)
      obtain ⟨hG24, ho25, hR26, w27⟩ := q23
      refine a_aload_n C dX12_then_22 (i := 0) rfl rfl ?_
      refine a_iload_n C dX12_then_23 (i := 1) rfl rfl ?_
      refine a_callVv C (i := 236) kd_236 (hid 236 (by decide)) ⟨_, _, rfl⟩ (by decide) (S_X12_goes_236 (x1 := x1) hid hG24 hR26 (by omega) (by omega)) mi_X12_goes ml_RX12_405 rfl rfl (Nat.le_of_ble_eq_true rfl) (Nat.le_of_ble_eq_true rfl) (Nat.le_of_ble_eq_true rfl) dX12_then_24 (fun σ29 q30 => ?_)
      obtain ⟨hG31, ho32, hR33, w34⟩ := q30
      refine a_iload_n C dX12_then_27 (i := 2) rfl rfl ?_
      by_cases hsw : x2.toInt < 0 ∨ 2 < x2.toInt
      ·
        refine a_tableOut C dX12_then_28 hsw (tgt := 89) rfl ?_
        refine a_aload_n C dX12_then_89 (i := 0) rfl rfl ?_
        refine a_get C fl_RX12_110 (i := 236) kd_236 (hid 236 (by decide)) (v := .ref (ad 267)) rfl dX12_then_90 ?_
        refine s_bipush C dX12_then_93 (25) (by decide) (fun z35 h36 => ?_)
        refine s_iald C (i := 267) kd_267 (hid 267 (by decide)) al_267 (by omega) (by omega) dX12_then_95 (fun n37 h38 => ?_)
        refine s_val (fun z39 e40 => ?_)
        refine a_aload_n C dX12_then_96 (i := 0) rfl rfl ?_
        refine a_get C fl_RX12_107 (i := 236) kd_236 (hid 236 (by decide)) (v := .ref (ad 266)) rfl dX12_then_97 ?_
        refine s_bipush C dX12_then_100 (25) (by decide) (fun z41 h42 => ?_)
        refine s_iald C (i := 266) kd_266 (hid 266 (by decide)) al_266 (by omega) (by omega) dX12_then_102 (fun n43 h44 => ?_)
        refine s_val (fun z45 e46 => ?_)
        refine s_isubU C dX12_then_103 (fun z47 => ?_)
        exact a_iret Rt dX12_then_104 rfl (⟨hG31, (onm.tr (onm.tr onm.rf (onm.mono ho25 (by decide))) (onm.mono ho32 (by decide))), hR33⟩)
      rcases (show x2.toInt = 0 ∨ x2.toInt = 1 ∨ x2.toInt = 2 by omega) with hq | hq | hq
      ·
        refine a_tableIn C dX12_then_28 (by omega) (by omega) (by rw [hq]; rfl) (tgt := 56) rfl ?_
        refine a_aload_n C dX12_then_56 (i := 0) rfl rfl ?_
        refine a_get C fl_RX12_110 (i := 236) kd_236 (hid 236 (by decide)) (v := .ref (ad 267)) rfl dX12_then_57 ?_
        refine s_bipush C dX12_then_60 (22) (by decide) (fun z49 h50 => ?_)
        refine s_iald C (i := 267) kd_267 (hid 267 (by decide)) al_267 (by omega) (by omega) dX12_then_62 (fun n51 h52 => ?_)
        refine s_val (fun z53 e54 => ?_)
        exact a_iret Rt dX12_then_63 rfl (⟨hG31, (onm.tr (onm.tr onm.rf (onm.mono ho25 (by decide))) (onm.mono ho32 (by decide))), hR33⟩)
      ·
        refine a_tableIn C dX12_then_28 (by omega) (by omega) (by rw [hq]; rfl) (tgt := 64) rfl ?_
        refine a_aload_n C dX12_then_64 (i := 0) rfl rfl ?_
        refine s_iconst C dX12_then_65 (0) (by decide) (fun z55 h56 => ?_)
        refine a_callVi C (i := 236) kd_236 (hid 236 (by decide)) ⟨_, _, rfl⟩ (by decide) (S_X12_thingsSo_236 (x1 := z55) hid hG31) mi_X12_thingsSo ml_RX12_350 rfl rfl (Nat.le_of_ble_eq_true rfl) (Nat.le_of_ble_eq_true rfl) (Nat.le_of_ble_eq_true rfl) dX12_then_66 (fun z57 σ58 q59 => ?_)
        rw [q59]
        refine a_callSi C (S_X12_bits (x1 := z57) hid hG31) ms_X12_bits ml_RX12_353 rfl rfl (Nat.le_of_ble_eq_true rfl) (Nat.le_of_ble_eq_true rfl) (Nat.le_of_ble_eq_true rfl) dX12_then_69 (fun z60 σ61 q62 => ?_)
        rw [q62]
        exact a_iret Rt dX12_then_72 rfl (⟨hG31, (onm.tr (onm.tr onm.rf (onm.mono ho25 (by decide))) (onm.mono ho32 (by decide))), hR33⟩)
      ·
        refine a_tableIn C dX12_then_28 (by omega) (by omega) (by rw [hq]; rfl) (tgt := 73) rfl ?_
        refine a_aload_n C dX12_then_73 (i := 0) rfl rfl ?_
        refine a_get C fl_RX12_110 (i := 236) kd_236 (hid 236 (by decide)) (v := .ref (ad 267)) rfl dX12_then_74 ?_
        refine s_bipush C dX12_then_77 (23) (by decide) (fun z63 h64 => ?_)
        refine s_iald C (i := 267) kd_267 (hid 267 (by decide)) al_267 (by omega) (by omega) dX12_then_79 (fun n65 h66 => ?_)
        refine s_val (fun z67 e68 => ?_)
        refine a_aload_n C dX12_then_80 (i := 0) rfl rfl ?_
        refine a_get C fl_RX12_107 (i := 236) kd_236 (hid 236 (by decide)) (v := .ref (ad 266)) rfl dX12_then_81 ?_
        refine s_bipush C dX12_then_84 (23) (by decide) (fun z69 h70 => ?_)
        refine s_iald C (i := 266) kd_266 (hid 266 (by decide)) al_266 (by omega) (by omega) dX12_then_86 (fun n71 h72 => ?_)
        refine s_val (fun z73 e74 => ?_)
        refine s_isubU C dX12_then_87 (fun z75 => ?_)
        exact a_iret Rt dX12_then_88 rfl (⟨hG31, (onm.tr (onm.tr onm.rf (onm.mono ho25 (by decide))) (onm.mono ho32 (by decide))), hR33⟩)
    ·
      refine s_iconst C dX12_then_16 (-1) (by decide) (fun z77 h78 => ?_)
      exact a_iret Rt dX12_then_17 rfl (⟨hG, onm.rf, hR⟩)
set_option maxHeartbeats 4000000 in
set_option maxRecDepth 100000 in
theorem S_X12_year_236 {l : Launch} {D : va_G} {ids : List Nat} {ad : Nat → Nat} {ca : Nat → ClassId} {σ : HS} {x1 : Int32} {x2 : Int32} (hid : ∀ i, i < 277 → i ∈ ids) (hG : GIm σ) {b : Int} (hR : RKm b σ) : Ki l D ids ad ca yX12_year cX12_year 5 .int 6 144 [.ref (ad 236), .int x1, .int x2] σ (fun r σ1 => (GIm σ1) ∧ (onm [264, 265, 267, 1046, 1049, 1050, 1051, 1052, 1053, 2021, 2026, 2027] σ σ1) ∧ (RKm b σ1)) := by
  refine Ki.of (by decide) (Nat.le_of_ble_eq_true rfl) 2 (fun Γ C Rt => ?_)
  show AW ids ad ca Γ 0 [some (.ref (ad 236)), some (.int x1), some (.int x2), none, none] [] σ
  have j24 : ∀ (d24 : Nat) (σq24 : HS) (y24_3 : Int32) (y24_4 : Int32), 20 - y24_4.toInt < d24 → GIm σq24 → onm [264, 265, 267, 1046, 1049, 1050, 1051, 1052, 1053, 2021, 2026, 2027] σ σq24 → RKm b σq24 → 0 ≤ y24_4.toInt ∧ y24_4.toInt ≤ 20 → 0 ≤ x1.toInt ∧ x1.toInt ≤ 60 → 1 ≤ x2.toInt ∧ x2.toInt ≤ 20 → AW ids ad ca Γ 24 [some (.ref (ad 236)), some (.int x1), some (.int x2), some (.int y24_3), some (.int y24_4)] [] σq24 := by
    intro d24
    induction d24 with
    | zero =>
      intro σq24 y24_3 y24_4 hd24 hGq24 hoq24 hRq24 hx24_0 hx24_1 hx24_2
      exfalso
      omega
    | succ d24 ih24 =>
      intro σq24 y24_3 y24_4 hd24 hGq24 hoq24 hRq24 hx24_0 hx24_1 hx24_2
      have j70 : ∀ (σq70 : HS) (y70_3 : Int32), GIm σq70 → onm [264, 265, 267, 1046, 1049, 1050, 1051, 1052, 1053, 2021, 2026, 2027] σ σq70 → RKm b σq70 → 0 ≤ y24_4.toInt ∧ y24_4.toInt ≤ 19 → AW ids ad ca Γ 70 [some (.ref (ad 236)), some (.int x1), some (.int x2), some (.int y70_3), some (.int y24_4)] [] σq70 := by
        intro σq70 y70_3 hGq70 hoq70 hRq70 hx70_0
        refine s_iinc C dX12_year_70 rfl (1) (by decide) (by omega) (by decide) rfl (fun z1 h2 => ?_)
        show AW ids ad ca Γ 73 [some (.ref (ad 236)), some (.int x1), some (.int x2), some (.int y70_3), some (.int z1)] _ _
        refine a_goto C dX12_year_73 (tgt := 24) rfl ?_
        exact ih24 _ y70_3 z1 (by omega) hGq70 hoq70 hRq70 (by omega) (by omega) (by omega)
      refine a_iload C dX12_year_24 rfl ?_
      refine a_iload_n C dX12_year_26 (i := 2) rfl rfl ?_
      refine s_ic_ge C dX12_year_27 (tgt := 76) rfl (fun c3 => ?_) (fun c3 => ?_)
      ·
        refine a_iload_n C dX12_year_76 (i := 3) rfl rfl ?_
        exact a_iret Rt dX12_year_77 rfl (⟨hGq24, hoq24, hRq24⟩)
      ·
        refine a_aload_n C dX12_year_30 (i := 0) rfl rfl ?_
        refine a_callVv C (i := 236) kd_236 (hid 236 (by decide)) ⟨_, _, rfl⟩ (by decide) (S_X12_copies_236 hid hGq24 hRq24) mi_X12_copies ml_RX12_311 rfl rfl (Nat.le_of_ble_eq_true rfl) (Nat.le_of_ble_eq_true rfl) (Nat.le_of_ble_eq_true rfl) dX12_year_31 (fun σ5 q6 => ?_)
        obtain ⟨hG7, ho8, hR9, w10⟩ := q6
        refine a_aload_n C dX12_year_34 (i := 0) rfl rfl ?_
        refine a_dup C dX12_year_35 rfl ?_
        refine a_get C fl_RX12_305 (i := 236) kd_236 (hid 236 (by decide)) (v := .int (σ5.1 236 49)) rfl dX12_year_36 ?_
        refine a_iload C dX12_year_39 rfl ?_
        refine s_iaddU C dX12_year_41 (fun z11 => ?_)
        refine a_put C fp_RX12_305 (i := 236) kd_236 (hid 236 (by decide)) rfl rfl dX12_year_42 ?_
        have hG13 := wF_236_49 (v := z11) hG7
        have hR14 := RKm.ony (σ1 := hI _ 236 49 z11) hR9 (onm.F (L := [1049]) onm.rf (by decide)) (by decide)
        refine a_aload_n C dX12_year_45 (i := 0) rfl rfl ?_
        refine a_iload_n C dX12_year_46 (i := 1) rfl rfl ?_
        have g18 : ((hI σ5 236 49 z11).1 267 21).toInt = (σ5.1 267 21).toInt := congrArg Int32.toInt (show _ = (σ5.1 267 21) from (congrFun (hI_o (by decide)) 21))
        have g19 : ((hI σ5 236 49 z11).1 267 21).toInt = (σ5.1 267 21).toInt := congrArg Int32.toInt (show _ = (σ5.1 267 21) from (congrFun (hI_o (by decide)) 21))
        refine a_callVv C (i := 236) kd_236 (hid 236 (by decide)) ⟨_, _, rfl⟩ (by decide) (S_X12_goes_236 (x1 := x1) hid hG13 hR14 (by omega) (by omega)) mi_X12_goes ml_RX12_405 rfl rfl (Nat.le_of_ble_eq_true rfl) (Nat.le_of_ble_eq_true rfl) (Nat.le_of_ble_eq_true rfl) dX12_year_47 (fun σ16 q17 => ?_)
        obtain ⟨hG20, ho21, hR22, w23⟩ := q17
        refine a_aload_n C dX12_year_50 (i := 0) rfl rfl ?_
        refine a_get C fl_RX12_110 (i := 236) kd_236 (hid 236 (by decide)) (v := .ref (ad 267)) rfl dX12_year_51 ?_
        refine s_bipush C dX12_year_54 (23) (by decide) (fun z24 h25 => ?_)
        refine s_iald C (i := 267) kd_267 (hid 267 (by decide)) al_267 (by omega) (by omega) dX12_year_56 (fun n26 h27 => ?_)
        refine s_val (fun z28 e29 => ?_)
        refine a_aload_n C dX12_year_57 (i := 0) rfl rfl ?_
        refine a_get C fl_RX12_107 (i := 236) kd_236 (hid 236 (by decide)) (v := .ref (ad 266)) rfl dX12_year_58 ?_
        refine s_bipush C dX12_year_61 (23) (by decide) (fun z30 h31 => ?_)
        refine s_iald C (i := 266) kd_266 (hid 266 (by decide)) al_266 (by omega) (by omega) dX12_year_63 (fun n32 h33 => ?_)
        refine s_val (fun z34 e35 => ?_)
        refine s_ic_ne C dX12_year_64 (tgt := 70) rfl (fun c36 => ?_) (fun c36 => ?_)
        ·
          exact j70 _ y24_3 hG20 (onm.tr (onm.F (onm.tr hoq24 (onm.mono ho8 (by decide))) (by decide)) (onm.mono ho21 (by decide))) hR22 (by omega)
        ·
          refine s_iincU C dX12_year_67 rfl (by decide) rfl (fun z37 => ?_)
          show AW ids ad ca Γ 70 [some (.ref (ad 236)), some (.int x1), some (.int x2), some (.int z37), some (.int y24_4)] _ _
          exact j70 _ z37 hG20 (onm.tr (onm.F (onm.tr hoq24 (onm.mono ho8 (by decide))) (by decide)) (onm.mono ho21 (by decide))) hR22 (by omega)
  refine a_iload_n C dX12_year_0 (i := 1) rfl rfl ?_
  refine a_callSi C (S_X12_isLong (x1 := x1) hid hG) ms_X12_isLong ml_RX12_402 rfl rfl (Nat.le_of_ble_eq_true rfl) (Nat.le_of_ble_eq_true rfl) (Nat.le_of_ble_eq_true rfl) dX12_year_1 (fun z39 σ40 q41 => ?_)
  obtain ⟨w42, w43, w44⟩ := q41
  rw [w42]
  refine s_if_eq C dX12_year_4 (tgt := 17) rfl (fun c45 => ?_) (fun c45 => ?_)
  ·
    refine s_iconst C dX12_year_17 (-1) (by decide) (fun z46 h47 => ?_)
    exact a_iret Rt dX12_year_18 rfl (⟨hG, onm.rf, hR⟩)
  ·
    refine a_iload_n C dX12_year_7 (i := 2) rfl rfl ?_
    refine s_iconst C dX12_year_8 (1) (by decide) (fun z48 h49 => ?_)
    refine s_bipush C dX12_year_9 (20) (by decide) (fun z50 h51 => ?_)
    refine a_callSi C (S_X12_in (x1 := x2) (x2 := z48) (x3 := z50) hid hG) ms_X12_in ml_RX12_301 rfl rfl (Nat.le_of_ble_eq_true rfl) (Nat.le_of_ble_eq_true rfl) (Nat.le_of_ble_eq_true rfl) dX12_year_11 (fun z52 σ53 q54 => ?_)
    obtain ⟨w55, w56, w57⟩ := q54
    rw [w55]
    refine s_if_ne C dX12_year_14 (tgt := 19) rfl (fun c58 => ?_) (fun c58 => ?_)
    ·
      refine s_iconst C dX12_year_19 (0) (by decide) (fun z59 h60 => ?_)
      refine a_istore_n C dX12_year_20 (i := 3) rfl (by decide) rfl (vs1 := [some (.ref (ad 236)), some (.int x1), some (.int x2), some (.int z59), none]) rfl ?_
      refine s_iconst C dX12_year_21 (0) (by decide) (fun z61 h62 => ?_)
      refine a_istore C dX12_year_22 (by decide) rfl (vs1 := [some (.ref (ad 236)), some (.int x1), some (.int x2), some (.int z59), some (.int z61)]) rfl ?_
      exact j24 100000 _ z59 z61 (by omega) hG onm.rf hR (by omega) (by omega) (by omega)
    ·
      refine s_iconst C dX12_year_17 (-1) (by decide) (fun z63 h64 => ?_)
      exact a_iret Rt dX12_year_18 rfl (⟨hG, onm.rf, hR⟩)
