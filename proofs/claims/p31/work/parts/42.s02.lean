set_option maxHeartbeats 4000000 in
set_option maxRecDepth 100000 in
theorem S_X10_clear_30 {l : Launch} {D : va_G} {ids : List Nat} {ad : Nat → Nat} {ca : Nat → ClassId} {σ : HS} (hid : ∀ i, i < 277 → i ∈ ids) (hG : GIc σ) : Kv l D ids ad ca yX10_clear cX10_clear 2 1 21 [.ref (ad 30)] σ (fun σ1 => (GIc σ1) ∧ (ony [30, 41, 42] σ σ1)) := by
  refine Kv.of (by decide) (Nat.le_of_ble_eq_true rfl) 1 (fun Γ C Rt => ?_)
  show AW ids ad ca Γ 0 [some (.ref (ad 30)), none] [] σ
  have j27 : ∀ (d27 : Nat) (σq27 : HS) (y27_1 : Int32), 4 - y27_1.toInt < d27 → GIc σq27 → ony [30, 41, 42] σ σq27 → 0 ≤ y27_1.toInt ∧ y27_1.toInt ≤ 4 → AW ids ad ca Γ 27 [some (.ref (ad 30)), some (.int y27_1)] [] σq27 := by
    intro d27
    induction d27 with
    | zero =>
      intro σq27 y27_1 hd27 hGq27 hoq27 hx27_0
      exfalso
      omega
    | succ d27 ih27 =>
      intro σq27 y27_1 hd27 hGq27 hoq27 hx27_0
      have j54 : ∀ (σq54 : HS) (u54_0 : Int32), GIc σq54 → ony [30, 41, 42] σ σq54 → -11 ≤ u54_0.toInt ∧ u54_0.toInt ≤ 0 → 0 ≤ y27_1.toInt ∧ y27_1.toInt ≤ 3 → AW ids ad ca Γ 54 [some (.ref (ad 30)), some (.int y27_1)] [.int u54_0, .ref (ad 30)] σq54 := by
        intro σq54 u54_0 hGq54 hoq54 hx54_0 hx54_1
        refine a_callVv C (i := 30) kd_30 (hid 30 (by decide)) ⟨_, _, rfl⟩ (by decide) (S_X10_emit_30 (x1 := u54_0) hid hGq54) mi_X10_emit ml_RX10_54 rfl rfl (Nat.le_of_ble_eq_true rfl) (Nat.le_of_ble_eq_true rfl) (Nat.le_of_ble_eq_true rfl) dX10_clear_54 (fun σ2 q3 => ?_)
        obtain ⟨hG4, ho5⟩ := q3
        refine a_aload_n C dX10_clear_57 (i := 0) rfl rfl ?_
        refine s_bipush C dX10_clear_58 (-6) (by decide) (fun z7 h8 => ?_)
        refine a_callVv C (i := 30) kd_30 (hid 30 (by decide)) ⟨_, _, rfl⟩ (by decide) (S_X10_emit_30 (x1 := z7) hid hG4) mi_X10_emit ml_RX10_54 rfl rfl (Nat.le_of_ble_eq_true rfl) (Nat.le_of_ble_eq_true rfl) (Nat.le_of_ble_eq_true rfl) dX10_clear_60 (fun σ10 q11 => ?_)
        obtain ⟨hG12, ho13⟩ := q11
        refine s_iinc C dX10_clear_63 rfl (1) (by decide) (by omega) (by decide) rfl (fun z15 h16 => ?_)
        show AW ids ad ca Γ 66 [some (.ref (ad 30)), some (.int z15)] _ _
        refine a_goto C dX10_clear_66 (tgt := 27) rfl ?_
        exact ih27 _ z15 (by omega) hG12 (ony.tr (ony.tr hoq54 (ony.mono ho5 (by decide))) (ony.mono ho13 (by decide))) (by omega)
      refine a_iload_n C dX10_clear_27 (i := 1) rfl rfl ?_
      refine s_iconst C dX10_clear_28 (4) (by decide) (fun z17 h18 => ?_)
      refine s_ic_ge C dX10_clear_29 (tgt := 69) rfl (fun c19 => ?_) (fun c19 => ?_)
      ·
        exact a_vret Rt dX10_clear_69 (⟨hGq27, hoq27⟩)
      ·
        refine a_aload_n C dX10_clear_32 (i := 0) rfl rfl ?_
        refine a_get C fl_RX10_32 (i := 30) kd_30 (hid 30 (by decide)) (v := .ref (ad 42)) rfl dX10_clear_33 ?_
        refine a_iload_n C dX10_clear_36 (i := 1) rfl rfl ?_
        refine a_aload_n C dX10_clear_37 (i := 0) rfl rfl ?_
        have g20 := bF_30_8 hGq27
        refine a_get C fl_RX10_51 (i := 30) kd_30 (hid 30 (by decide)) (v := .int (σq27.1 30 8)) rfl dX10_clear_38 ?_
        refine s_iast C (i := 42) kd_42 (hid 42 (by decide)) al_42 (by omega) (by omega) dX10_clear_41 (fun n21 h22 => ?_)
        have hG23 := wA_42 (v := (σq27.1 30 8)) (j := n21) hGq27
        refine a_aload_n C dX10_clear_42 (i := 0) rfl rfl ?_
        refine a_iload_n C dX10_clear_43 (i := 1) rfl rfl ?_
        refine s_iconst C dX10_clear_44 (2) (by decide) (fun z24 h25 => ?_)
        refine s_ic_ne C dX10_clear_45 (tgt := 53) rfl (fun c26 => ?_) (fun c26 => ?_)
        ·
          refine s_iconst C dX10_clear_53 (0) (by decide) (fun z27 h28 => ?_)
          exact j54 _ z27 hG23 (ony.I hoq27 (by decide)) (by omega) (by omega)
        ·
          refine s_bipush C dX10_clear_48 (-11) (by decide) (fun z29 h30 => ?_)
          refine a_goto C dX10_clear_50 (tgt := 54) rfl ?_
          exact j54 _ z29 hG23 (ony.I hoq27 (by decide)) (by omega) (by omega)
  refine a_aload_n C dX10_clear_0 (i := 0) rfl rfl ?_
  refine s_iconst C dX10_clear_1 (0) (by decide) (fun z31 h32 => ?_)
  refine a_put C fp_RX10_38 (i := 30) kd_30 (hid 30 (by decide)) rfl rfl dX10_clear_2 ?_
  have hG33 := wF_30_0 (v := z31) hG (by omega) (by omega)
  refine a_aload_n C dX10_clear_5 (i := 0) rfl rfl ?_
  refine s_iconst C dX10_clear_6 (0) (by decide) (fun z34 h35 => ?_)
  refine a_put C fp_RX10_42 (i := 30) kd_30 (hid 30 (by decide)) rfl rfl dX10_clear_7 ?_
  have hG36 := wF_30_4 (v := z34) hG33 (by omega) (by omega)
  refine a_aload_n C dX10_clear_10 (i := 0) rfl rfl ?_
  refine s_iconst C dX10_clear_11 (1) (by decide) (fun z37 h38 => ?_)
  refine a_put C fp_RX10_45 (i := 30) kd_30 (hid 30 (by decide)) rfl rfl dX10_clear_12 ?_
  have hG39 := wF_30_10 (v := z37) hG36
  refine a_aload_n C dX10_clear_15 (i := 0) rfl rfl ?_
  refine s_iconst C dX10_clear_16 (0) (by decide) (fun z40 h41 => ?_)
  refine a_put C fp_RX10_48 (i := 30) kd_30 (hid 30 (by decide)) rfl rfl dX10_clear_17 ?_
  have hG42 := wF_30_11 (v := z40) hG39
  refine a_aload_n C dX10_clear_20 (i := 0) rfl rfl ?_
  refine s_iconst C dX10_clear_21 (0) (by decide) (fun z43 h44 => ?_)
  refine a_put C fp_RX10_51 (i := 30) kd_30 (hid 30 (by decide)) rfl rfl dX10_clear_22 ?_
  have hG45 := wF_30_8 (v := z43) hG42 (by omega) (by omega)
  refine s_iconst C dX10_clear_25 (0) (by decide) (fun z46 h47 => ?_)
  refine a_istore_n C dX10_clear_26 (i := 1) rfl (by decide) rfl (vs1 := [some (.ref (ad 30)), some (.int z46)]) rfl ?_
  exact j27 100000 _ z46 (by omega) hG45 (ony.I (ony.I (ony.I (ony.I (ony.I ony.rf (by decide)) (by decide)) (by decide)) (by decide)) (by decide)) (by omega)
theorem dX0_heightBy_8 : decode cX0_heightBy 8 = .ok (.aload_n 0, 1) := by decide +kernel
theorem dX0_heightBy_9 : decode cX0_heightBy 9 = .ok (.getfield 25, 3) := by decide +kernel
theorem dX0_heightBy_12 : decode cX0_heightBy 12 = .ok (.ireturn, 1) := by decide +kernel
theorem dX0_heightBy_24 : decode cX0_heightBy 24 = .ok (.aload_n 1, 1) := by decide +kernel
theorem dX0_heightBy_25 : decode cX0_heightBy 25 = .ok (.getfield 96, 3) := by decide +kernel
theorem dX0_heightBy_28 : decode cX0_heightBy 28 = .ok (.aload_n 0, 1) := by decide +kernel
theorem dX0_heightBy_29 : decode cX0_heightBy 29 = .ok (.getfield 21, 3) := by decide +kernel
theorem dX0_heightBy_32 : decode cX0_heightBy 32 = .ok (.iaload, 1) := by decide +kernel
theorem dX0_heightBy_33 : decode cX0_heightBy 33 = .ok (.iconst 1, 1) := by decide +kernel
theorem dX0_heightBy_34 : decode cX0_heightBy 34 = .ok (.if_icmp .ge 5, 3) := by decide +kernel
theorem dX0_heightBy_39 : decode cX0_heightBy 39 = .ok (.aload_n 1, 1) := by decide +kernel
theorem dX0_heightBy_40 : decode cX0_heightBy 40 = .ok (.getfield 99, 3) := by decide +kernel
theorem dX0_heightBy_43 : decode cX0_heightBy 43 = .ok (.aload_n 0, 1) := by decide +kernel
theorem dX0_heightBy_44 : decode cX0_heightBy 44 = .ok (.getfield 21, 3) := by decide +kernel
theorem dX0_heightBy_47 : decode cX0_heightBy 47 = .ok (.aaload, 1) := by decide +kernel
theorem dX0_heightBy_48 : decode cX0_heightBy 48 = .ok (.aload_n 0, 1) := by decide +kernel
theorem dX0_heightBy_49 : decode cX0_heightBy 49 = .ok (.getfield 49, 3) := by decide +kernel
theorem dX0_heightBy_52 : decode cX0_heightBy 52 = .ok (.aload_n 0, 1) := by decide +kernel
theorem dX0_heightBy_53 : decode cX0_heightBy 53 = .ok (.getfield 67, 3) := by decide +kernel
theorem dX0_heightBy_56 : decode cX0_heightBy 56 = .ok (.isub, 1) := by decide +kernel
theorem dX0_heightBy_57 : decode cX0_heightBy 57 = .ok (.aload_n 1, 1) := by decide +kernel
theorem dX0_heightBy_58 : decode cX0_heightBy 58 = .ok (.getfield 96, 3) := by decide +kernel
theorem dX0_heightBy_61 : decode cX0_heightBy 61 = .ok (.aload_n 0, 1) := by decide +kernel
theorem dX0_heightBy_62 : decode cX0_heightBy 62 = .ok (.getfield 21, 3) := by decide +kernel
theorem dX0_heightBy_65 : decode cX0_heightBy 65 = .ok (.iaload, 1) := by decide +kernel
theorem dX0_heightBy_66 : decode cX0_heightBy 66 = .ok (.invokestatic 103, 3) := by decide +kernel
theorem dX0_heightBy_69 : decode cX0_heightBy 69 = .ok (.iaload, 1) := by decide +kernel
theorem dX0_heightBy_70 : decode cX0_heightBy 70 = .ok (.ireturn, 1) := by decide +kernel
set_option maxHeartbeats 4000000 in
set_option maxRecDepth 100000 in
theorem S_X0_heightBy_56_30 {l : Launch} {D : va_G} {ids : List Nat} {ad : Nat → Nat} {ca : Nat → ClassId} {σ : HS} (hid : ∀ i, i < 277 → i ∈ ids) (hG : GIc σ) : Ki l D ids ad ca yX0_heightBy cX0_heightBy 2 .int 1 22 [.ref (ad 56), .ref (ad 30)] σ (fun r σ1 => (σ1 = σ)) := by
  refine Ki.of (by decide) (Nat.le_of_ble_eq_true rfl) 0 (fun Γ C Rt => ?_)
  show AW ids ad ca Γ 0 [some (.ref (ad 56)), some (.ref (ad 30))] [] σ
  refine a_aload_n C dX0_heightBy_0 (i := 0) rfl rfl ?_
  refine a_get C fl_RX0_25 (i := 56) kd_56 (hid 56 (by decide)) (v := .int (σ.1 56 11)) rfl dX0_heightBy_1 ?_
  refine s_iconst C dX0_heightBy_4 (-1) (by decide) (fun z1 h2 => ?_)
  refine s_ic_eq C dX0_heightBy_5 (tgt := 13) rfl (fun c3 => ?_) (fun c3 => ?_)
  ·
    refine a_aload_n C dX0_heightBy_13 (i := 1) rfl rfl ?_
    refine a_aload_n C dX0_heightBy_14 (i := 0) rfl rfl ?_
    refine a_get C fl_RX0_21 (i := 56) kd_56 (hid 56 (by decide)) (v := .int (σ.1 56 9)) rfl dX0_heightBy_15 ?_
    refine a_callVi C (i := 30) kd_30 (hid 30 (by decide)) ⟨_, _, rfl⟩ (by decide) (S_X10_hasPattern_30 (x1 := (σ.1 56 9)) hid hG) mi_X10_hasPattern ml_RX0_93 rfl rfl (Nat.le_of_ble_eq_true rfl) (Nat.le_of_ble_eq_true rfl) (Nat.le_of_ble_eq_true rfl) dX0_heightBy_18 (fun z4 σ5 q6 => ?_)
    obtain ⟨w7, w8, w9⟩ := q6
    rw [w7]
    refine s_if_eq C dX0_heightBy_21 (tgt := 37) rfl (fun c10 => ?_) (fun c10 => ?_)
    ·
      refine s_iconst C dX0_heightBy_37 (3) (by decide) (fun z11 h12 => ?_)
      exact a_iret Rt dX0_heightBy_38 rfl (rfl)
    ·
      refine a_aload_n C dX0_heightBy_24 (i := 1) rfl rfl ?_
      refine a_get C fl_RX0_96 (i := 30) kd_30 (hid 30 (by decide)) (v := .ref (ad 40)) rfl dX0_heightBy_25 ?_
      refine a_aload_n C dX0_heightBy_28 (i := 0) rfl rfl ?_
      refine a_get C fl_RX0_21 (i := 56) kd_56 (hid 56 (by decide)) (v := .int (σ.1 56 9)) rfl dX0_heightBy_29 ?_
      refine s_iald C (i := 40) kd_40 (hid 40 (by decide)) al_40 (by omega) (by omega) dX0_heightBy_32 (fun n13 h14 => ?_)
      refine s_val (fun z15 e16 => ?_)
      have g17 := bA_40 hG n13
      rw [e16] at g17
      refine s_iconst C dX0_heightBy_33 (1) (by decide) (fun z18 h19 => ?_)
      refine s_ic_ge C dX0_heightBy_34 (tgt := 39) rfl (fun c20 => ?_) (fun c20 => ?_)
      ·
        refine a_aload_n C dX0_heightBy_39 (i := 1) rfl rfl ?_
        refine a_get C fl_RX0_99 (i := 30) kd_30 (hid 30 (by decide)) (v := .ref (ad 34)) rfl dX0_heightBy_40 ?_
        refine a_aload_n C dX0_heightBy_43 (i := 0) rfl rfl ?_
        refine a_get C fl_RX0_21 (i := 56) kd_56 (hid 56 (by decide)) (v := .int (σ.1 56 9)) rfl dX0_heightBy_44 ?_
        refine s_aaldH C (i := 34) kd_34 (hid 34 (by decide)) al_34 (by omega) (by omega) dX0_heightBy_47 (fun n21 h22 h23 => ?_)
        refine a_aload_n C dX0_heightBy_48 (i := 0) rfl rfl ?_
        refine a_get C fl_RX0_49 (i := 56) kd_56 (hid 56 (by decide)) (v := .int (σ.1 56 4)) rfl dX0_heightBy_49 ?_
        refine a_aload_n C dX0_heightBy_52 (i := 0) rfl rfl ?_
        refine a_get C fl_RX0_67 (i := 56) kd_56 (hid 56 (by decide)) (v := .int (σ.1 56 10)) rfl dX0_heightBy_53 ?_
        refine s_isubU C dX0_heightBy_56 (fun z24 => ?_)
        refine a_aload_n C dX0_heightBy_57 (i := 1) rfl rfl ?_
        refine a_get C fl_RX0_96 (i := 30) kd_30 (hid 30 (by decide)) (v := .ref (ad 40)) rfl dX0_heightBy_58 ?_
        refine a_aload_n C dX0_heightBy_61 (i := 0) rfl rfl ?_
        refine a_get C fl_RX0_21 (i := 56) kd_56 (hid 56 (by decide)) (v := .int (σ.1 56 9)) rfl dX0_heightBy_62 ?_
        refine s_iald C (i := 40) kd_40 (hid 40 (by decide)) al_40 (by omega) (by omega) dX0_heightBy_65 (fun n26 h27 => ?_)
        refine s_val (fun z28 e29 => ?_)
        have g30 : z28.toInt = z15.toInt := congrArg Int32.toInt (e29.symm.trans ((congrArg (σ.1 40) (show n26 = n13 by omega)).trans e16))
        have g31 := bA_40 hG n26
        rw [e29] at g31
        refine a_callSi C (S_J9_floorMod_7cf53 (x1 := z24) (x2 := z28) hid hG (by omega)) ms_J9_floorMod_7cf53 ml_RX0_103 rfl rfl (Nat.le_of_ble_eq_true rfl) (Nat.le_of_ble_eq_true rfl) (Nat.le_of_ble_eq_true rfl) dX0_heightBy_66 (fun z32 σ33 q34 => ?_)
        obtain ⟨w35, w36⟩ := q34
        rw [w35]
        refine s_iald C (i := (34 + 1 + n21)) (kdH_34 n21 h23).1 (hid _ (kdH_34 n21 h23).2.2) (kdH_34 n21 h23).2.1 (by omega) (by omega) dX0_heightBy_69 (fun n37 h38 => ?_)
        refine s_val (fun z39 e40 => ?_)
        have g41 := (bH_34 hG h23) n37
        rw [e40] at g41
        exact a_iret Rt dX0_heightBy_70 rfl (rfl)
      ·
        refine s_iconst C dX0_heightBy_37 (3) (by decide) (fun z42 h43 => ?_)
        exact a_iret Rt dX0_heightBy_38 rfl (rfl)
  ·
    refine a_aload_n C dX0_heightBy_8 (i := 0) rfl rfl ?_
    refine a_get C fl_RX0_25 (i := 56) kd_56 (hid 56 (by decide)) (v := .int (σ.1 56 11)) rfl dX0_heightBy_9 ?_
    exact a_iret Rt dX0_heightBy_12 rfl (rfl)
set_option maxHeartbeats 4000000 in
set_option maxRecDepth 100000 in
theorem S_X0_heightBy_60_30 {l : Launch} {D : va_G} {ids : List Nat} {ad : Nat → Nat} {ca : Nat → ClassId} {σ : HS} (hid : ∀ i, i < 277 → i ∈ ids) (hG : GIc σ) : Ki l D ids ad ca yX0_heightBy cX0_heightBy 2 .int 1 22 [.ref (ad 60), .ref (ad 30)] σ (fun r σ1 => (σ1 = σ)) := by
  refine Ki.of (by decide) (Nat.le_of_ble_eq_true rfl) 0 (fun Γ C Rt => ?_)
  show AW ids ad ca Γ 0 [some (.ref (ad 60)), some (.ref (ad 30))] [] σ
  refine a_aload_n C dX0_heightBy_0 (i := 0) rfl rfl ?_
  refine a_get C fl_RX0_25 (i := 60) kd_60 (hid 60 (by decide)) (v := .int (σ.1 60 11)) rfl dX0_heightBy_1 ?_
  refine s_iconst C dX0_heightBy_4 (-1) (by decide) (fun z1 h2 => ?_)
  refine s_ic_eq C dX0_heightBy_5 (tgt := 13) rfl (fun c3 => ?_) (fun c3 => ?_)
  ·
    refine a_aload_n C dX0_heightBy_13 (i := 1) rfl rfl ?_
    refine a_aload_n C dX0_heightBy_14 (i := 0) rfl rfl ?_
    refine a_get C fl_RX0_21 (i := 60) kd_60 (hid 60 (by decide)) (v := .int (σ.1 60 9)) rfl dX0_heightBy_15 ?_
    refine a_callVi C (i := 30) kd_30 (hid 30 (by decide)) ⟨_, _, rfl⟩ (by decide) (S_X10_hasPattern_30 (x1 := (σ.1 60 9)) hid hG) mi_X10_hasPattern ml_RX0_93 rfl rfl (Nat.le_of_ble_eq_true rfl) (Nat.le_of_ble_eq_true rfl) (Nat.le_of_ble_eq_true rfl) dX0_heightBy_18 (fun z4 σ5 q6 => ?_)
    obtain ⟨w7, w8, w9⟩ := q6
    rw [w7]
    refine s_if_eq C dX0_heightBy_21 (tgt := 37) rfl (fun c10 => ?_) (fun c10 => ?_)
    ·
      refine s_iconst C dX0_heightBy_37 (3) (by decide) (fun z11 h12 => ?_)
      exact a_iret Rt dX0_heightBy_38 rfl (rfl)
    ·
      refine a_aload_n C dX0_heightBy_24 (i := 1) rfl rfl ?_
      refine a_get C fl_RX0_96 (i := 30) kd_30 (hid 30 (by decide)) (v := .ref (ad 40)) rfl dX0_heightBy_25 ?_
      refine a_aload_n C dX0_heightBy_28 (i := 0) rfl rfl ?_
      refine a_get C fl_RX0_21 (i := 60) kd_60 (hid 60 (by decide)) (v := .int (σ.1 60 9)) rfl dX0_heightBy_29 ?_
      refine s_iald C (i := 40) kd_40 (hid 40 (by decide)) al_40 (by omega) (by omega) dX0_heightBy_32 (fun n13 h14 => ?_)
      refine s_val (fun z15 e16 => ?_)
      have g17 := bA_40 hG n13
      rw [e16] at g17
      refine s_iconst C dX0_heightBy_33 (1) (by decide) (fun z18 h19 => ?_)
      refine s_ic_ge C dX0_heightBy_34 (tgt := 39) rfl (fun c20 => ?_) (fun c20 => ?_)
      ·
        refine a_aload_n C dX0_heightBy_39 (i := 1) rfl rfl ?_
        refine a_get C fl_RX0_99 (i := 30) kd_30 (hid 30 (by decide)) (v := .ref (ad 34)) rfl dX0_heightBy_40 ?_
        refine a_aload_n C dX0_heightBy_43 (i := 0) rfl rfl ?_
        refine a_get C fl_RX0_21 (i := 60) kd_60 (hid 60 (by decide)) (v := .int (σ.1 60 9)) rfl dX0_heightBy_44 ?_
        refine s_aaldH C (i := 34) kd_34 (hid 34 (by decide)) al_34 (by omega) (by omega) dX0_heightBy_47 (fun n21 h22 h23 => ?_)
        refine a_aload_n C dX0_heightBy_48 (i := 0) rfl rfl ?_
        refine a_get C fl_RX0_49 (i := 60) kd_60 (hid 60 (by decide)) (v := .int (σ.1 60 4)) rfl dX0_heightBy_49 ?_
        refine a_aload_n C dX0_heightBy_52 (i := 0) rfl rfl ?_
        refine a_get C fl_RX0_67 (i := 60) kd_60 (hid 60 (by decide)) (v := .int (σ.1 60 10)) rfl dX0_heightBy_53 ?_
        refine s_isubU C dX0_heightBy_56 (fun z24 => ?_)
        refine a_aload_n C dX0_heightBy_57 (i := 1) rfl rfl ?_
        refine a_get C fl_RX0_96 (i := 30) kd_30 (hid 30 (by decide)) (v := .ref (ad 40)) rfl dX0_heightBy_58 ?_
        refine a_aload_n C dX0_heightBy_61 (i := 0) rfl rfl ?_
        refine a_get C fl_RX0_21 (i := 60) kd_60 (hid 60 (by decide)) (v := .int (σ.1 60 9)) rfl dX0_heightBy_62 ?_
        refine s_iald C (i := 40) kd_40 (hid 40 (by decide)) al_40 (by omega) (by omega) dX0_heightBy_65 (fun n26 h27 => ?_)
        refine s_val (fun z28 e29 => ?_)
        have g30 : z28.toInt = z15.toInt := congrArg Int32.toInt (e29.symm.trans ((congrArg (σ.1 40) (show n26 = n13 by omega)).trans e16))
        have g31 := bA_40 hG n26
        rw [e29] at g31
        refine a_callSi C (S_J9_floorMod_7cf53 (x1 := z24) (x2 := z28) hid hG (by omega)) ms_J9_floorMod_7cf53 ml_RX0_103 rfl rfl (Nat.le_of_ble_eq_true rfl) (Nat.le_of_ble_eq_true rfl) (Nat.le_of_ble_eq_true rfl) dX0_heightBy_66 (fun z32 σ33 q34 => ?_)
        obtain ⟨w35, w36⟩ := q34
        rw [w35]
        refine s_iald C (i := (34 + 1 + n21)) (kdH_34 n21 h23).1 (hid _ (kdH_34 n21 h23).2.2) (kdH_34 n21 h23).2.1 (by omega) (by omega) dX0_heightBy_69 (fun n37 h38 => ?_)
        refine s_val (fun z39 e40 => ?_)
        have g41 := (bH_34 hG h23) n37
        rw [e40] at g41
        exact a_iret Rt dX0_heightBy_70 rfl (rfl)
      ·
        refine s_iconst C dX0_heightBy_37 (3) (by decide) (fun z42 h43 => ?_)
        exact a_iret Rt dX0_heightBy_38 rfl (rfl)
  ·
    refine a_aload_n C dX0_heightBy_8 (i := 0) rfl rfl ?_
    refine a_get C fl_RX0_25 (i := 60) kd_60 (hid 60 (by decide)) (v := .int (σ.1 60 11)) rfl dX0_heightBy_9 ?_
    exact a_iret Rt dX0_heightBy_12 rfl (rfl)
set_option maxHeartbeats 4000000 in
set_option maxRecDepth 100000 in
theorem S_J7_fill_53178_57 {l : Launch} {D : va_G} {ids : List Nat} {ad : Nat → Nat} {ca : Nat → ClassId} {σ : HS} {x2 : Int32} (hid : ∀ i, i < 277 → i ∈ ids) (hG : GIc σ) : Kv l D ids ad ca yJ7_fill_53178 cJ7_fill_53178 4 0 0 [.ref (ad 57), .int x2] σ (fun σ1 => (GIc σ1) ∧ (ony [57] σ σ1)) := by
  refine Kv.of (by decide) (Nat.le_of_ble_eq_true rfl) 2 (fun Γ C Rt => ?_)
  show AW ids ad ca Γ 0 [some (.ref (ad 57)), some (.int x2), none, none] [] σ
  have j5 : ∀ (d5 : Nat) (σq5 : HS) (y5_2 : Int32) (y5_3 : Int32), 7 - y5_2.toInt < d5 → GIc σq5 → ony [57] σ σq5 → 0 ≤ y5_2.toInt ∧ y5_2.toInt ≤ 7 → 7 ≤ y5_3.toInt ∧ y5_3.toInt ≤ 7 → AW ids ad ca Γ 5 [some (.ref (ad 57)), some (.int x2), some (.int y5_2), some (.int y5_3)] [] σq5 := by
    intro d5
    induction d5 with
    | zero =>
      intro σq5 y5_2 y5_3 hd5 hGq5 hoq5 hx5_0 hx5_1
      exfalso
      omega
    | succ d5 ih5 =>
      intro σq5 y5_2 y5_3 hd5 hGq5 hoq5 hx5_0 hx5_1
      refine a_iload_n C dJ7_fill_53178_5 (i := 2) rfl rfl ?_
      refine a_iload_n C dJ7_fill_53178_6 (i := 3) rfl rfl ?_
      refine s_ic_ge C dJ7_fill_53178_7 (tgt := 20) rfl (fun c1 => ?_) (fun c1 => ?_)
      ·
        exact a_vret Rt dJ7_fill_53178_20 (⟨hGq5, hoq5⟩)
      ·
        refine a_aload_n C dJ7_fill_53178_10 (i := 0) rfl rfl ?_
        refine a_iload_n C dJ7_fill_53178_11 (i := 2) rfl rfl ?_
        refine a_iload_n C dJ7_fill_53178_12 (i := 1) rfl rfl ?_
        refine s_iast C (i := 57) kd_57 (hid 57 (by decide)) al_57 (by omega) (by omega) dJ7_fill_53178_13 (fun n2 h3 => ?_)
        have hG4 := wA_57 (v := x2) (j := n2) hGq5
        refine s_iinc C dJ7_fill_53178_14 rfl (1) (by decide) (by omega) (by decide) rfl (fun z5 h6 => ?_)
        show AW ids ad ca Γ 17 [some (.ref (ad 57)), some (.int x2), some (.int z5), some (.int y5_3)] _ _
        refine a_goto C dJ7_fill_53178_17 (tgt := 5) rfl ?_
        exact ih5 _ z5 y5_3 (by omega) hG4 (ony.I hoq5 (by decide)) (by omega) (by omega)
  refine s_iconst C dJ7_fill_53178_0 (0) (by decide) (fun z7 h8 => ?_)
  refine a_istore_n C dJ7_fill_53178_1 (i := 2) rfl (by decide) rfl (vs1 := [some (.ref (ad 57)), some (.int x2), some (.int z7), none]) rfl ?_
  refine a_aload_n C dJ7_fill_53178_2 (i := 0) rfl rfl ?_
  refine s_alen C (by rw [kd_57]; decide) (hid 57 (by decide)) al_57 (by decide) dJ7_fill_53178_3 (fun z9 h10 => ?_)
  refine a_istore_n C dJ7_fill_53178_4 (i := 3) rfl (by decide) rfl (vs1 := [some (.ref (ad 57)), some (.int x2), some (.int z7), some (.int z9)]) rfl ?_
  exact j5 100000 _ z7 z9 (by omega) hG ony.rf (by omega) (by omega)
set_option maxHeartbeats 4000000 in
set_option maxRecDepth 100000 in
theorem S_J7_fill_53178_59 {l : Launch} {D : va_G} {ids : List Nat} {ad : Nat → Nat} {ca : Nat → ClassId} {σ : HS} {x2 : Int32} (hid : ∀ i, i < 277 → i ∈ ids) (hG : GIc σ) : Kv l D ids ad ca yJ7_fill_53178 cJ7_fill_53178 4 0 0 [.ref (ad 59), .int x2] σ (fun σ1 => (GIc σ1) ∧ (ony [59] σ σ1)) := by
  refine Kv.of (by decide) (Nat.le_of_ble_eq_true rfl) 2 (fun Γ C Rt => ?_)
  show AW ids ad ca Γ 0 [some (.ref (ad 59)), some (.int x2), none, none] [] σ
  have j5 : ∀ (d5 : Nat) (σq5 : HS) (y5_2 : Int32) (y5_3 : Int32), 7 - y5_2.toInt < d5 → GIc σq5 → ony [59] σ σq5 → 0 ≤ y5_2.toInt ∧ y5_2.toInt ≤ 7 → 7 ≤ y5_3.toInt ∧ y5_3.toInt ≤ 7 → AW ids ad ca Γ 5 [some (.ref (ad 59)), some (.int x2), some (.int y5_2), some (.int y5_3)] [] σq5 := by
    intro d5
    induction d5 with
    | zero =>
      intro σq5 y5_2 y5_3 hd5 hGq5 hoq5 hx5_0 hx5_1
      exfalso
      omega
    | succ d5 ih5 =>
      intro σq5 y5_2 y5_3 hd5 hGq5 hoq5 hx5_0 hx5_1
      refine a_iload_n C dJ7_fill_53178_5 (i := 2) rfl rfl ?_
      refine a_iload_n C dJ7_fill_53178_6 (i := 3) rfl rfl ?_
      refine s_ic_ge C dJ7_fill_53178_7 (tgt := 20) rfl (fun c1 => ?_) (fun c1 => ?_)
      ·
        exact a_vret Rt dJ7_fill_53178_20 (⟨hGq5, hoq5⟩)
      ·
        refine a_aload_n C dJ7_fill_53178_10 (i := 0) rfl rfl ?_
        refine a_iload_n C dJ7_fill_53178_11 (i := 2) rfl rfl ?_
        refine a_iload_n C dJ7_fill_53178_12 (i := 1) rfl rfl ?_
        refine s_iast C (i := 59) kd_59 (hid 59 (by decide)) al_59 (by omega) (by omega) dJ7_fill_53178_13 (fun n2 h3 => ?_)
        have hG4 := wA_59 (v := x2) (j := n2) hGq5
        refine s_iinc C dJ7_fill_53178_14 rfl (1) (by decide) (by omega) (by decide) rfl (fun z5 h6 => ?_)
        show AW ids ad ca Γ 17 [some (.ref (ad 59)), some (.int x2), some (.int z5), some (.int y5_3)] _ _
        refine a_goto C dJ7_fill_53178_17 (tgt := 5) rfl ?_
        exact ih5 _ z5 y5_3 (by omega) hG4 (ony.I hoq5 (by decide)) (by omega) (by omega)
  refine s_iconst C dJ7_fill_53178_0 (0) (by decide) (fun z7 h8 => ?_)
  refine a_istore_n C dJ7_fill_53178_1 (i := 2) rfl (by decide) rfl (vs1 := [some (.ref (ad 59)), some (.int x2), some (.int z7), none]) rfl ?_
  refine a_aload_n C dJ7_fill_53178_2 (i := 0) rfl rfl ?_
  refine s_alen C (by rw [kd_59]; decide) (hid 59 (by decide)) al_59 (by decide) dJ7_fill_53178_3 (fun z9 h10 => ?_)
  refine a_istore_n C dJ7_fill_53178_4 (i := 3) rfl (by decide) rfl (vs1 := [some (.ref (ad 59)), some (.int x2), some (.int z7), some (.int z9)]) rfl ?_
  exact j5 100000 _ z7 z9 (by omega) hG ony.rf (by omega) (by omega)
theorem dX0_begin_72 : decode cX0_begin 72 = .ok (.iconst 0, 1) := by decide +kernel
theorem dX0_begin_73 : decode cX0_begin 73 = .ok (.goto 4, 3) := by decide +kernel
set_option maxHeartbeats 4000000 in
set_option maxRecDepth 100000 in
theorem S_X0_begin_56_30 {l : Launch} {D : va_G} {ids : List Nat} {ad : Nat → Nat} {ca : Nat → ClassId} {σ : HS} (hid : ∀ i, i < 277 → i ∈ ids) (hG : GIc σ) : Kv l D ids ad ca yX0_begin cX0_begin 2 1 60 [.ref (ad 56), .ref (ad 30)] σ (fun σ1 => (GIc σ1) ∧ (ony [56, 57, 58, 59] σ σ1)) := by
  refine Kv.of (by decide) (Nat.le_of_ble_eq_true rfl) 0 (fun Γ C Rt => ?_)
  show AW ids ad ca Γ 0 [some (.ref (ad 56)), some (.ref (ad 30))] [] σ
  have j77 : ∀ (σq77 : HS) (u77_0 : Int32), GIc σq77 → ony [56, 57, 58, 59] σ σq77 → -1 ≤ u77_0.toInt ∧ u77_0.toInt ≤ 0 → AW ids ad ca Γ 77 [some (.ref (ad 56)), none] [.int u77_0, .ref (ad 56)] σq77 := by
    intro σq77 u77_0 hGq77 hoq77 hx77_0
    refine a_put C fp_RX0_21 (i := 56) kd_56 (hid 56 (by decide)) rfl rfl dX0_begin_77 ?_
    have hG1 := wF_56_9 (v := u77_0) hGq77
    refine a_aload_n C dX0_begin_80 (i := 0) rfl rfl ?_
    refine s_iconst C dX0_begin_81 (0) (by decide) (fun z2 h3 => ?_)
    refine a_put C fp_RX0_67 (i := 56) kd_56 (hid 56 (by decide)) rfl rfl dX0_begin_82 ?_
    have hG4 := wF_56_10 (v := z2) hG1
    refine a_aload_n C dX0_begin_85 (i := 0) rfl rfl ?_
    refine s_iconst C dX0_begin_86 (-1) (by decide) (fun z5 h6 => ?_)
    refine a_put C fp_RX0_25 (i := 56) kd_56 (hid 56 (by decide)) rfl rfl dX0_begin_87 ?_
    have hG7 := wF_56_11 (v := z5) hG4
    exact a_vret Rt dX0_begin_90 (⟨hG7, (ony.I (ony.I (ony.I hoq77 (by decide)) (by decide)) (by decide))⟩)
  refine a_aload_n C dX0_begin_0 (i := 0) rfl rfl ?_
  refine a_aload_n C dX0_begin_1 (i := 1) rfl rfl ?_
  have g8 := bF_30_0 hG
  refine a_get C fl_RX0_28 (i := 30) kd_30 (hid 30 (by decide)) (v := .int (σ.1 30 0)) rfl dX0_begin_2 ?_
  refine a_put C fp_RX0_33 (i := 56) kd_56 (hid 56 (by decide)) rfl rfl dX0_begin_5 ?_
  have hG9 := wF_56_0 (v := (σ.1 30 0)) hG (by omega) (by omega)
  refine a_aload_n C dX0_begin_8 (i := 0) rfl rfl ?_
  refine a_get C fl_RX0_9 (i := 56) kd_56 (hid 56 (by decide)) (v := .ref (ad 57)) rfl dX0_begin_9 ?_
  refine s_iconst C dX0_begin_12 (0) (by decide) (fun z10 h11 => ?_)
  refine a_callSv C (S_J7_fill_53178_57 (x2 := z10) hid hG9) ms_J7_fill_53178 ml_RX0_34 rfl rfl (Nat.le_of_ble_eq_true rfl) (Nat.le_of_ble_eq_true rfl) (Nat.le_of_ble_eq_true rfl) dX0_begin_13 (fun σ13 q14 => ?_)
  obtain ⟨hG15, ho16⟩ := q14
  refine a_aload_n C dX0_begin_16 (i := 0) rfl rfl ?_
  refine a_get C fl_RX0_18 (i := 56) kd_56 (hid 56 (by decide)) (v := .ref (ad 59)) rfl dX0_begin_17 ?_
  refine s_iconst C dX0_begin_20 (0) (by decide) (fun z18 h19 => ?_)
  refine a_callSv C (S_J7_fill_53178_59 (x2 := z18) hid hG15) ms_J7_fill_53178 ml_RX0_34 rfl rfl (Nat.le_of_ble_eq_true rfl) (Nat.le_of_ble_eq_true rfl) (Nat.le_of_ble_eq_true rfl) dX0_begin_21 (fun σ21 q22 => ?_)
  obtain ⟨hG23, ho24⟩ := q22
  refine a_aload_n C dX0_begin_24 (i := 1) rfl rfl ?_
  refine a_get C fl_RX0_40 (i := 30) kd_30 (hid 30 (by decide)) (v := .ref (ad 33)) rfl dX0_begin_25 ?_
  refine s_iconst C dX0_begin_28 (0) (by decide) (fun z26 h27 => ?_)
  refine a_aload_n C dX0_begin_29 (i := 0) rfl rfl ?_
  refine a_get C fl_RX0_15 (i := 56) kd_56 (hid 56 (by decide)) (v := .ref (ad 58)) rfl dX0_begin_30 ?_
  refine s_iconst C dX0_begin_33 (0) (by decide) (fun z28 h29 => ?_)
  refine s_bipush C dX0_begin_34 (7) (by decide) (fun z30 h31 => ?_)
  refine s_copyi C (i0 := 33) (i1 := 58) 7 ml_RX0_43 ac_w.1 ac_w.2.1 ac_w.2.2 kd_33 (hid 33 (by decide)) kd_58 (hid 58 (by decide)) (by omega) (by omega) (by omega) (by rw [al_33]; decide) (by rw [al_58]; decide) (Nat.le_of_ble_eq_true rfl) (Nat.le_of_ble_eq_true rfl) dX0_begin_36 ?_
  have hG32 := wC_58 (i := 33) (n := 7) hG23
  refine a_aload_n C dX0_begin_39 (i := 0) rfl rfl ?_
  refine s_iconst C dX0_begin_40 (0) (by decide) (fun z33 h34 => ?_)
  refine a_put C fp_RX0_49 (i := 56) kd_56 (hid 56 (by decide)) rfl rfl dX0_begin_41 ?_
  have hG35 := wF_56_4 (v := z33) hG32
  refine a_aload_n C dX0_begin_44 (i := 0) rfl rfl ?_
  refine s_iconst C dX0_begin_45 (0) (by decide) (fun z36 h37 => ?_)
  refine a_put C fp_RX0_52 (i := 56) kd_56 (hid 56 (by decide)) rfl rfl dX0_begin_46 ?_
  have hG38 := wF_56_5 (v := z36) hG35
  refine a_aload_n C dX0_begin_49 (i := 0) rfl rfl ?_
  refine s_iconst C dX0_begin_50 (0) (by decide) (fun z39 h40 => ?_)
  refine a_put C fp_RX0_55 (i := 56) kd_56 (hid 56 (by decide)) rfl rfl dX0_begin_51 ?_
  have hG41 := wF_56_6 (v := z39) hG38
  refine a_aload_n C dX0_begin_54 (i := 0) rfl rfl ?_
  refine s_iconst C dX0_begin_55 (0) (by decide) (fun z42 h43 => ?_)
  refine a_put C fp_RX0_58 (i := 56) kd_56 (hid 56 (by decide)) rfl rfl dX0_begin_56 ?_
  have hG44 := wF_56_7 (v := z42) hG41
  refine a_aload_n C dX0_begin_59 (i := 0) rfl rfl ?_
  refine s_iconst C dX0_begin_60 (0) (by decide) (fun z45 h46 => ?_)
  refine a_put C fp_RX0_61 (i := 56) kd_56 (hid 56 (by decide)) rfl rfl dX0_begin_61 ?_
  have hG47 := wF_56_8 (v := z45) hG44
  refine a_aload_n C dX0_begin_64 (i := 0) rfl rfl ?_
  refine a_aload_n C dX0_begin_65 (i := 1) rfl rfl ?_
  have g48 := bF_30_4 hG23
  have g49 := bF_30_4 hG15
  have g50 := bF_30_4 hG
  have g51 : (σ13.1 30 4).toInt = (σ.1 30 4).toInt := congrArg Int32.toInt (congrFun (ho16.1 30 (by decide)).1 4)
  have g52 : (σ21.1 30 4).toInt = (σ13.1 30 4).toInt := congrArg Int32.toInt (congrFun (ho24.1 30 (by decide)).1 4)
  refine a_get C fl_RX0_64 (i := 30) kd_30 (hid 30 (by decide)) (v := .int (σ21.1 30 4)) rfl dX0_begin_66 ?_
  refine s_if_le C dX0_begin_69 (tgt := 76) rfl (fun c53 => ?_) (fun c53 => ?_)
  ·
    refine s_iconst C dX0_begin_76 (-1) (by decide) (fun z54 h55 => ?_)
    refine AW.sub (vs' := [some (.ref (ad 56)), none]) (lsub_of (by simp [lsubB])) ?_
    exact j77 _ z54 hG47 (ony.I (ony.I (ony.I (ony.I (ony.I (ony.C (ony.tr (ony.tr (ony.I ony.rf (by decide)) (ony.mono ho16 (by decide))) (ony.mono ho24 (by decide))) (by decide)) (by decide)) (by decide)) (by decide)) (by decide)) (by decide)) (by omega)
  ·
    refine s_iconst C dX0_begin_72 (0) (by decide) (fun z56 h57 => ?_)
    refine a_goto C dX0_begin_73 (tgt := 77) rfl ?_
    refine AW.sub (vs' := [some (.ref (ad 56)), none]) (lsub_of (by simp [lsubB])) ?_
    exact j77 _ z56 hG47 (ony.I (ony.I (ony.I (ony.I (ony.I (ony.C (ony.tr (ony.tr (ony.I ony.rf (by decide)) (ony.mono ho16 (by decide))) (ony.mono ho24 (by decide))) (by decide)) (by decide)) (by decide)) (by decide)) (by decide)) (by decide)) (by omega)
set_option maxHeartbeats 4000000 in
set_option maxRecDepth 100000 in
theorem S_X10_hasThing_43 {l : Launch} {D : va_G} {ids : List Nat} {ad : Nat → Nat} {ca : Nat → ClassId} {σ : HS} {x1 : Int32} (hid : ∀ i, i < 277 → i ∈ ids) (hG : GIc σ) : Ki l D ids ad ca yX10_hasThing cX10_hasThing 2 .boolean 0 0 [.ref (ad 43), .int x1] σ (fun r σ1 => (σ1 = σ) ∧ (0 ≤ r.toInt ∧ r.toInt ≤ 1) ∧ (r.toInt = 1 → 0 ≤ x1.toInt ∧ x1.toInt ≤ 6 ∧ x1.toInt < (σ.1 43 0).toInt)) := by
  refine Ki.of (by decide) (Nat.le_of_ble_eq_true rfl) 0 (fun Γ C Rt => ?_)
  show AW ids ad ca Γ 0 [some (.ref (ad 43)), some (.int x1)] [] σ
  refine a_iload_n C dX10_hasThing_0 (i := 1) rfl rfl ?_
  refine s_if_lt C dX10_hasThing_1 (tgt := 16) rfl (fun c1 => ?_) (fun c1 => ?_)
  ·
    refine s_iconst C dX10_hasThing_16 (0) (by decide) (fun z2 h3 => ?_)
    exact a_iret Rt dX10_hasThing_17 (nar_z (by omega)).1 (⟨rfl, (show 0 ≤ z2.toInt ∧ z2.toInt ≤ 1 by intros; omega), (show z2.toInt = 1 → 0 ≤ x1.toInt ∧ x1.toInt ≤ 6 ∧ x1.toInt < (σ.1 43 0).toInt by intros; omega)⟩)
  ·
    refine a_iload_n C dX10_hasThing_4 (i := 1) rfl rfl ?_
    refine a_aload_n C dX10_hasThing_5 (i := 0) rfl rfl ?_
    have g4 := bF_43_0 hG
    refine a_get C fl_RX10_38 (i := 43) kd_43 (hid 43 (by decide)) (v := .int (σ.1 43 0)) rfl dX10_hasThing_6 ?_
    refine s_ic_ge C dX10_hasThing_9 (tgt := 16) rfl (fun c5 => ?_) (fun c5 => ?_)
    ·
      refine s_iconst C dX10_hasThing_16 (0) (by decide) (fun z6 h7 => ?_)
      exact a_iret Rt dX10_hasThing_17 (nar_z (by omega)).1 (⟨rfl, (show 0 ≤ z6.toInt ∧ z6.toInt ≤ 1 by intros; omega), (show z6.toInt = 1 → 0 ≤ x1.toInt ∧ x1.toInt ≤ 6 ∧ x1.toInt < (σ.1 43 0).toInt by intros; omega)⟩)
    ·
      refine s_iconst C dX10_hasThing_12 (1) (by decide) (fun z8 h9 => ?_)
      refine a_goto C dX10_hasThing_13 (tgt := 17) rfl ?_
      exact a_iret Rt dX10_hasThing_17 (nar_z (by omega)).1 (⟨rfl, (show 0 ≤ z8.toInt ∧ z8.toInt ≤ 1 by intros; omega), (show z8.toInt = 1 → 0 ≤ x1.toInt ∧ x1.toInt ≤ 6 ∧ x1.toInt < (σ.1 43 0).toInt by intros; omega)⟩)
set_option maxHeartbeats 4000000 in
set_option maxRecDepth 100000 in
theorem S_X10_hasPattern_43 {l : Launch} {D : va_G} {ids : List Nat} {ad : Nat → Nat} {ca : Nat → ClassId} {σ : HS} {x1 : Int32} (hid : ∀ i, i < 277 → i ∈ ids) (hG : GIc σ) : Ki l D ids ad ca yX10_hasPattern cX10_hasPattern 2 .boolean 0 0 [.ref (ad 43), .int x1] σ (fun r σ1 => (σ1 = σ) ∧ (0 ≤ r.toInt ∧ r.toInt ≤ 1) ∧ (r.toInt = 1 → 0 ≤ x1.toInt ∧ x1.toInt ≤ 4 ∧ x1.toInt < (σ.1 43 4).toInt)) := by
  refine Ki.of (by decide) (Nat.le_of_ble_eq_true rfl) 0 (fun Γ C Rt => ?_)
  show AW ids ad ca Γ 0 [some (.ref (ad 43)), some (.int x1)] [] σ
  refine a_iload_n C dX10_hasPattern_0 (i := 1) rfl rfl ?_
  refine s_if_lt C dX10_hasPattern_1 (tgt := 16) rfl (fun c1 => ?_) (fun c1 => ?_)
  ·
    refine s_iconst C dX10_hasPattern_16 (0) (by decide) (fun z2 h3 => ?_)
    exact a_iret Rt dX10_hasPattern_17 (nar_z (by omega)).1 (⟨rfl, (show 0 ≤ z2.toInt ∧ z2.toInt ≤ 1 by intros; omega), (show z2.toInt = 1 → 0 ≤ x1.toInt ∧ x1.toInt ≤ 4 ∧ x1.toInt < (σ.1 43 4).toInt by intros; omega)⟩)
  ·
    refine a_iload_n C dX10_hasPattern_4 (i := 1) rfl rfl ?_
    refine a_aload_n C dX10_hasPattern_5 (i := 0) rfl rfl ?_
    have g4 := bF_43_4 hG
    refine a_get C fl_RX10_42 (i := 43) kd_43 (hid 43 (by decide)) (v := .int (σ.1 43 4)) rfl dX10_hasPattern_6 ?_
    refine s_ic_ge C dX10_hasPattern_9 (tgt := 16) rfl (fun c5 => ?_) (fun c5 => ?_)
    ·
      refine s_iconst C dX10_hasPattern_16 (0) (by decide) (fun z6 h7 => ?_)
      exact a_iret Rt dX10_hasPattern_17 (nar_z (by omega)).1 (⟨rfl, (show 0 ≤ z6.toInt ∧ z6.toInt ≤ 1 by intros; omega), (show z6.toInt = 1 → 0 ≤ x1.toInt ∧ x1.toInt ≤ 4 ∧ x1.toInt < (σ.1 43 4).toInt by intros; omega)⟩)
    ·
      refine s_iconst C dX10_hasPattern_12 (1) (by decide) (fun z8 h9 => ?_)
      refine a_goto C dX10_hasPattern_13 (tgt := 17) rfl ?_
      exact a_iret Rt dX10_hasPattern_17 (nar_z (by omega)).1 (⟨rfl, (show 0 ≤ z8.toInt ∧ z8.toInt ≤ 1 by intros; omega), (show z8.toInt = 1 → 0 ≤ x1.toInt ∧ x1.toInt ≤ 4 ∧ x1.toInt < (σ.1 43 4).toInt by intros; omega)⟩)
set_option maxHeartbeats 4000000 in
set_option maxRecDepth 100000 in
theorem S_X10_emit_43 {l : Launch} {D : va_G} {ids : List Nat} {ad : Nat → Nat} {ca : Nat → ClassId} {σ : HS} {x1 : Int32} (hid : ∀ i, i < 277 → i ∈ ids) (hG : GIc σ) : Kv l D ids ad ca yX10_emit cX10_emit 2 0 0 [.ref (ad 43), .int x1] σ (fun σ1 => (GIc σ1) ∧ (ony [43, 54] σ σ1)) := by
  refine Kv.of (by decide) (Nat.le_of_ble_eq_true rfl) 0 (fun Γ C Rt => ?_)
  show AW ids ad ca Γ 0 [some (.ref (ad 43)), some (.int x1)] [] σ
  refine a_aload_n C dX10_emit_0 (i := 0) rfl rfl ?_
  have g1 := bF_43_8 hG
  refine a_get C fl_RX10_51 (i := 43) kd_43 (hid 43 (by decide)) (v := .int (σ.1 43 8)) rfl dX10_emit_1 ?_
  refine a_aload_n C dX10_emit_4 (i := 0) rfl rfl ?_
  refine a_get C fl_RX10_29 (i := 43) kd_43 (hid 43 (by decide)) (v := .ref (ad 54)) rfl dX10_emit_5 ?_
  refine s_alen C (by rw [kd_54]; decide) (hid 54 (by decide)) al_54 (by decide) dX10_emit_8 (fun z2 h3 => ?_)
  refine s_ic_ge C dX10_emit_9 (tgt := 32) rfl (fun c4 => ?_) (fun c4 => ?_)
  ·
    exact a_vret Rt dX10_emit_32 (⟨hG, ony.rf⟩)
  ·
    refine a_aload_n C dX10_emit_12 (i := 0) rfl rfl ?_
    refine a_get C fl_RX10_29 (i := 43) kd_43 (hid 43 (by decide)) (v := .ref (ad 54)) rfl dX10_emit_13 ?_
    refine a_aload_n C dX10_emit_16 (i := 0) rfl rfl ?_
    have g5 := bF_43_8 hG
    refine a_get C fl_RX10_51 (i := 43) kd_43 (hid 43 (by decide)) (v := .int (σ.1 43 8)) rfl dX10_emit_17 ?_
    refine a_iload_n C dX10_emit_20 (i := 1) rfl rfl ?_
    refine s_iast C (i := 54) kd_54 (hid 54 (by decide)) al_54 (by omega) (by omega) dX10_emit_21 (fun n6 h7 => ?_)
    have hG8 := wA_54 (v := x1) (j := n6) hG
    refine a_aload_n C dX10_emit_22 (i := 0) rfl rfl ?_
    refine a_dup C dX10_emit_23 rfl ?_
    have g9 := bF_43_8 hG
    refine a_get C fl_RX10_51 (i := 43) kd_43 (hid 43 (by decide)) (v := .int (σ.1 43 8)) rfl dX10_emit_24 ?_
    refine s_iconst C dX10_emit_27 (1) (by decide) (fun z10 h11 => ?_)
    refine s_iadd C dX10_emit_28 (by omega) (fun z12 h13 => ?_)
    refine a_put C fp_RX10_51 (i := 43) kd_43 (hid 43 (by decide)) rfl rfl dX10_emit_29 ?_
    have hG14 := wF_43_8 (v := z12) hG8 (by omega) (by omega)
    exact a_vret Rt dX10_emit_32 (⟨hG14, (ony.I (ony.I ony.rf (by decide)) (by decide))⟩)
set_option maxHeartbeats 4000000 in
set_option maxRecDepth 100000 in
theorem S_X10_clear_43 {l : Launch} {D : va_G} {ids : List Nat} {ad : Nat → Nat} {ca : Nat → ClassId} {σ : HS} (hid : ∀ i, i < 277 → i ∈ ids) (hG : GIc σ) : Kv l D ids ad ca yX10_clear cX10_clear 2 1 21 [.ref (ad 43)] σ (fun σ1 => (GIc σ1) ∧ (ony [43, 54, 55] σ σ1)) := by
  refine Kv.of (by decide) (Nat.le_of_ble_eq_true rfl) 1 (fun Γ C Rt => ?_)
  show AW ids ad ca Γ 0 [some (.ref (ad 43)), none] [] σ
  have j27 : ∀ (d27 : Nat) (σq27 : HS) (y27_1 : Int32), 4 - y27_1.toInt < d27 → GIc σq27 → ony [43, 54, 55] σ σq27 → 0 ≤ y27_1.toInt ∧ y27_1.toInt ≤ 4 → AW ids ad ca Γ 27 [some (.ref (ad 43)), some (.int y27_1)] [] σq27 := by
    intro d27
    induction d27 with
    | zero =>
      intro σq27 y27_1 hd27 hGq27 hoq27 hx27_0
      exfalso
      omega
    | succ d27 ih27 =>
      intro σq27 y27_1 hd27 hGq27 hoq27 hx27_0
      have j54 : ∀ (σq54 : HS) (u54_0 : Int32), GIc σq54 → ony [43, 54, 55] σ σq54 → -11 ≤ u54_0.toInt ∧ u54_0.toInt ≤ 0 → 0 ≤ y27_1.toInt ∧ y27_1.toInt ≤ 3 → AW ids ad ca Γ 54 [some (.ref (ad 43)), some (.int y27_1)] [.int u54_0, .ref (ad 43)] σq54 := by
        intro σq54 u54_0 hGq54 hoq54 hx54_0 hx54_1
        refine a_callVv C (i := 43) kd_43 (hid 43 (by decide)) ⟨_, _, rfl⟩ (by decide) (S_X10_emit_43 (x1 := u54_0) hid hGq54) mi_X10_emit ml_RX10_54 rfl rfl (Nat.le_of_ble_eq_true rfl) (Nat.le_of_ble_eq_true rfl) (Nat.le_of_ble_eq_true rfl) dX10_clear_54 (fun σ2 q3 => ?_)
        obtain ⟨hG4, ho5⟩ := q3
        refine a_aload_n C dX10_clear_57 (i := 0) rfl rfl ?_
        refine s_bipush C dX10_clear_58 (-6) (by decide) (fun z7 h8 => ?_)
        refine a_callVv C (i := 43) kd_43 (hid 43 (by decide)) ⟨_, _, rfl⟩ (by decide) (S_X10_emit_43 (x1 := z7) hid hG4) mi_X10_emit ml_RX10_54 rfl rfl (Nat.le_of_ble_eq_true rfl) (Nat.le_of_ble_eq_true rfl) (Nat.le_of_ble_eq_true rfl) dX10_clear_60 (fun σ10 q11 => ?_)
        obtain ⟨hG12, ho13⟩ := q11
        refine s_iinc C dX10_clear_63 rfl (1) (by decide) (by omega) (by decide) rfl (fun z15 h16 => ?_)
        show AW ids ad ca Γ 66 [some (.ref (ad 43)), some (.int z15)] _ _
        refine a_goto C dX10_clear_66 (tgt := 27) rfl ?_
        exact ih27 _ z15 (by omega) hG12 (ony.tr (ony.tr hoq54 (ony.mono ho5 (by decide))) (ony.mono ho13 (by decide))) (by omega)
      refine a_iload_n C dX10_clear_27 (i := 1) rfl rfl ?_
      refine s_iconst C dX10_clear_28 (4) (by decide) (fun z17 h18 => ?_)
      refine s_ic_ge C dX10_clear_29 (tgt := 69) rfl (fun c19 => ?_) (fun c19 => ?_)
      ·
        exact a_vret Rt dX10_clear_69 (⟨hGq27, hoq27⟩)
      ·
        refine a_aload_n C dX10_clear_32 (i := 0) rfl rfl ?_
        refine a_get C fl_RX10_32 (i := 43) kd_43 (hid 43 (by decide)) (v := .ref (ad 55)) rfl dX10_clear_33 ?_
        refine a_iload_n C dX10_clear_36 (i := 1) rfl rfl ?_
        refine a_aload_n C dX10_clear_37 (i := 0) rfl rfl ?_
        have g20 := bF_43_8 hGq27
        refine a_get C fl_RX10_51 (i := 43) kd_43 (hid 43 (by decide)) (v := .int (σq27.1 43 8)) rfl dX10_clear_38 ?_
        refine s_iast C (i := 55) kd_55 (hid 55 (by decide)) al_55 (by omega) (by omega) dX10_clear_41 (fun n21 h22 => ?_)
        have hG23 := wA_55 (v := (σq27.1 43 8)) (j := n21) hGq27
        refine a_aload_n C dX10_clear_42 (i := 0) rfl rfl ?_
        refine a_iload_n C dX10_clear_43 (i := 1) rfl rfl ?_
        refine s_iconst C dX10_clear_44 (2) (by decide) (fun z24 h25 => ?_)
        refine s_ic_ne C dX10_clear_45 (tgt := 53) rfl (fun c26 => ?_) (fun c26 => ?_)
        ·
          refine s_iconst C dX10_clear_53 (0) (by decide) (fun z27 h28 => ?_)
          exact j54 _ z27 hG23 (ony.I hoq27 (by decide)) (by omega) (by omega)
        ·
          refine s_bipush C dX10_clear_48 (-11) (by decide) (fun z29 h30 => ?_)
          refine a_goto C dX10_clear_50 (tgt := 54) rfl ?_
          exact j54 _ z29 hG23 (ony.I hoq27 (by decide)) (by omega) (by omega)
  refine a_aload_n C dX10_clear_0 (i := 0) rfl rfl ?_
  refine s_iconst C dX10_clear_1 (0) (by decide) (fun z31 h32 => ?_)
  refine a_put C fp_RX10_38 (i := 43) kd_43 (hid 43 (by decide)) rfl rfl dX10_clear_2 ?_
  have hG33 := wF_43_0 (v := z31) hG (by omega) (by omega)
  refine a_aload_n C dX10_clear_5 (i := 0) rfl rfl ?_
  refine s_iconst C dX10_clear_6 (0) (by decide) (fun z34 h35 => ?_)
  refine a_put C fp_RX10_42 (i := 43) kd_43 (hid 43 (by decide)) rfl rfl dX10_clear_7 ?_
  have hG36 := wF_43_4 (v := z34) hG33 (by omega) (by omega)
  refine a_aload_n C dX10_clear_10 (i := 0) rfl rfl ?_
  refine s_iconst C dX10_clear_11 (1) (by decide) (fun z37 h38 => ?_)
  refine a_put C fp_RX10_45 (i := 43) kd_43 (hid 43 (by decide)) rfl rfl dX10_clear_12 ?_
  have hG39 := wF_43_10 (v := z37) hG36
  refine a_aload_n C dX10_clear_15 (i := 0) rfl rfl ?_
  refine s_iconst C dX10_clear_16 (0) (by decide) (fun z40 h41 => ?_)
  refine a_put C fp_RX10_48 (i := 43) kd_43 (hid 43 (by decide)) rfl rfl dX10_clear_17 ?_
  have hG42 := wF_43_11 (v := z40) hG39
  refine a_aload_n C dX10_clear_20 (i := 0) rfl rfl ?_
  refine s_iconst C dX10_clear_21 (0) (by decide) (fun z43 h44 => ?_)
  refine a_put C fp_RX10_51 (i := 43) kd_43 (hid 43 (by decide)) rfl rfl dX10_clear_22 ?_
  have hG45 := wF_43_8 (v := z43) hG42 (by omega) (by omega)
  refine s_iconst C dX10_clear_25 (0) (by decide) (fun z46 h47 => ?_)
  refine a_istore_n C dX10_clear_26 (i := 1) rfl (by decide) rfl (vs1 := [some (.ref (ad 43)), some (.int z46)]) rfl ?_
  exact j27 100000 _ z46 (by omega) hG45 (ony.I (ony.I (ony.I (ony.I (ony.I ony.rf (by decide)) (by decide)) (by decide)) (by decide)) (by decide)) (by omega)
set_option maxHeartbeats 4000000 in
set_option maxRecDepth 100000 in
theorem S_X0_heightBy_56_43 {l : Launch} {D : va_G} {ids : List Nat} {ad : Nat → Nat} {ca : Nat → ClassId} {σ : HS} (hid : ∀ i, i < 277 → i ∈ ids) (hG : GIc σ) : Ki l D ids ad ca yX0_heightBy cX0_heightBy 2 .int 1 22 [.ref (ad 56), .ref (ad 43)] σ (fun r σ1 => (σ1 = σ)) := by
  refine Ki.of (by decide) (Nat.le_of_ble_eq_true rfl) 0 (fun Γ C Rt => ?_)
  show AW ids ad ca Γ 0 [some (.ref (ad 56)), some (.ref (ad 43))] [] σ
  refine a_aload_n C dX0_heightBy_0 (i := 0) rfl rfl ?_
  refine a_get C fl_RX0_25 (i := 56) kd_56 (hid 56 (by decide)) (v := .int (σ.1 56 11)) rfl dX0_heightBy_1 ?_
  refine s_iconst C dX0_heightBy_4 (-1) (by decide) (fun z1 h2 => ?_)
  refine s_ic_eq C dX0_heightBy_5 (tgt := 13) rfl (fun c3 => ?_) (fun c3 => ?_)
  ·
    refine a_aload_n C dX0_heightBy_13 (i := 1) rfl rfl ?_
    refine a_aload_n C dX0_heightBy_14 (i := 0) rfl rfl ?_
    refine a_get C fl_RX0_21 (i := 56) kd_56 (hid 56 (by decide)) (v := .int (σ.1 56 9)) rfl dX0_heightBy_15 ?_
    refine a_callVi C (i := 43) kd_43 (hid 43 (by decide)) ⟨_, _, rfl⟩ (by decide) (S_X10_hasPattern_43 (x1 := (σ.1 56 9)) hid hG) mi_X10_hasPattern ml_RX0_93 rfl rfl (Nat.le_of_ble_eq_true rfl) (Nat.le_of_ble_eq_true rfl) (Nat.le_of_ble_eq_true rfl) dX0_heightBy_18 (fun z4 σ5 q6 => ?_)
    obtain ⟨w7, w8, w9⟩ := q6
    rw [w7]
    refine s_if_eq C dX0_heightBy_21 (tgt := 37) rfl (fun c10 => ?_) (fun c10 => ?_)
    ·
      refine s_iconst C dX0_heightBy_37 (3) (by decide) (fun z11 h12 => ?_)
      exact a_iret Rt dX0_heightBy_38 rfl (rfl)
    ·
      refine a_aload_n C dX0_heightBy_24 (i := 1) rfl rfl ?_
      refine a_get C fl_RX0_96 (i := 43) kd_43 (hid 43 (by decide)) (v := .ref (ad 53)) rfl dX0_heightBy_25 ?_
      refine a_aload_n C dX0_heightBy_28 (i := 0) rfl rfl ?_
      refine a_get C fl_RX0_21 (i := 56) kd_56 (hid 56 (by decide)) (v := .int (σ.1 56 9)) rfl dX0_heightBy_29 ?_
      refine s_iald C (i := 53) kd_53 (hid 53 (by decide)) al_53 (by omega) (by omega) dX0_heightBy_32 (fun n13 h14 => ?_)
      refine s_val (fun z15 e16 => ?_)
      have g17 := bA_53 hG n13
      rw [e16] at g17
      refine s_iconst C dX0_heightBy_33 (1) (by decide) (fun z18 h19 => ?_)
      refine s_ic_ge C dX0_heightBy_34 (tgt := 39) rfl (fun c20 => ?_) (fun c20 => ?_)
      ·
        refine a_aload_n C dX0_heightBy_39 (i := 1) rfl rfl ?_
        refine a_get C fl_RX0_99 (i := 43) kd_43 (hid 43 (by decide)) (v := .ref (ad 47)) rfl dX0_heightBy_40 ?_
        refine a_aload_n C dX0_heightBy_43 (i := 0) rfl rfl ?_
        refine a_get C fl_RX0_21 (i := 56) kd_56 (hid 56 (by decide)) (v := .int (σ.1 56 9)) rfl dX0_heightBy_44 ?_
        refine s_aaldH C (i := 47) kd_47 (hid 47 (by decide)) al_47 (by omega) (by omega) dX0_heightBy_47 (fun n21 h22 h23 => ?_)
        refine a_aload_n C dX0_heightBy_48 (i := 0) rfl rfl ?_
        refine a_get C fl_RX0_49 (i := 56) kd_56 (hid 56 (by decide)) (v := .int (σ.1 56 4)) rfl dX0_heightBy_49 ?_
        refine a_aload_n C dX0_heightBy_52 (i := 0) rfl rfl ?_
        refine a_get C fl_RX0_67 (i := 56) kd_56 (hid 56 (by decide)) (v := .int (σ.1 56 10)) rfl dX0_heightBy_53 ?_
        refine s_isubU C dX0_heightBy_56 (fun z24 => ?_)
        refine a_aload_n C dX0_heightBy_57 (i := 1) rfl rfl ?_
        refine a_get C fl_RX0_96 (i := 43) kd_43 (hid 43 (by decide)) (v := .ref (ad 53)) rfl dX0_heightBy_58 ?_
        refine a_aload_n C dX0_heightBy_61 (i := 0) rfl rfl ?_
        refine a_get C fl_RX0_21 (i := 56) kd_56 (hid 56 (by decide)) (v := .int (σ.1 56 9)) rfl dX0_heightBy_62 ?_
        refine s_iald C (i := 53) kd_53 (hid 53 (by decide)) al_53 (by omega) (by omega) dX0_heightBy_65 (fun n26 h27 => ?_)
        refine s_val (fun z28 e29 => ?_)
        have g30 : z28.toInt = z15.toInt := congrArg Int32.toInt (e29.symm.trans ((congrArg (σ.1 53) (show n26 = n13 by omega)).trans e16))
        have g31 := bA_53 hG n26
        rw [e29] at g31
        refine a_callSi C (S_J9_floorMod_7cf53 (x1 := z24) (x2 := z28) hid hG (by omega)) ms_J9_floorMod_7cf53 ml_RX0_103 rfl rfl (Nat.le_of_ble_eq_true rfl) (Nat.le_of_ble_eq_true rfl) (Nat.le_of_ble_eq_true rfl) dX0_heightBy_66 (fun z32 σ33 q34 => ?_)
        obtain ⟨w35, w36⟩ := q34
        rw [w35]
        refine s_iald C (i := (47 + 1 + n21)) (kdH_47 n21 h23).1 (hid _ (kdH_47 n21 h23).2.2) (kdH_47 n21 h23).2.1 (by omega) (by omega) dX0_heightBy_69 (fun n37 h38 => ?_)
        refine s_val (fun z39 e40 => ?_)
        have g41 := (bH_47 hG h23) n37
        rw [e40] at g41
        exact a_iret Rt dX0_heightBy_70 rfl (rfl)
      ·
        refine s_iconst C dX0_heightBy_37 (3) (by decide) (fun z42 h43 => ?_)
        exact a_iret Rt dX0_heightBy_38 rfl (rfl)
  ·
    refine a_aload_n C dX0_heightBy_8 (i := 0) rfl rfl ?_
    refine a_get C fl_RX0_25 (i := 56) kd_56 (hid 56 (by decide)) (v := .int (σ.1 56 11)) rfl dX0_heightBy_9 ?_
    exact a_iret Rt dX0_heightBy_12 rfl (rfl)
set_option maxHeartbeats 4000000 in
set_option maxRecDepth 100000 in
theorem S_X0_heightBy_60_43 {l : Launch} {D : va_G} {ids : List Nat} {ad : Nat → Nat} {ca : Nat → ClassId} {σ : HS} (hid : ∀ i, i < 277 → i ∈ ids) (hG : GIc σ) : Ki l D ids ad ca yX0_heightBy cX0_heightBy 2 .int 1 22 [.ref (ad 60), .ref (ad 43)] σ (fun r σ1 => (σ1 = σ)) := by
  refine Ki.of (by decide) (Nat.le_of_ble_eq_true rfl) 0 (fun Γ C Rt => ?_)
  show AW ids ad ca Γ 0 [some (.ref (ad 60)), some (.ref (ad 43))] [] σ
  refine a_aload_n C dX0_heightBy_0 (i := 0) rfl rfl ?_
  refine a_get C fl_RX0_25 (i := 60) kd_60 (hid 60 (by decide)) (v := .int (σ.1 60 11)) rfl dX0_heightBy_1 ?_
  refine s_iconst C dX0_heightBy_4 (-1) (by decide) (fun z1 h2 => ?_)
  refine s_ic_eq C dX0_heightBy_5 (tgt := 13) rfl (fun c3 => ?_) (fun c3 => ?_)
  ·
    refine a_aload_n C dX0_heightBy_13 (i := 1) rfl rfl ?_
    refine a_aload_n C dX0_heightBy_14 (i := 0) rfl rfl ?_
    refine a_get C fl_RX0_21 (i := 60) kd_60 (hid 60 (by decide)) (v := .int (σ.1 60 9)) rfl dX0_heightBy_15 ?_
    refine a_callVi C (i := 43) kd_43 (hid 43 (by decide)) ⟨_, _, rfl⟩ (by decide) (S_X10_hasPattern_43 (x1 := (σ.1 60 9)) hid hG) mi_X10_hasPattern ml_RX0_93 rfl rfl (Nat.le_of_ble_eq_true rfl) (Nat.le_of_ble_eq_true rfl) (Nat.le_of_ble_eq_true rfl) dX0_heightBy_18 (fun z4 σ5 q6 => ?_)
    obtain ⟨w7, w8, w9⟩ := q6
    rw [w7]
    refine s_if_eq C dX0_heightBy_21 (tgt := 37) rfl (fun c10 => ?_) (fun c10 => ?_)
    ·
      refine s_iconst C dX0_heightBy_37 (3) (by decide) (fun z11 h12 => ?_)
      exact a_iret Rt dX0_heightBy_38 rfl (rfl)
    ·
      refine a_aload_n C dX0_heightBy_24 (i := 1) rfl rfl ?_
      refine a_get C fl_RX0_96 (i := 43) kd_43 (hid 43 (by decide)) (v := .ref (ad 53)) rfl dX0_heightBy_25 ?_
      refine a_aload_n C dX0_heightBy_28 (i := 0) rfl rfl ?_
      refine a_get C fl_RX0_21 (i := 60) kd_60 (hid 60 (by decide)) (v := .int (σ.1 60 9)) rfl dX0_heightBy_29 ?_
      refine s_iald C (i := 53) kd_53 (hid 53 (by decide)) al_53 (by omega) (by omega) dX0_heightBy_32 (fun n13 h14 => ?_)
      refine s_val (fun z15 e16 => ?_)
      have g17 := bA_53 hG n13
      rw [e16] at g17
      refine s_iconst C dX0_heightBy_33 (1) (by decide) (fun z18 h19 => ?_)
      refine s_ic_ge C dX0_heightBy_34 (tgt := 39) rfl (fun c20 => ?_) (fun c20 => ?_)
      ·
        refine a_aload_n C dX0_heightBy_39 (i := 1) rfl rfl ?_
        refine a_get C fl_RX0_99 (i := 43) kd_43 (hid 43 (by decide)) (v := .ref (ad 47)) rfl dX0_heightBy_40 ?_
        refine a_aload_n C dX0_heightBy_43 (i := 0) rfl rfl ?_
        refine a_get C fl_RX0_21 (i := 60) kd_60 (hid 60 (by decide)) (v := .int (σ.1 60 9)) rfl dX0_heightBy_44 ?_
        refine s_aaldH C (i := 47) kd_47 (hid 47 (by decide)) al_47 (by omega) (by omega) dX0_heightBy_47 (fun n21 h22 h23 => ?_)
        refine a_aload_n C dX0_heightBy_48 (i := 0) rfl rfl ?_
        refine a_get C fl_RX0_49 (i := 60) kd_60 (hid 60 (by decide)) (v := .int (σ.1 60 4)) rfl dX0_heightBy_49 ?_
        refine a_aload_n C dX0_heightBy_52 (i := 0) rfl rfl ?_
        refine a_get C fl_RX0_67 (i := 60) kd_60 (hid 60 (by decide)) (v := .int (σ.1 60 10)) rfl dX0_heightBy_53 ?_
        refine s_isubU C dX0_heightBy_56 (fun z24 => ?_)
        refine a_aload_n C dX0_heightBy_57 (i := 1) rfl rfl ?_
        refine a_get C fl_RX0_96 (i := 43) kd_43 (hid 43 (by decide)) (v := .ref (ad 53)) rfl dX0_heightBy_58 ?_
        refine a_aload_n C dX0_heightBy_61 (i := 0) rfl rfl ?_
        refine a_get C fl_RX0_21 (i := 60) kd_60 (hid 60 (by decide)) (v := .int (σ.1 60 9)) rfl dX0_heightBy_62 ?_
        refine s_iald C (i := 53) kd_53 (hid 53 (by decide)) al_53 (by omega) (by omega) dX0_heightBy_65 (fun n26 h27 => ?_)
        refine s_val (fun z28 e29 => ?_)
        have g30 : z28.toInt = z15.toInt := congrArg Int32.toInt (e29.symm.trans ((congrArg (σ.1 53) (show n26 = n13 by omega)).trans e16))
        have g31 := bA_53 hG n26
        rw [e29] at g31
        refine a_callSi C (S_J9_floorMod_7cf53 (x1 := z24) (x2 := z28) hid hG (by omega)) ms_J9_floorMod_7cf53 ml_RX0_103 rfl rfl (Nat.le_of_ble_eq_true rfl) (Nat.le_of_ble_eq_true rfl) (Nat.le_of_ble_eq_true rfl) dX0_heightBy_66 (fun z32 σ33 q34 => ?_)
        obtain ⟨w35, w36⟩ := q34
        rw [w35]
        refine s_iald C (i := (47 + 1 + n21)) (kdH_47 n21 h23).1 (hid _ (kdH_47 n21 h23).2.2) (kdH_47 n21 h23).2.1 (by omega) (by omega) dX0_heightBy_69 (fun n37 h38 => ?_)
        refine s_val (fun z39 e40 => ?_)
        have g41 := (bH_47 hG h23) n37
        rw [e40] at g41
        exact a_iret Rt dX0_heightBy_70 rfl (rfl)
      ·
        refine s_iconst C dX0_heightBy_37 (3) (by decide) (fun z42 h43 => ?_)
        exact a_iret Rt dX0_heightBy_38 rfl (rfl)
  ·
    refine a_aload_n C dX0_heightBy_8 (i := 0) rfl rfl ?_
    refine a_get C fl_RX0_25 (i := 60) kd_60 (hid 60 (by decide)) (v := .int (σ.1 60 11)) rfl dX0_heightBy_9 ?_
    exact a_iret Rt dX0_heightBy_12 rfl (rfl)
set_option maxHeartbeats 4000000 in
set_option maxRecDepth 100000 in
theorem S_X0_begin_56_43 {l : Launch} {D : va_G} {ids : List Nat} {ad : Nat → Nat} {ca : Nat → ClassId} {σ : HS} (hid : ∀ i, i < 277 → i ∈ ids) (hG : GIc σ) : Kv l D ids ad ca yX0_begin cX0_begin 2 1 60 [.ref (ad 56), .ref (ad 43)] σ (fun σ1 => (GIc σ1) ∧ (ony [56, 57, 58, 59] σ σ1)) := by
  refine Kv.of (by decide) (Nat.le_of_ble_eq_true rfl) 0 (fun Γ C Rt => ?_)
  show AW ids ad ca Γ 0 [some (.ref (ad 56)), some (.ref (ad 43))] [] σ
  have j77 : ∀ (σq77 : HS) (u77_0 : Int32), GIc σq77 → ony [56, 57, 58, 59] σ σq77 → -1 ≤ u77_0.toInt ∧ u77_0.toInt ≤ 0 → AW ids ad ca Γ 77 [some (.ref (ad 56)), none] [.int u77_0, .ref (ad 56)] σq77 := by
    intro σq77 u77_0 hGq77 hoq77 hx77_0
    refine a_put C fp_RX0_21 (i := 56) kd_56 (hid 56 (by decide)) rfl rfl dX0_begin_77 ?_
    have hG1 := wF_56_9 (v := u77_0) hGq77
    refine a_aload_n C dX0_begin_80 (i := 0) rfl rfl ?_
    refine s_iconst C dX0_begin_81 (0) (by decide) (fun z2 h3 => ?_)
    refine a_put C fp_RX0_67 (i := 56) kd_56 (hid 56 (by decide)) rfl rfl dX0_begin_82 ?_
    have hG4 := wF_56_10 (v := z2) hG1
    refine a_aload_n C dX0_begin_85 (i := 0) rfl rfl ?_
    refine s_iconst C dX0_begin_86 (-1) (by decide) (fun z5 h6 => ?_)
    refine a_put C fp_RX0_25 (i := 56) kd_56 (hid 56 (by decide)) rfl rfl dX0_begin_87 ?_
    have hG7 := wF_56_11 (v := z5) hG4
    exact a_vret Rt dX0_begin_90 (⟨hG7, (ony.I (ony.I (ony.I hoq77 (by decide)) (by decide)) (by decide))⟩)
  refine a_aload_n C dX0_begin_0 (i := 0) rfl rfl ?_
  refine a_aload_n C dX0_begin_1 (i := 1) rfl rfl ?_
  have g8 := bF_43_0 hG
  refine a_get C fl_RX0_28 (i := 43) kd_43 (hid 43 (by decide)) (v := .int (σ.1 43 0)) rfl dX0_begin_2 ?_
  refine a_put C fp_RX0_33 (i := 56) kd_56 (hid 56 (by decide)) rfl rfl dX0_begin_5 ?_
  have hG9 := wF_56_0 (v := (σ.1 43 0)) hG (by omega) (by omega)
  refine a_aload_n C dX0_begin_8 (i := 0) rfl rfl ?_
  refine a_get C fl_RX0_9 (i := 56) kd_56 (hid 56 (by decide)) (v := .ref (ad 57)) rfl dX0_begin_9 ?_
  refine s_iconst C dX0_begin_12 (0) (by decide) (fun z10 h11 => ?_)
  refine a_callSv C (S_J7_fill_53178_57 (x2 := z10) hid hG9) ms_J7_fill_53178 ml_RX0_34 rfl rfl (Nat.le_of_ble_eq_true rfl) (Nat.le_of_ble_eq_true rfl) (Nat.le_of_ble_eq_true rfl) dX0_begin_13 (fun σ13 q14 => ?_)
  obtain ⟨hG15, ho16⟩ := q14
  refine a_aload_n C dX0_begin_16 (i := 0) rfl rfl ?_
  refine a_get C fl_RX0_18 (i := 56) kd_56 (hid 56 (by decide)) (v := .ref (ad 59)) rfl dX0_begin_17 ?_
  refine s_iconst C dX0_begin_20 (0) (by decide) (fun z18 h19 => ?_)
  refine a_callSv C (S_J7_fill_53178_59 (x2 := z18) hid hG15) ms_J7_fill_53178 ml_RX0_34 rfl rfl (Nat.le_of_ble_eq_true rfl) (Nat.le_of_ble_eq_true rfl) (Nat.le_of_ble_eq_true rfl) dX0_begin_21 (fun σ21 q22 => ?_)
  obtain ⟨hG23, ho24⟩ := q22
  refine a_aload_n C dX0_begin_24 (i := 1) rfl rfl ?_
  refine a_get C fl_RX0_40 (i := 43) kd_43 (hid 43 (by decide)) (v := .ref (ad 46)) rfl dX0_begin_25 ?_
  refine s_iconst C dX0_begin_28 (0) (by decide) (fun z26 h27 => ?_)
  refine a_aload_n C dX0_begin_29 (i := 0) rfl rfl ?_
  refine a_get C fl_RX0_15 (i := 56) kd_56 (hid 56 (by decide)) (v := .ref (ad 58)) rfl dX0_begin_30 ?_
  refine s_iconst C dX0_begin_33 (0) (by decide) (fun z28 h29 => ?_)
  refine s_bipush C dX0_begin_34 (7) (by decide) (fun z30 h31 => ?_)
  refine s_copyi C (i0 := 46) (i1 := 58) 7 ml_RX0_43 ac_w.1 ac_w.2.1 ac_w.2.2 kd_46 (hid 46 (by decide)) kd_58 (hid 58 (by decide)) (by omega) (by omega) (by omega) (by rw [al_46]; decide) (by rw [al_58]; decide) (Nat.le_of_ble_eq_true rfl) (Nat.le_of_ble_eq_true rfl) dX0_begin_36 ?_
  have hG32 := wC_58 (i := 46) (n := 7) hG23
  refine a_aload_n C dX0_begin_39 (i := 0) rfl rfl ?_
  refine s_iconst C dX0_begin_40 (0) (by decide) (fun z33 h34 => ?_)
  refine a_put C fp_RX0_49 (i := 56) kd_56 (hid 56 (by decide)) rfl rfl dX0_begin_41 ?_
  have hG35 := wF_56_4 (v := z33) hG32
  refine a_aload_n C dX0_begin_44 (i := 0) rfl rfl ?_
  refine s_iconst C dX0_begin_45 (0) (by decide) (fun z36 h37 => ?_)
  refine a_put C fp_RX0_52 (i := 56) kd_56 (hid 56 (by decide)) rfl rfl dX0_begin_46 ?_
  have hG38 := wF_56_5 (v := z36) hG35
  refine a_aload_n C dX0_begin_49 (i := 0) rfl rfl ?_
  refine s_iconst C dX0_begin_50 (0) (by decide) (fun z39 h40 => ?_)
  refine a_put C fp_RX0_55 (i := 56) kd_56 (hid 56 (by decide)) rfl rfl dX0_begin_51 ?_
  have hG41 := wF_56_6 (v := z39) hG38
  refine a_aload_n C dX0_begin_54 (i := 0) rfl rfl ?_
  refine s_iconst C dX0_begin_55 (0) (by decide) (fun z42 h43 => ?_)
  refine a_put C fp_RX0_58 (i := 56) kd_56 (hid 56 (by decide)) rfl rfl dX0_begin_56 ?_
  have hG44 := wF_56_7 (v := z42) hG41
  refine a_aload_n C dX0_begin_59 (i := 0) rfl rfl ?_
  refine s_iconst C dX0_begin_60 (0) (by decide) (fun z45 h46 => ?_)
  refine a_put C fp_RX0_61 (i := 56) kd_56 (hid 56 (by decide)) rfl rfl dX0_begin_61 ?_
  have hG47 := wF_56_8 (v := z45) hG44
  refine a_aload_n C dX0_begin_64 (i := 0) rfl rfl ?_
  refine a_aload_n C dX0_begin_65 (i := 1) rfl rfl ?_
  have g48 := bF_43_4 hG23
  have g49 := bF_43_4 hG15
  have g50 := bF_43_4 hG
  have g51 : (σ13.1 43 4).toInt = (σ.1 43 4).toInt := congrArg Int32.toInt (congrFun (ho16.1 43 (by decide)).1 4)
  have g52 : (σ21.1 43 4).toInt = (σ13.1 43 4).toInt := congrArg Int32.toInt (congrFun (ho24.1 43 (by decide)).1 4)
  refine a_get C fl_RX0_64 (i := 43) kd_43 (hid 43 (by decide)) (v := .int (σ21.1 43 4)) rfl dX0_begin_66 ?_
  refine s_if_le C dX0_begin_69 (tgt := 76) rfl (fun c53 => ?_) (fun c53 => ?_)
  ·
    refine s_iconst C dX0_begin_76 (-1) (by decide) (fun z54 h55 => ?_)
    refine AW.sub (vs' := [some (.ref (ad 56)), none]) (lsub_of (by simp [lsubB])) ?_
    exact j77 _ z54 hG47 (ony.I (ony.I (ony.I (ony.I (ony.I (ony.C (ony.tr (ony.tr (ony.I ony.rf (by decide)) (ony.mono ho16 (by decide))) (ony.mono ho24 (by decide))) (by decide)) (by decide)) (by decide)) (by decide)) (by decide)) (by decide)) (by omega)
  ·
    refine s_iconst C dX0_begin_72 (0) (by decide) (fun z56 h57 => ?_)
    refine a_goto C dX0_begin_73 (tgt := 77) rfl ?_
    refine AW.sub (vs' := [some (.ref (ad 56)), none]) (lsub_of (by simp [lsubB])) ?_
    exact j77 _ z56 hG47 (ony.I (ony.I (ony.I (ony.I (ony.I (ony.C (ony.tr (ony.tr (ony.I ony.rf (by decide)) (ony.mono ho16 (by decide))) (ony.mono ho24 (by decide))) (by decide)) (by decide)) (by decide)) (by decide)) (by decide)) (by decide)) (by omega)
set_option maxHeartbeats 4000000 in
set_option maxRecDepth 100000 in
theorem S_X11_isHeight {l : Launch} {D : va_G} {ids : List Nat} {ad : Nat → Nat} {ca : Nat → ClassId} {σ : HS} {x1 : Int32} (hid : ∀ i, i < 277 → i ∈ ids) (hG : GIc σ) : Ki l D ids ad ca yX11_isHeight cX11_isHeight 1 .boolean 0 0 [.int x1] σ (fun r σ1 => (σ1 = σ) ∧ (0 ≤ r.toInt ∧ r.toInt ≤ 1) ∧ (r.toInt = 1 → 0 ≤ x1.toInt ∧ x1.toInt ≤ 9)) := by
  refine Ki.of (by decide) (Nat.le_of_ble_eq_true rfl) 0 (fun Γ C Rt => ?_)
  show AW ids ad ca Γ 0 [some (.int x1)] [] σ
  refine a_iload_n C dX11_isHeight_0 (i := 0) rfl rfl ?_
  refine s_if_lt C dX11_isHeight_1 (tgt := 14) rfl (fun c1 => ?_) (fun c1 => ?_)
  ·
    refine s_iconst C dX11_isHeight_14 (0) (by decide) (fun z2 h3 => ?_)
    exact a_iret Rt dX11_isHeight_15 (nar_z (by omega)).1 (⟨rfl, (show 0 ≤ z2.toInt ∧ z2.toInt ≤ 1 by intros; omega), (show z2.toInt = 1 → 0 ≤ x1.toInt ∧ x1.toInt ≤ 9 by intros; omega)⟩)
  ·
    refine a_iload_n C dX11_isHeight_4 (i := 0) rfl rfl ?_
    refine s_bipush C dX11_isHeight_5 (9) (by decide) (fun z4 h5 => ?_)
    refine s_ic_gt C dX11_isHeight_7 (tgt := 14) rfl (fun c6 => ?_) (fun c6 => ?_)
    ·
      refine s_iconst C dX11_isHeight_14 (0) (by decide) (fun z7 h8 => ?_)
      exact a_iret Rt dX11_isHeight_15 (nar_z (by omega)).1 (⟨rfl, (show 0 ≤ z7.toInt ∧ z7.toInt ≤ 1 by intros; omega), (show z7.toInt = 1 → 0 ≤ x1.toInt ∧ x1.toInt ≤ 9 by intros; omega)⟩)
    ·
      refine s_iconst C dX11_isHeight_10 (1) (by decide) (fun z9 h10 => ?_)
      refine a_goto C dX11_isHeight_11 (tgt := 15) rfl ?_
      exact a_iret Rt dX11_isHeight_15 (nar_z (by omega)).1 (⟨rfl, (show 0 ≤ z9.toInt ∧ z9.toInt ≤ 1 by intros; omega), (show z9.toInt = 1 → 0 ≤ x1.toInt ∧ x1.toInt ≤ 9 by intros; omega)⟩)
set_option maxHeartbeats 4000000 in
set_option maxRecDepth 100000 in
theorem S_X11_isSpan {l : Launch} {D : va_G} {ids : List Nat} {ad : Nat → Nat} {ca : Nat → ClassId} {σ : HS} {x1 : Int32} (hid : ∀ i, i < 277 → i ∈ ids) (hG : GIc σ) : Ki l D ids ad ca yX11_isSpan cX11_isSpan 1 .boolean 0 0 [.int x1] σ (fun r σ1 => (σ1 = σ) ∧ (0 ≤ r.toInt ∧ r.toInt ≤ 1) ∧ (r.toInt = 1 → 1 ≤ x1.toInt ∧ x1.toInt ≤ 60)) := by
  refine Ki.of (by decide) (Nat.le_of_ble_eq_true rfl) 0 (fun Γ C Rt => ?_)
  show AW ids ad ca Γ 0 [some (.int x1)] [] σ
  refine a_iload_n C dX11_isSpan_0 (i := 0) rfl rfl ?_
  refine s_iconst C dX11_isSpan_1 (1) (by decide) (fun z1 h2 => ?_)
  refine s_ic_lt C dX11_isSpan_2 (tgt := 15) rfl (fun c3 => ?_) (fun c3 => ?_)
  ·
    refine s_iconst C dX11_isSpan_15 (0) (by decide) (fun z4 h5 => ?_)
    exact a_iret Rt dX11_isSpan_16 (nar_z (by omega)).1 (⟨rfl, (show 0 ≤ z4.toInt ∧ z4.toInt ≤ 1 by intros; omega), (show z4.toInt = 1 → 1 ≤ x1.toInt ∧ x1.toInt ≤ 60 by intros; omega)⟩)
  ·
    refine a_iload_n C dX11_isSpan_5 (i := 0) rfl rfl ?_
    refine s_bipush C dX11_isSpan_6 (60) (by decide) (fun z6 h7 => ?_)
    refine s_ic_gt C dX11_isSpan_8 (tgt := 15) rfl (fun c8 => ?_) (fun c8 => ?_)
    ·
      refine s_iconst C dX11_isSpan_15 (0) (by decide) (fun z9 h10 => ?_)
      exact a_iret Rt dX11_isSpan_16 (nar_z (by omega)).1 (⟨rfl, (show 0 ≤ z9.toInt ∧ z9.toInt ≤ 1 by intros; omega), (show z9.toInt = 1 → 1 ≤ x1.toInt ∧ x1.toInt ≤ 60 by intros; omega)⟩)
    ·
      refine s_iconst C dX11_isSpan_11 (1) (by decide) (fun z11 h12 => ?_)
      refine a_goto C dX11_isSpan_12 (tgt := 16) rfl ?_
      exact a_iret Rt dX11_isSpan_16 (nar_z (by omega)).1 (⟨rfl, (show 0 ≤ z11.toInt ∧ z11.toInt ≤ 1 by intros; omega), (show z11.toInt = 1 → 1 ≤ x1.toInt ∧ x1.toInt ≤ 60 by intros; omega)⟩)
theorem dX1_push_0 : decode cX1_push 0 = .ok (.aload_n 0, 1) := by decide +kernel
theorem dX1_push_1 : decode cX1_push 1 = .ok (.getfield 18, 3) := by decide +kernel
theorem dX1_push_4 : decode cX1_push 4 = .ok (.bipush 32, 2) := by decide +kernel
theorem dX1_push_6 : decode cX1_push 6 = .ok (.if_icmp .lt 11, 3) := by decide +kernel
theorem dX1_push_9 : decode cX1_push 9 = .ok (.aload_n 0, 1) := by decide +kernel
theorem dX1_push_10 : decode cX1_push 10 = .ok (.iconst 1, 1) := by decide +kernel
theorem dX1_push_11 : decode cX1_push 11 = .ok (.putfield 22, 3) := by decide +kernel
theorem dX1_push_14 : decode cX1_push 14 = .ok (.goto 23, 3) := by decide +kernel
theorem dX1_push_17 : decode cX1_push 17 = .ok (.aload_n 0, 1) := by decide +kernel
theorem dX1_push_18 : decode cX1_push 18 = .ok (.getfield 15, 3) := by decide +kernel
theorem dX1_push_21 : decode cX1_push 21 = .ok (.aload_n 0, 1) := by decide +kernel
theorem dX1_push_22 : decode cX1_push 22 = .ok (.getfield 18, 3) := by decide +kernel
theorem dX1_push_25 : decode cX1_push 25 = .ok (.iload_n 1, 1) := by decide +kernel
theorem dX1_push_26 : decode cX1_push 26 = .ok (.iastore, 1) := by decide +kernel
theorem dX1_push_27 : decode cX1_push 27 = .ok (.aload_n 0, 1) := by decide +kernel
theorem dX1_push_28 : decode cX1_push 28 = .ok (.dup, 1) := by decide +kernel
theorem dX1_push_29 : decode cX1_push 29 = .ok (.getfield 18, 3) := by decide +kernel
theorem dX1_push_32 : decode cX1_push 32 = .ok (.iconst 1, 1) := by decide +kernel
theorem dX1_push_33 : decode cX1_push 33 = .ok (.iadd, 1) := by decide +kernel
theorem dX1_push_34 : decode cX1_push 34 = .ok (.putfield 18, 3) := by decide +kernel
theorem dX1_push_37 : decode cX1_push 37 = .ok (.return_, 1) := by decide +kernel
set_option maxHeartbeats 4000000 in
set_option maxRecDepth 100000 in
theorem S_X1_push_9 {l : Launch} {D : va_G} {ids : List Nat} {ad : Nat → Nat} {ca : Nat → ClassId} {σ : HS} {x1 : Int32} (hid : ∀ i, i < 277 → i ∈ ids) (hG : GIc σ) : Kv l D ids ad ca yX1_push cX1_push 2 0 0 [.ref (ad 9), .int x1] σ (fun σ1 => (GIc σ1) ∧ (ony [9, 11] σ σ1)) := by
  refine Kv.of (by decide) (Nat.le_of_ble_eq_true rfl) 0 (fun Γ C Rt => ?_)
  show AW ids ad ca Γ 0 [some (.ref (ad 9)), some (.int x1)] [] σ
  refine a_aload_n C dX1_push_0 (i := 0) rfl rfl ?_
  have g1 := bF_9_2 hG
  refine a_get C fl_RX1_18 (i := 9) kd_9 (hid 9 (by decide)) (v := .int (σ.1 9 2)) rfl dX1_push_1 ?_
  refine s_bipush C dX1_push_4 (32) (by decide) (fun z2 h3 => ?_)
  refine s_ic_lt C dX1_push_6 (tgt := 17) rfl (fun c4 => ?_) (fun c4 => ?_)
  ·
    refine a_aload_n C dX1_push_17 (i := 0) rfl rfl ?_
    refine a_get C fl_RX1_15 (i := 9) kd_9 (hid 9 (by decide)) (v := .ref (ad 11)) rfl dX1_push_18 ?_
    refine a_aload_n C dX1_push_21 (i := 0) rfl rfl ?_
    have g5 := bF_9_2 hG
    refine a_get C fl_RX1_18 (i := 9) kd_9 (hid 9 (by decide)) (v := .int (σ.1 9 2)) rfl dX1_push_22 ?_
    refine a_iload_n C dX1_push_25 (i := 1) rfl rfl ?_
    refine s_iast C (i := 11) kd_11 (hid 11 (by decide)) al_11 (by omega) (by omega) dX1_push_26 (fun n6 h7 => ?_)
    have hG8 := wA_11 (v := x1) (j := n6) hG
    refine a_aload_n C dX1_push_27 (i := 0) rfl rfl ?_
    refine a_dup C dX1_push_28 rfl ?_
    have g9 := bF_9_2 hG
    refine a_get C fl_RX1_18 (i := 9) kd_9 (hid 9 (by decide)) (v := .int (σ.1 9 2)) rfl dX1_push_29 ?_
    refine s_iconst C dX1_push_32 (1) (by decide) (fun z10 h11 => ?_)
    refine s_iadd C dX1_push_33 (by omega) (fun z12 h13 => ?_)
    refine a_put C fp_RX1_18 (i := 9) kd_9 (hid 9 (by decide)) rfl rfl dX1_push_34 ?_
    have hG14 := wF_9_2 (v := z12) hG8 (by omega) (by omega)
    exact a_vret Rt dX1_push_37 (⟨hG14, (ony.I (ony.I ony.rf (by decide)) (by decide))⟩)
  ·
    refine a_aload_n C dX1_push_9 (i := 0) rfl rfl ?_
    refine s_iconst C dX1_push_10 (1) (by decide) (fun z15 h16 => ?_)
    refine a_put C fp_RX1_22 (i := 9) kd_9 (hid 9 (by decide)) (nar_z (by omega)).1 (nar_z (by omega)).2 dX1_push_11 ?_
    have hG17 := wF_9_3 (v := z15) hG
    refine a_goto C dX1_push_14 (tgt := 37) rfl ?_
    exact a_vret Rt dX1_push_37 (⟨hG17, (ony.I ony.rf (by decide))⟩)
theorem dX1_pop_0 : decode cX1_pop 0 = .ok (.aload_n 0, 1) := by decide +kernel
theorem dX1_pop_1 : decode cX1_pop 1 = .ok (.getfield 18, 3) := by decide +kernel
theorem dX1_pop_4 : decode cX1_pop 4 = .ok (.iconst 1, 1) := by decide +kernel
theorem dX1_pop_5 : decode cX1_pop 5 = .ok (.if_icmp .ge 10, 3) := by decide +kernel
theorem dX1_pop_8 : decode cX1_pop 8 = .ok (.aload_n 0, 1) := by decide +kernel
theorem dX1_pop_9 : decode cX1_pop 9 = .ok (.iconst 1, 1) := by decide +kernel
theorem dX1_pop_10 : decode cX1_pop 10 = .ok (.putfield 22, 3) := by decide +kernel
theorem dX1_pop_13 : decode cX1_pop 13 = .ok (.iconst 0, 1) := by decide +kernel
theorem dX1_pop_14 : decode cX1_pop 14 = .ok (.ireturn, 1) := by decide +kernel
theorem dX1_pop_15 : decode cX1_pop 15 = .ok (.aload_n 0, 1) := by decide +kernel
theorem dX1_pop_16 : decode cX1_pop 16 = .ok (.dup, 1) := by decide +kernel
theorem dX1_pop_17 : decode cX1_pop 17 = .ok (.getfield 18, 3) := by decide +kernel
theorem dX1_pop_20 : decode cX1_pop 20 = .ok (.iconst 1, 1) := by decide +kernel
theorem dX1_pop_21 : decode cX1_pop 21 = .ok (.isub, 1) := by decide +kernel
theorem dX1_pop_22 : decode cX1_pop 22 = .ok (.putfield 18, 3) := by decide +kernel
theorem dX1_pop_25 : decode cX1_pop 25 = .ok (.aload_n 0, 1) := by decide +kernel
theorem dX1_pop_26 : decode cX1_pop 26 = .ok (.getfield 15, 3) := by decide +kernel
theorem dX1_pop_29 : decode cX1_pop 29 = .ok (.aload_n 0, 1) := by decide +kernel
theorem dX1_pop_30 : decode cX1_pop 30 = .ok (.getfield 18, 3) := by decide +kernel
theorem dX1_pop_33 : decode cX1_pop 33 = .ok (.iaload, 1) := by decide +kernel
theorem dX1_pop_34 : decode cX1_pop 34 = .ok (.ireturn, 1) := by decide +kernel
set_option maxHeartbeats 4000000 in
set_option maxRecDepth 100000 in
theorem S_X1_pop_9 {l : Launch} {D : va_G} {ids : List Nat} {ad : Nat → Nat} {ca : Nat → ClassId} {σ : HS} (hid : ∀ i, i < 277 → i ∈ ids) (hG : GIc σ) : Ki l D ids ad ca yX1_pop cX1_pop 1 .int 0 0 [.ref (ad 9)] σ (fun r σ1 => (GIc σ1) ∧ (ony [9] σ σ1)) := by
  refine Ki.of (by decide) (Nat.le_of_ble_eq_true rfl) 0 (fun Γ C Rt => ?_)
  show AW ids ad ca Γ 0 [some (.ref (ad 9))] [] σ
  refine a_aload_n C dX1_pop_0 (i := 0) rfl rfl ?_
  have g1 := bF_9_2 hG
  refine a_get C fl_RX1_18 (i := 9) kd_9 (hid 9 (by decide)) (v := .int (σ.1 9 2)) rfl dX1_pop_1 ?_
  refine s_iconst C dX1_pop_4 (1) (by decide) (fun z2 h3 => ?_)
  refine s_ic_ge C dX1_pop_5 (tgt := 15) rfl (fun c4 => ?_) (fun c4 => ?_)
  ·
    refine a_aload_n C dX1_pop_15 (i := 0) rfl rfl ?_
    refine a_dup C dX1_pop_16 rfl ?_
    have g5 := bF_9_2 hG
    refine a_get C fl_RX1_18 (i := 9) kd_9 (hid 9 (by decide)) (v := .int (σ.1 9 2)) rfl dX1_pop_17 ?_
    refine s_iconst C dX1_pop_20 (1) (by decide) (fun z6 h7 => ?_)
    refine s_isub C dX1_pop_21 (by omega) (fun z8 h9 => ?_)
    refine a_put C fp_RX1_18 (i := 9) kd_9 (hid 9 (by decide)) rfl rfl dX1_pop_22 ?_
    have hG10 := wF_9_2 (v := z8) hG (by omega) (by omega)
    refine a_aload_n C dX1_pop_25 (i := 0) rfl rfl ?_
    refine a_get C fl_RX1_15 (i := 9) kd_9 (hid 9 (by decide)) (v := .ref (ad 11)) rfl dX1_pop_26 ?_
    refine a_aload_n C dX1_pop_29 (i := 0) rfl rfl ?_
    refine a_get C fl_RX1_18 (i := 9) kd_9 (hid 9 (by decide)) (v := .int z8) rfl dX1_pop_30 ?_
    refine s_iald C (i := 11) kd_11 (hid 11 (by decide)) al_11 (by omega) (by omega) dX1_pop_33 (fun n11 h12 => ?_)
    refine s_val (fun z13 e14 => ?_)
    exact a_iret Rt dX1_pop_34 rfl (⟨hG10, (ony.I ony.rf (by decide))⟩)
  ·
    refine a_aload_n C dX1_pop_8 (i := 0) rfl rfl ?_
    refine s_iconst C dX1_pop_9 (1) (by decide) (fun z15 h16 => ?_)
    refine a_put C fp_RX1_22 (i := 9) kd_9 (hid 9 (by decide)) (nar_z (by omega)).1 (nar_z (by omega)).2 dX1_pop_10 ?_
    have hG17 := wF_9_3 (v := z15) hG
    refine s_iconst C dX1_pop_13 (0) (by decide) (fun z18 h19 => ?_)
    exact a_iret Rt dX1_pop_14 rfl (⟨hG17, (ony.I ony.rf (by decide))⟩)
