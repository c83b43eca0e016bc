set_option maxHeartbeats 4000000 in
set_option maxRecDepth 100000 in
theorem S_X4_goOnSafely_8_43_60 {l : Launch} {D : va_G} {ids : List Nat} {ad : Nat → Nat} {ca : Nat → ClassId} {σ : HS} (hid : ∀ i, i < 277 → i ∈ ids) (hG : GIc σ) : Kv l D ids ad ca yX4_goOnSafely cX4_goOnSafely 3 5 124 [.ref (ad 8), .ref (ad 43), .ref (ad 60)] σ (fun σ1 => (GIc σ1) ∧ (ony [9, 10, 11, 60, 61, 62, 63] σ σ1)) := by
  refine Kv.of (by decide) (Nat.le_of_ble_eq_true rfl) 0 (fun Γ C Rt => ?_)
  show AW ids ad ca Γ 0 [some (.ref (ad 8)), some (.ref (ad 43)), some (.ref (ad 60))] [] σ
  refine a_aload_n C dX4_goOnSafely_0 (i := 0) rfl rfl ?_
  refine a_aload_n C dX4_goOnSafely_1 (i := 1) rfl rfl ?_
  refine a_aload_n C dX4_goOnSafely_2 (i := 2) rfl rfl ?_
  refine s_iconst C dX4_goOnSafely_3 (-1) (by decide) (fun z1 h2 => ?_)
  refine a_callVv C (i := 8) kd_8 (hid 8 (by decide)) ⟨_, _, rfl⟩ (by decide) (S_X4_oneBeat_8_43_60 (x3 := z1) hid hG) mi_X4_oneBeat ml_RX4_18 rfl rfl (Nat.le_of_ble_eq_true rfl) (Nat.le_of_ble_eq_true rfl) (Nat.le_of_ble_eq_true rfl) dX4_goOnSafely_4 (fun σ4 q5 => ?_)
  obtain ⟨hG6, ho7⟩ := q5
  exact a_vret Rt dX4_goOnSafely_7 (⟨hG6, (ony.tr ony.rf (ony.mono ho7 (by decide)))⟩)
set_option maxHeartbeats 4000000 in
set_option maxRecDepth 100000 in
theorem S_X4_inForce_8_43_60 {l : Launch} {D : va_G} {ids : List Nat} {ad : Nat → Nat} {ca : Nat → ClassId} {σ : HS} (hid : ∀ i, i < 277 → i ∈ ids) (hG : GIc σ) : Ki l D ids ad ca yX4_inForce cX4_inForce 4 .int 3 74 [.ref (ad 8), .ref (ad 43), .ref (ad 60)] σ (fun r σ1 => (GIc σ1) ∧ (ony [9, 10, 11] σ σ1)) := by
  refine Ki.of (by decide) (Nat.le_of_ble_eq_true rfl) 1 (fun Γ C Rt => ?_)
  show AW ids ad ca Γ 0 [some (.ref (ad 8)), some (.ref (ad 43)), some (.ref (ad 60)), none] [] σ
  refine a_aload_n C dX4_inForce_0 (i := 2) rfl rfl ?_
  refine a_callVi C (i := 60) kd_60 (hid 60 (by decide)) ⟨_, _, rfl⟩ (by decide) (S_X0_firstLanding_60 hid hG) mi_X0_firstLanding ml_RX4_22 rfl rfl (Nat.le_of_ble_eq_true rfl) (Nat.le_of_ble_eq_true rfl) (Nat.le_of_ble_eq_true rfl) dX4_inForce_1 (fun z1 σ2 q3 => ?_)
  obtain ⟨w4, w5⟩ := q3
  rw [w4]
  refine a_istore_n C dX4_inForce_4 (i := 3) rfl (by decide) rfl (vs1 := [some (.ref (ad 8)), some (.ref (ad 43)), some (.ref (ad 60)), some (.int z1)]) rfl ?_
  refine a_iload_n C dX4_inForce_5 (i := 3) rfl rfl ?_
  refine s_iconst C dX4_inForce_6 (-1) (by decide) (fun z6 h7 => ?_)
  refine s_ic_ne C dX4_inForce_7 (tgt := 12) rfl (fun c8 => ?_) (fun c8 => ?_)
  ·
    refine a_aload_n C dX4_inForce_12 (i := 0) rfl rfl ?_
    refine a_aload_n C dX4_inForce_13 (i := 1) rfl rfl ?_
    refine a_aload_n C dX4_inForce_14 (i := 2) rfl rfl ?_
    refine a_iload_n C dX4_inForce_15 (i := 3) rfl rfl ?_
    refine a_aload_n C dX4_inForce_16 (i := 2) rfl rfl ?_
    refine a_callVi C (i := 60) kd_60 (hid 60 (by decide)) ⟨_, _, rfl⟩ (by decide) (S_X0_howManyUp_60 hid hG) mi_X0_howManyUp ml_RX4_28 rfl rfl (Nat.le_of_ble_eq_true rfl) (Nat.le_of_ble_eq_true rfl) (Nat.le_of_ble_eq_true rfl) dX4_inForce_17 (fun z9 σ10 q11 => ?_)
    rw [q11]
    refine a_aload_n C dX4_inForce_20 (i := 2) rfl rfl ?_
    refine a_callVi C (i := 60) kd_60 (hid 60 (by decide)) ⟨_, _, rfl⟩ (by decide) (S_X0_howManyLand_60 hid hG) mi_X0_howManyLand ml_RX4_31 rfl rfl (Nat.le_of_ble_eq_true rfl) (Nat.le_of_ble_eq_true rfl) (Nat.le_of_ble_eq_true rfl) dX4_inForce_21 (fun z12 σ13 q14 => ?_)
    rw [q14]
    refine s_iconst C dX4_inForce_24 (1) (by decide) (fun z15 h16 => ?_)
    refine s_isubU C dX4_inForce_25 (fun z17 => ?_)
    refine s_isubU C dX4_inForce_26 (fun z19 => ?_)
    refine a_callVv C (i := 8) kd_8 (hid 8 (by decide)) ⟨_, _, rfl⟩ (by decide) (S_X4_lookAt_8_43_60 (x3 := z1) (x4 := z19) hid hG (by omega)) mi_X4_lookAt ml_RX4_34 rfl rfl (Nat.le_of_ble_eq_true rfl) (Nat.le_of_ble_eq_true rfl) (Nat.le_of_ble_eq_true rfl) dX4_inForce_27 (fun σ22 q23 => ?_)
    obtain ⟨hG24, ho25⟩ := q23
    refine a_aload_n C dX4_inForce_30 (i := 0) rfl rfl ?_
    refine a_aload_n C dX4_inForce_31 (i := 1) rfl rfl ?_
    refine s_iconst C dX4_inForce_32 (2) (by decide) (fun z27 h28 => ?_)
    refine s_iconst C dX4_inForce_33 (0) (by decide) (fun z29 h30 => ?_)
    refine a_callVi C (i := 8) kd_8 (hid 8 (by decide)) ⟨_, _, rfl⟩ (by decide) (S_X4_asks_8_43 (x2 := z27) (x3 := z29) hid hG24 (by omega)) mi_X4_asks ml_RX4_38 rfl rfl (Nat.le_of_ble_eq_true rfl) (Nat.le_of_ble_eq_true rfl) (Nat.le_of_ble_eq_true rfl) dX4_inForce_34 (fun z31 σ32 q33 => ?_)
    obtain ⟨hG34, ho35⟩ := q33
    exact a_iret Rt dX4_inForce_37 rfl (⟨hG34, (ony.tr (ony.tr ony.rf (ony.mono ho25 (by decide))) (ony.mono ho35 (by decide)))⟩)
  ·
    refine s_iconst C dX4_inForce_10 (0) (by decide) (fun z37 h38 => ?_)
    exact a_iret Rt dX4_inForce_11 rfl (⟨hG, ony.rf⟩)
set_option maxHeartbeats 4000000 in
set_option maxRecDepth 100000 in
theorem S_X11_hold_0_t30_v0 {l : Launch} {D : va_G} {ids : List Nat} {ad : Nat → Nat} {ca : Nat → ClassId} {σ : HS} {x1 : Int32} (hid : ∀ i, i < 277 → i ∈ ids) (hG : GIc σ) (htx0 : σ.2.2 0 = 30) (htx1 : σ.2.2 1 = 43) (hx1 : 0 ≤ x1.toInt ∧ x1.toInt ≤ 0) : Ki l D ids ad ca yX11_hold cX11_hold 2 .boolean 2 81 [.ref (ad 0), .int x1] σ (fun r σ1 => (GIc σ1) ∧ (ony [26, 64, 65, 66, 67] σ σ1) ∧ (0 ≤ r.toInt ∧ r.toInt ≤ 1)) := by
  refine Ki.of (by decide) (Nat.le_of_ble_eq_true rfl) 0 (fun Γ C Rt => ?_)
  show AW ids ad ca Γ 0 [some (.ref (ad 0)), some (.int x1)] [] σ
  refine a_iload_n C dX11_hold_0 (i := 1) rfl rfl ?_
  refine s_if_lt C dX11_hold_1 (tgt := 9) rfl (fun c1 => absurd c1 (by omega)) (fun c1 => ?_)
  refine a_iload_n C dX11_hold_4 (i := 1) rfl rfl ?_
  refine s_iconst C dX11_hold_5 (3) (by decide) (fun z2 h3 => ?_)
  refine s_ic_lt C dX11_hold_6 (tgt := 11) rfl (fun c4 => ?_) (fun c4 => absurd c4 (by omega))
  refine a_aload_n C dX11_hold_11 (i := 0) rfl rfl ?_
  refine a_get C fl_RX11_61 (i := 0) kd_0 (hid 0 (by decide)) (v := .ref (ad 25)) rfl dX11_hold_12 ?_
  refine a_iload_n C dX11_hold_15 (i := 1) rfl rfl ?_
  refine s_aaldc C (i := 25) (y := 64) 0 (by omega) (Or.inr kd_25) (hid 25 (by decide)) (by rw [al_25]; decide) (by rw [kd_25]; rfl) dX11_hold_16 ?_
  refine a_aload_n C dX11_hold_17 (i := 0) rfl rfl ?_
  refine a_get C fl_RX11_54 (i := 0) kd_0 (hid 0 (by decide)) (v := .ref (ad 56)) rfl dX11_hold_18 ?_
  refine a_callVv C (i := 64) (n0 := 0) kd_64 (hid 64 (by decide)) ⟨_, _, rfl⟩ (by decide) (S_copy 0 2 rfl rfl (by decide) (by decide) hid hG) mi_X0_copy ml_RX11_230 rfl rfl (Nat.le_of_ble_eq_true rfl) (Nat.le_of_ble_eq_true rfl) (Nat.le_of_ble_eq_true rfl) dX11_hold_21 (fun σ5 q6 => ?_)
  obtain ⟨hG7, ho8⟩ := q6
  refine a_aload_n C dX11_hold_24 (i := 0) rfl rfl ?_
  refine a_get C fl_RX11_65 (i := 0) kd_0 (hid 0 (by decide)) (v := .ref (ad 26)) rfl dX11_hold_25 ?_
  refine a_iload_n C dX11_hold_28 (i := 1) rfl rfl ?_
  refine s_iconst C dX11_hold_29 (1) (by decide) (fun z9 h10 => ?_)
  refine s_zast C (i := 26) (nar_v (by omega)) kd_26 (hid 26 (by decide)) al_26 (by omega) (by omega) dX11_hold_30 (fun n11 h12 => ?_)
  have hG13 := wA_26 (v := z9) (j := n11) hG7
  refine s_iconst C dX11_hold_31 (1) (by decide) (fun z14 h15 => ?_)
  exact a_iret Rt dX11_hold_32 (nar_z (by omega)).1 (⟨hG13, (ony.I (ony.tr ony.rf (ony.mono ho8 (by decide))) (by decide)), (show 0 ≤ z14.toInt ∧ z14.toInt ≤ 1 by intros; omega)⟩)
set_option maxHeartbeats 4000000 in
set_option maxRecDepth 100000 in
theorem S_X11_hold_0_t30_v1 {l : Launch} {D : va_G} {ids : List Nat} {ad : Nat → Nat} {ca : Nat → ClassId} {σ : HS} {x1 : Int32} (hid : ∀ i, i < 277 → i ∈ ids) (hG : GIc σ) (htx0 : σ.2.2 0 = 30) (htx1 : σ.2.2 1 = 43) (hx1 : 1 ≤ x1.toInt ∧ x1.toInt ≤ 1) : Ki l D ids ad ca yX11_hold cX11_hold 2 .boolean 2 81 [.ref (ad 0), .int x1] σ (fun r σ1 => (GIc σ1) ∧ (ony [26, 68, 69, 70, 71] σ σ1) ∧ (0 ≤ r.toInt ∧ r.toInt ≤ 1)) := by
  refine Ki.of (by decide) (Nat.le_of_ble_eq_true rfl) 0 (fun Γ C Rt => ?_)
  show AW ids ad ca Γ 0 [some (.ref (ad 0)), some (.int x1)] [] σ
  refine a_iload_n C dX11_hold_0 (i := 1) rfl rfl ?_
  refine s_if_lt C dX11_hold_1 (tgt := 9) rfl (fun c1 => absurd c1 (by omega)) (fun c1 => ?_)
  refine a_iload_n C dX11_hold_4 (i := 1) rfl rfl ?_
  refine s_iconst C dX11_hold_5 (3) (by decide) (fun z2 h3 => ?_)
  refine s_ic_lt C dX11_hold_6 (tgt := 11) rfl (fun c4 => ?_) (fun c4 => absurd c4 (by omega))
  refine a_aload_n C dX11_hold_11 (i := 0) rfl rfl ?_
  refine a_get C fl_RX11_61 (i := 0) kd_0 (hid 0 (by decide)) (v := .ref (ad 25)) rfl dX11_hold_12 ?_
  refine a_iload_n C dX11_hold_15 (i := 1) rfl rfl ?_
  refine s_aaldc C (i := 25) (y := 68) 1 (by omega) (Or.inr kd_25) (hid 25 (by decide)) (by rw [al_25]; decide) (by rw [kd_25]; rfl) dX11_hold_16 ?_
  refine a_aload_n C dX11_hold_17 (i := 0) rfl rfl ?_
  refine a_get C fl_RX11_54 (i := 0) kd_0 (hid 0 (by decide)) (v := .ref (ad 56)) rfl dX11_hold_18 ?_
  refine a_callVv C (i := 68) (n0 := 0) kd_68 (hid 68 (by decide)) ⟨_, _, rfl⟩ (by decide) (S_copy 0 3 rfl rfl (by decide) (by decide) hid hG) mi_X0_copy ml_RX11_230 rfl rfl (Nat.le_of_ble_eq_true rfl) (Nat.le_of_ble_eq_true rfl) (Nat.le_of_ble_eq_true rfl) dX11_hold_21 (fun σ5 q6 => ?_)
  obtain ⟨hG7, ho8⟩ := q6
  refine a_aload_n C dX11_hold_24 (i := 0) rfl rfl ?_
  refine a_get C fl_RX11_65 (i := 0) kd_0 (hid 0 (by decide)) (v := .ref (ad 26)) rfl dX11_hold_25 ?_
  refine a_iload_n C dX11_hold_28 (i := 1) rfl rfl ?_
  refine s_iconst C dX11_hold_29 (1) (by decide) (fun z9 h10 => ?_)
  refine s_zast C (i := 26) (nar_v (by omega)) kd_26 (hid 26 (by decide)) al_26 (by omega) (by omega) dX11_hold_30 (fun n11 h12 => ?_)
  have hG13 := wA_26 (v := z9) (j := n11) hG7
  refine s_iconst C dX11_hold_31 (1) (by decide) (fun z14 h15 => ?_)
  exact a_iret Rt dX11_hold_32 (nar_z (by omega)).1 (⟨hG13, (ony.I (ony.tr ony.rf (ony.mono ho8 (by decide))) (by decide)), (show 0 ≤ z14.toInt ∧ z14.toInt ≤ 1 by intros; omega)⟩)
set_option maxHeartbeats 4000000 in
set_option maxRecDepth 100000 in
theorem S_X11_hold_0_t30_v2 {l : Launch} {D : va_G} {ids : List Nat} {ad : Nat → Nat} {ca : Nat → ClassId} {σ : HS} {x1 : Int32} (hid : ∀ i, i < 277 → i ∈ ids) (hG : GIc σ) (htx0 : σ.2.2 0 = 30) (htx1 : σ.2.2 1 = 43) (hx1 : 2 ≤ x1.toInt ∧ x1.toInt ≤ 2) : Ki l D ids ad ca yX11_hold cX11_hold 2 .boolean 2 81 [.ref (ad 0), .int x1] σ (fun r σ1 => (GIc σ1) ∧ (ony [26, 72, 73, 74, 75] σ σ1) ∧ (0 ≤ r.toInt ∧ r.toInt ≤ 1)) := by
  refine Ki.of (by decide) (Nat.le_of_ble_eq_true rfl) 0 (fun Γ C Rt => ?_)
  show AW ids ad ca Γ 0 [some (.ref (ad 0)), some (.int x1)] [] σ
  refine a_iload_n C dX11_hold_0 (i := 1) rfl rfl ?_
  refine s_if_lt C dX11_hold_1 (tgt := 9) rfl (fun c1 => absurd c1 (by omega)) (fun c1 => ?_)
  refine a_iload_n C dX11_hold_4 (i := 1) rfl rfl ?_
  refine s_iconst C dX11_hold_5 (3) (by decide) (fun z2 h3 => ?_)
  refine s_ic_lt C dX11_hold_6 (tgt := 11) rfl (fun c4 => ?_) (fun c4 => absurd c4 (by omega))
  refine a_aload_n C dX11_hold_11 (i := 0) rfl rfl ?_
  refine a_get C fl_RX11_61 (i := 0) kd_0 (hid 0 (by decide)) (v := .ref (ad 25)) rfl dX11_hold_12 ?_
  refine a_iload_n C dX11_hold_15 (i := 1) rfl rfl ?_
  refine s_aaldc C (i := 25) (y := 72) 2 (by omega) (Or.inr kd_25) (hid 25 (by decide)) (by rw [al_25]; decide) (by rw [kd_25]; rfl) dX11_hold_16 ?_
  refine a_aload_n C dX11_hold_17 (i := 0) rfl rfl ?_
  refine a_get C fl_RX11_54 (i := 0) kd_0 (hid 0 (by decide)) (v := .ref (ad 56)) rfl dX11_hold_18 ?_
  refine a_callVv C (i := 72) (n0 := 0) kd_72 (hid 72 (by decide)) ⟨_, _, rfl⟩ (by decide) (S_copy 0 4 rfl rfl (by decide) (by decide) hid hG) mi_X0_copy ml_RX11_230 rfl rfl (Nat.le_of_ble_eq_true rfl) (Nat.le_of_ble_eq_true rfl) (Nat.le_of_ble_eq_true rfl) dX11_hold_21 (fun σ5 q6 => ?_)
  obtain ⟨hG7, ho8⟩ := q6
  refine a_aload_n C dX11_hold_24 (i := 0) rfl rfl ?_
  refine a_get C fl_RX11_65 (i := 0) kd_0 (hid 0 (by decide)) (v := .ref (ad 26)) rfl dX11_hold_25 ?_
  refine a_iload_n C dX11_hold_28 (i := 1) rfl rfl ?_
  refine s_iconst C dX11_hold_29 (1) (by decide) (fun z9 h10 => ?_)
  refine s_zast C (i := 26) (nar_v (by omega)) kd_26 (hid 26 (by decide)) al_26 (by omega) (by omega) dX11_hold_30 (fun n11 h12 => ?_)
  have hG13 := wA_26 (v := z9) (j := n11) hG7
  refine s_iconst C dX11_hold_31 (1) (by decide) (fun z14 h15 => ?_)
  exact a_iret Rt dX11_hold_32 (nar_z (by omega)).1 (⟨hG13, (ony.I (ony.tr ony.rf (ony.mono ho8 (by decide))) (by decide)), (show 0 ≤ z14.toInt ∧ z14.toInt ≤ 1 by intros; omega)⟩)
set_option maxHeartbeats 4000000 in
set_option maxRecDepth 100000 in
theorem S_X11_hold_0_t30_lo {l : Launch} {D : va_G} {ids : List Nat} {ad : Nat → Nat} {ca : Nat → ClassId} {σ : HS} {x1 : Int32} (hid : ∀ i, i < 277 → i ∈ ids) (hG : GIc σ) (htx0 : σ.2.2 0 = 30) (htx1 : σ.2.2 1 = 43) (hx1 : x1.toInt ≤ -1) : Ki l D ids ad ca yX11_hold cX11_hold 2 .boolean 0 0 [.ref (ad 0), .int x1] σ (fun r σ1 => (σ1 = σ) ∧ (0 ≤ r.toInt ∧ r.toInt ≤ 1)) := by
  refine Ki.of (by decide) (Nat.le_of_ble_eq_true rfl) 0 (fun Γ C Rt => ?_)
  show AW ids ad ca Γ 0 [some (.ref (ad 0)), some (.int x1)] [] σ
  refine a_iload_n C dX11_hold_0 (i := 1) rfl rfl ?_
  refine s_if_lt C dX11_hold_1 (tgt := 9) rfl (fun c1 => ?_) (fun c1 => absurd c1 (by omega))
  refine s_iconst C dX11_hold_9 (0) (by decide) (fun z2 h3 => ?_)
  exact a_iret Rt dX11_hold_10 (nar_z (by omega)).1 (⟨rfl, (show 0 ≤ z2.toInt ∧ z2.toInt ≤ 1 by intros; omega)⟩)
set_option maxHeartbeats 4000000 in
set_option maxRecDepth 100000 in
theorem S_X11_hold_0_t30_hi {l : Launch} {D : va_G} {ids : List Nat} {ad : Nat → Nat} {ca : Nat → ClassId} {σ : HS} {x1 : Int32} (hid : ∀ i, i < 277 → i ∈ ids) (hG : GIc σ) (htx0 : σ.2.2 0 = 30) (htx1 : σ.2.2 1 = 43) (hx1 : 3 ≤ x1.toInt) : Ki l D ids ad ca yX11_hold cX11_hold 2 .boolean 0 0 [.ref (ad 0), .int x1] σ (fun r σ1 => (σ1 = σ) ∧ (0 ≤ r.toInt ∧ r.toInt ≤ 1)) := by
  refine Ki.of (by decide) (Nat.le_of_ble_eq_true rfl) 0 (fun Γ C Rt => ?_)
  show AW ids ad ca Γ 0 [some (.ref (ad 0)), some (.int x1)] [] σ
  refine a_iload_n C dX11_hold_0 (i := 1) rfl rfl ?_
  refine s_if_lt C dX11_hold_1 (tgt := 9) rfl (fun c1 => absurd c1 (by omega)) (fun c1 => ?_)
  refine a_iload_n C dX11_hold_4 (i := 1) rfl rfl ?_
  refine s_iconst C dX11_hold_5 (3) (by decide) (fun z2 h3 => ?_)
  refine s_ic_lt C dX11_hold_6 (tgt := 11) rfl (fun c4 => absurd c4 (by omega)) (fun c4 => ?_)
  refine s_iconst C dX11_hold_9 (0) (by decide) (fun z5 h6 => ?_)
  exact a_iret Rt dX11_hold_10 (nar_z (by omega)).1 (⟨rfl, (show 0 ≤ z5.toInt ∧ z5.toInt ≤ 1 by intros; omega)⟩)
theorem dX11_restore_20 : decode cX11_restore 20 = .ok (.aload_n 0, 1) := by decide +kernel
theorem dX11_restore_21 : decode cX11_restore 21 = .ok (.getfield 54, 3) := by decide +kernel
theorem dX11_restore_24 : decode cX11_restore 24 = .ok (.aload_n 0, 1) := by decide +kernel
theorem dX11_restore_25 : decode cX11_restore 25 = .ok (.getfield 61, 3) := by decide +kernel
theorem dX11_restore_28 : decode cX11_restore 28 = .ok (.iload_n 1, 1) := by decide +kernel
theorem dX11_restore_29 : decode cX11_restore 29 = .ok (.aaload, 1) := by decide +kernel
theorem dX11_restore_30 : decode cX11_restore 30 = .ok (.invokevirtual 230, 3) := by decide +kernel
theorem dX11_restore_33 : decode cX11_restore 33 = .ok (.aload_n 0, 1) := by decide +kernel
theorem dX11_restore_34 : decode cX11_restore 34 = .ok (.getfield 26, 3) := by decide +kernel
theorem dX11_restore_37 : decode cX11_restore 37 = .ok (.invokevirtual 114, 3) := by decide +kernel
theorem dX11_restore_40 : decode cX11_restore 40 = .ok (.iconst 1, 1) := by decide +kernel
theorem dX11_restore_41 : decode cX11_restore 41 = .ok (.ireturn, 1) := by decide +kernel
set_option maxHeartbeats 4000000 in
set_option maxRecDepth 100000 in
theorem S_X11_restore_0_t30_v0 {l : Launch} {D : va_G} {ids : List Nat} {ad : Nat → Nat} {ca : Nat → ClassId} {σ : HS} {x1 : Int32} (hid : ∀ i, i < 277 → i ∈ ids) (hG : GIc σ) (htx0 : σ.2.2 0 = 30) (htx1 : σ.2.2 1 = 43) (hx1 : 0 ≤ x1.toInt ∧ x1.toInt ≤ 0) : Ki l D ids ad ca yX11_restore cX11_restore 2 .boolean 2 81 [.ref (ad 0), .int x1] σ (fun r σ1 => (GIc σ1) ∧ (ony [12, 56, 57, 58, 59] σ σ1) ∧ (0 ≤ r.toInt ∧ r.toInt ≤ 1)) := by
  refine Ki.of (by decide) (Nat.le_of_ble_eq_true rfl) 0 (fun Γ C Rt => ?_)
  show AW ids ad ca Γ 0 [some (.ref (ad 0)), some (.int x1)] [] σ
  refine a_iload_n C dX11_restore_0 (i := 1) rfl rfl ?_
  refine s_if_lt C dX11_restore_1 (tgt := 18) rfl (fun c1 => absurd c1 (by omega)) (fun c1 => ?_)
  refine a_iload_n C dX11_restore_4 (i := 1) rfl rfl ?_
  refine s_iconst C dX11_restore_5 (3) (by decide) (fun z2 h3 => ?_)
  refine s_ic_ge C dX11_restore_6 (tgt := 18) rfl (fun c4 => absurd c4 (by omega)) (fun c4 => ?_)
  refine a_aload_n C dX11_restore_9 (i := 0) rfl rfl ?_
  refine a_get C fl_RX11_65 (i := 0) kd_0 (hid 0 (by decide)) (v := .ref (ad 26)) rfl dX11_restore_10 ?_
  refine a_iload_n C dX11_restore_13 (i := 1) rfl rfl ?_
  refine s_zald C (i := 26) kd_26 (hid 26 (by decide)) al_26 (by omega) (by omega) dX11_restore_14 (fun n5 h6 => ?_)
  refine s_val (fun z7 e8 => ?_)
  refine s_if_ne C dX11_restore_15 (tgt := 20) rfl (fun c9 => ?_) (fun c9 => ?_)
  ·
    refine a_aload_n C dX11_restore_20 (i := 0) rfl rfl ?_
    refine a_get C fl_RX11_54 (i := 0) kd_0 (hid 0 (by decide)) (v := .ref (ad 56)) rfl dX11_restore_21 ?_
    refine a_aload_n C dX11_restore_24 (i := 0) rfl rfl ?_
    refine a_get C fl_RX11_61 (i := 0) kd_0 (hid 0 (by decide)) (v := .ref (ad 25)) rfl dX11_restore_25 ?_
    refine a_iload_n C dX11_restore_28 (i := 1) rfl rfl ?_
    refine s_aaldc C (i := 25) (y := 64) 0 (by omega) (Or.inr kd_25) (hid 25 (by decide)) (by rw [al_25]; decide) (by rw [kd_25]; rfl) dX11_restore_29 ?_
    refine a_callVv C (i := 56) (n0 := 0) kd_56 (hid 56 (by decide)) ⟨_, _, rfl⟩ (by decide) (S_copy 2 0 rfl rfl (by decide) (by decide) hid hG) mi_X0_copy ml_RX11_230 rfl rfl (Nat.le_of_ble_eq_true rfl) (Nat.le_of_ble_eq_true rfl) (Nat.le_of_ble_eq_true rfl) dX11_restore_30 (fun σ10 q11 => ?_)
    obtain ⟨hG12, ho13⟩ := q11
    refine a_aload_n C dX11_restore_33 (i := 0) rfl rfl ?_
    refine a_get C fl_RX11_26 (i := 0) kd_0 (hid 0 (by decide)) (v := .ref (ad 12)) rfl dX11_restore_34 ?_
    refine a_callVv C (i := 12) kd_12 (hid 12 (by decide)) ⟨_, _, rfl⟩ (by decide) (S_X5_clear_12 hid hG12) mi_X5_clear ml_RX11_114 rfl rfl (Nat.le_of_ble_eq_true rfl) (Nat.le_of_ble_eq_true rfl) (Nat.le_of_ble_eq_true rfl) dX11_restore_37 (fun σ15 q16 => ?_)
    obtain ⟨hG17, ho18⟩ := q16
    refine s_iconst C dX11_restore_40 (1) (by decide) (fun z20 h21 => ?_)
    exact a_iret Rt dX11_restore_41 (nar_z (by omega)).1 (⟨hG17, (ony.tr (ony.tr ony.rf (ony.mono ho13 (by decide))) (ony.mono ho18 (by decide))), (show 0 ≤ z20.toInt ∧ z20.toInt ≤ 1 by intros; omega)⟩)
  ·
    refine s_iconst C dX11_restore_18 (0) (by decide) (fun z22 h23 => ?_)
    exact a_iret Rt dX11_restore_19 (nar_z (by omega)).1 (⟨hG, ony.rf, (show 0 ≤ z22.toInt ∧ z22.toInt ≤ 1 by intros; omega)⟩)
set_option maxHeartbeats 4000000 in
set_option maxRecDepth 100000 in
theorem S_X11_restore_0_t30_v1 {l : Launch} {D : va_G} {ids : List Nat} {ad : Nat → Nat} {ca : Nat → ClassId} {σ : HS} {x1 : Int32} (hid : ∀ i, i < 277 → i ∈ ids) (hG : GIc σ) (htx0 : σ.2.2 0 = 30) (htx1 : σ.2.2 1 = 43) (hx1 : 1 ≤ x1.toInt ∧ x1.toInt ≤ 1) : Ki l D ids ad ca yX11_restore cX11_restore 2 .boolean 2 81 [.ref (ad 0), .int x1] σ (fun r σ1 => (GIc σ1) ∧ (ony [12, 56, 57, 58, 59] σ σ1) ∧ (0 ≤ r.toInt ∧ r.toInt ≤ 1)) := by
  refine Ki.of (by decide) (Nat.le_of_ble_eq_true rfl) 0 (fun Γ C Rt => ?_)
  show AW ids ad ca Γ 0 [some (.ref (ad 0)), some (.int x1)] [] σ
  refine a_iload_n C dX11_restore_0 (i := 1) rfl rfl ?_
  refine s_if_lt C dX11_restore_1 (tgt := 18) rfl (fun c1 => absurd c1 (by omega)) (fun c1 => ?_)
  refine a_iload_n C dX11_restore_4 (i := 1) rfl rfl ?_
  refine s_iconst C dX11_restore_5 (3) (by decide) (fun z2 h3 => ?_)
  refine s_ic_ge C dX11_restore_6 (tgt := 18) rfl (fun c4 => absurd c4 (by omega)) (fun c4 => ?_)
  refine a_aload_n C dX11_restore_9 (i := 0) rfl rfl ?_
  refine a_get C fl_RX11_65 (i := 0) kd_0 (hid 0 (by decide)) (v := .ref (ad 26)) rfl dX11_restore_10 ?_
  refine a_iload_n C dX11_restore_13 (i := 1) rfl rfl ?_
  refine s_zald C (i := 26) kd_26 (hid 26 (by decide)) al_26 (by omega) (by omega) dX11_restore_14 (fun n5 h6 => ?_)
  refine s_val (fun z7 e8 => ?_)
  refine s_if_ne C dX11_restore_15 (tgt := 20) rfl (fun c9 => ?_) (fun c9 => ?_)
  ·
    refine a_aload_n C dX11_restore_20 (i := 0) rfl rfl ?_
    refine a_get C fl_RX11_54 (i := 0) kd_0 (hid 0 (by decide)) (v := .ref (ad 56)) rfl dX11_restore_21 ?_
    refine a_aload_n C dX11_restore_24 (i := 0) rfl rfl ?_
    refine a_get C fl_RX11_61 (i := 0) kd_0 (hid 0 (by decide)) (v := .ref (ad 25)) rfl dX11_restore_25 ?_
    refine a_iload_n C dX11_restore_28 (i := 1) rfl rfl ?_
    refine s_aaldc C (i := 25) (y := 68) 1 (by omega) (Or.inr kd_25) (hid 25 (by decide)) (by rw [al_25]; decide) (by rw [kd_25]; rfl) dX11_restore_29 ?_
    refine a_callVv C (i := 56) (n0 := 0) kd_56 (hid 56 (by decide)) ⟨_, _, rfl⟩ (by decide) (S_copy 3 0 rfl rfl (by decide) (by decide) hid hG) mi_X0_copy ml_RX11_230 rfl rfl (Nat.le_of_ble_eq_true rfl) (Nat.le_of_ble_eq_true rfl) (Nat.le_of_ble_eq_true rfl) dX11_restore_30 (fun σ10 q11 => ?_)
    obtain ⟨hG12, ho13⟩ := q11
    refine a_aload_n C dX11_restore_33 (i := 0) rfl rfl ?_
    refine a_get C fl_RX11_26 (i := 0) kd_0 (hid 0 (by decide)) (v := .ref (ad 12)) rfl dX11_restore_34 ?_
    refine a_callVv C (i := 12) kd_12 (hid 12 (by decide)) ⟨_, _, rfl⟩ (by decide) (S_X5_clear_12 hid hG12) mi_X5_clear ml_RX11_114 rfl rfl (Nat.le_of_ble_eq_true rfl) (Nat.le_of_ble_eq_true rfl) (Nat.le_of_ble_eq_true rfl) dX11_restore_37 (fun σ15 q16 => ?_)
    obtain ⟨hG17, ho18⟩ := q16
    refine s_iconst C dX11_restore_40 (1) (by decide) (fun z20 h21 => ?_)
    exact a_iret Rt dX11_restore_41 (nar_z (by omega)).1 (⟨hG17, (ony.tr (ony.tr ony.rf (ony.mono ho13 (by decide))) (ony.mono ho18 (by decide))), (show 0 ≤ z20.toInt ∧ z20.toInt ≤ 1 by intros; omega)⟩)
  ·
    refine s_iconst C dX11_restore_18 (0) (by decide) (fun z22 h23 => ?_)
    exact a_iret Rt dX11_restore_19 (nar_z (by omega)).1 (⟨hG, ony.rf, (show 0 ≤ z22.toInt ∧ z22.toInt ≤ 1 by intros; omega)⟩)
set_option maxHeartbeats 4000000 in
set_option maxRecDepth 100000 in
theorem S_X11_restore_0_t30_v2 {l : Launch} {D : va_G} {ids : List Nat} {ad : Nat → Nat} {ca : Nat → ClassId} {σ : HS} {x1 : Int32} (hid : ∀ i, i < 277 → i ∈ ids) (hG : GIc σ) (htx0 : σ.2.2 0 = 30) (htx1 : σ.2.2 1 = 43) (hx1 : 2 ≤ x1.toInt ∧ x1.toInt ≤ 2) : Ki l D ids ad ca yX11_restore cX11_restore 2 .boolean 2 81 [.ref (ad 0), .int x1] σ (fun r σ1 => (GIc σ1) ∧ (ony [12, 56, 57, 58, 59] σ σ1) ∧ (0 ≤ r.toInt ∧ r.toInt ≤ 1)) := by
  refine Ki.of (by decide) (Nat.le_of_ble_eq_true rfl) 0 (fun Γ C Rt => ?_)
  show AW ids ad ca Γ 0 [some (.ref (ad 0)), some (.int x1)] [] σ
  refine a_iload_n C dX11_restore_0 (i := 1) rfl rfl ?_
  refine s_if_lt C dX11_restore_1 (tgt := 18) rfl (fun c1 => absurd c1 (by omega)) (fun c1 => ?_)
  refine a_iload_n C dX11_restore_4 (i := 1) rfl rfl ?_
  refine s_iconst C dX11_restore_5 (3) (by decide) (fun z2 h3 => ?_)
  refine s_ic_ge C dX11_restore_6 (tgt := 18) rfl (fun c4 => absurd c4 (by omega)) (fun c4 => ?_)
  refine a_aload_n C dX11_restore_9 (i := 0) rfl rfl ?_
  refine a_get C fl_RX11_65 (i := 0) kd_0 (hid 0 (by decide)) (v := .ref (ad 26)) rfl dX11_restore_10 ?_
  refine a_iload_n C dX11_restore_13 (i := 1) rfl rfl ?_
  refine s_zald C (i := 26) kd_26 (hid 26 (by decide)) al_26 (by omega) (by omega) dX11_restore_14 (fun n5 h6 => ?_)
  refine s_val (fun z7 e8 => ?_)
  refine s_if_ne C dX11_restore_15 (tgt := 20) rfl (fun c9 => ?_) (fun c9 => ?_)
  ·
    refine a_aload_n C dX11_restore_20 (i := 0) rfl rfl ?_
    refine a_get C fl_RX11_54 (i := 0) kd_0 (hid 0 (by decide)) (v := .ref (ad 56)) rfl dX11_restore_21 ?_
    refine a_aload_n C dX11_restore_24 (i := 0) rfl rfl ?_
    refine a_get C fl_RX11_61 (i := 0) kd_0 (hid 0 (by decide)) (v := .ref (ad 25)) rfl dX11_restore_25 ?_
    refine a_iload_n C dX11_restore_28 (i := 1) rfl rfl ?_
    refine s_aaldc C (i := 25) (y := 72) 2 (by omega) (Or.inr kd_25) (hid 25 (by decide)) (by rw [al_25]; decide) (by rw [kd_25]; rfl) dX11_restore_29 ?_
    refine a_callVv C (i := 56) (n0 := 0) kd_56 (hid 56 (by decide)) ⟨_, _, rfl⟩ (by decide) (S_copy 4 0 rfl rfl (by decide) (by decide) hid hG) mi_X0_copy ml_RX11_230 rfl rfl (Nat.le_of_ble_eq_true rfl) (Nat.le_of_ble_eq_true rfl) (Nat.le_of_ble_eq_true rfl) dX11_restore_30 (fun σ10 q11 => ?_)
    obtain ⟨hG12, ho13⟩ := q11
    refine a_aload_n C dX11_restore_33 (i := 0) rfl rfl ?_
    refine a_get C fl_RX11_26 (i := 0) kd_0 (hid 0 (by decide)) (v := .ref (ad 12)) rfl dX11_restore_34 ?_
    refine a_callVv C (i := 12) kd_12 (hid 12 (by decide)) ⟨_, _, rfl⟩ (by decide) (S_X5_clear_12 hid hG12) mi_X5_clear ml_RX11_114 rfl rfl (Nat.le_of_ble_eq_true rfl) (Nat.le_of_ble_eq_true rfl) (Nat.le_of_ble_eq_true rfl) dX11_restore_37 (fun σ15 q16 => ?_)
    obtain ⟨hG17, ho18⟩ := q16
    refine s_iconst C dX11_restore_40 (1) (by decide) (fun z20 h21 => ?_)
    exact a_iret Rt dX11_restore_41 (nar_z (by omega)).1 (⟨hG17, (ony.tr (ony.tr ony.rf (ony.mono ho13 (by decide))) (ony.mono ho18 (by decide))), (show 0 ≤ z20.toInt ∧ z20.toInt ≤ 1 by intros; omega)⟩)
  ·
    refine s_iconst C dX11_restore_18 (0) (by decide) (fun z22 h23 => ?_)
    exact a_iret Rt dX11_restore_19 (nar_z (by omega)).1 (⟨hG, ony.rf, (show 0 ≤ z22.toInt ∧ z22.toInt ≤ 1 by intros; omega)⟩)
set_option maxHeartbeats 4000000 in
set_option maxRecDepth 100000 in
theorem S_X11_restore_0_t30_lo {l : Launch} {D : va_G} {ids : List Nat} {ad : Nat → Nat} {ca : Nat → ClassId} {σ : HS} {x1 : Int32} (hid : ∀ i, i < 277 → i ∈ ids) (hG : GIc σ) (htx0 : σ.2.2 0 = 30) (htx1 : σ.2.2 1 = 43) (hx1 : x1.toInt ≤ -1) : Ki l D ids ad ca yX11_restore cX11_restore 2 .boolean 0 0 [.ref (ad 0), .int x1] σ (fun r σ1 => (σ1 = σ) ∧ (0 ≤ r.toInt ∧ r.toInt ≤ 1)) := by
  refine Ki.of (by decide) (Nat.le_of_ble_eq_true rfl) 0 (fun Γ C Rt => ?_)
  show AW ids ad ca Γ 0 [some (.ref (ad 0)), some (.int x1)] [] σ
  refine a_iload_n C dX11_restore_0 (i := 1) rfl rfl ?_
  refine s_if_lt C dX11_restore_1 (tgt := 18) rfl (fun c1 => ?_) (fun c1 => absurd c1 (by omega))
  refine s_iconst C dX11_restore_18 (0) (by decide) (fun z2 h3 => ?_)
  exact a_iret Rt dX11_restore_19 (nar_z (by omega)).1 (⟨rfl, (show 0 ≤ z2.toInt ∧ z2.toInt ≤ 1 by intros; omega)⟩)
set_option maxHeartbeats 4000000 in
set_option maxRecDepth 100000 in
theorem S_X11_restore_0_t30_hi {l : Launch} {D : va_G} {ids : List Nat} {ad : Nat → Nat} {ca : Nat → ClassId} {σ : HS} {x1 : Int32} (hid : ∀ i, i < 277 → i ∈ ids) (hG : GIc σ) (htx0 : σ.2.2 0 = 30) (htx1 : σ.2.2 1 = 43) (hx1 : 3 ≤ x1.toInt) : Ki l D ids ad ca yX11_restore cX11_restore 2 .boolean 0 0 [.ref (ad 0), .int x1] σ (fun r σ1 => (σ1 = σ) ∧ (0 ≤ r.toInt ∧ r.toInt ≤ 1)) := by
  refine Ki.of (by decide) (Nat.le_of_ble_eq_true rfl) 0 (fun Γ C Rt => ?_)
  show AW ids ad ca Γ 0 [some (.ref (ad 0)), some (.int x1)] [] σ
  refine a_iload_n C dX11_restore_0 (i := 1) rfl rfl ?_
  refine s_if_lt C dX11_restore_1 (tgt := 18) rfl (fun c1 => absurd c1 (by omega)) (fun c1 => ?_)
  refine a_iload_n C dX11_restore_4 (i := 1) rfl rfl ?_
  refine s_iconst C dX11_restore_5 (3) (by decide) (fun z2 h3 => ?_)
  refine s_ic_ge C dX11_restore_6 (tgt := 18) rfl (fun c4 => ?_) (fun c4 => absurd c4 (by omega))
  refine s_iconst C dX11_restore_18 (0) (by decide) (fun z5 h6 => ?_)
  exact a_iret Rt dX11_restore_19 (nar_z (by omega)).1 (⟨rfl, (show 0 ≤ z5.toInt ∧ z5.toInt ≤ 1 by intros; omega)⟩)
set_option maxHeartbeats 4000000 in
set_option maxRecDepth 100000 in
theorem S_X11_place_0_t30 {l : Launch} {D : va_G} {ids : List Nat} {ad : Nat → Nat} {ca : Nat → ClassId} {σ : HS} (hid : ∀ i, i < 277 → i ∈ ids) (hG : GIc σ) (htx0 : σ.2.2 0 = 30) (htx1 : σ.2.2 1 = 43) : Ki l D ids ad ca yX11_place cX11_place 1 .int 0 0 [.ref (ad 0)] σ (fun r σ1 => (σ1 = σ)) := by
  refine Ki.of (by decide) (Nat.le_of_ble_eq_true rfl) 0 (fun Γ C Rt => ?_)
  show AW ids ad ca Γ 0 [some (.ref (ad 0))] [] σ
  refine a_aload_n C dX11_place_0 (i := 0) rfl rfl ?_
  refine a_get C fl_RX11_10 (i := 0) kd_0 (hid 0 (by decide)) (v := .ref (ad 1)) rfl dX11_place_1 ?_
  refine a_get C fl_RX11_118 (i := 1) kd_1 (hid 1 (by decide)) (v := .int (σ.1 1 1)) rfl dX11_place_4 ?_
  exact a_iret Rt dX11_place_7 rfl (rfl)
theorem dX11_thing_13 : decode cX11_thing 13 = .ok (.iload_n 2, 1) := by decide +kernel
theorem dX11_thing_14 : decode cX11_thing 14 = .ok (.tableswitch 100 0 4 #[34, 44, 54, 64, 90], 34) := by decide +kernel
theorem dX11_thing_48 : decode cX11_thing 48 = .ok (.aload_n 0, 1) := by decide +kernel
theorem dX11_thing_49 : decode cX11_thing 49 = .ok (.getfield 82, 3) := by decide +kernel
theorem dX11_thing_52 : decode cX11_thing 52 = .ok (.getfield 125, 3) := by decide +kernel
theorem dX11_thing_55 : decode cX11_thing 55 = .ok (.iload_n 1, 1) := by decide +kernel
theorem dX11_thing_56 : decode cX11_thing 56 = .ok (.iaload, 1) := by decide +kernel
theorem dX11_thing_57 : decode cX11_thing 57 = .ok (.ireturn, 1) := by decide +kernel
theorem dX11_thing_58 : decode cX11_thing 58 = .ok (.aload_n 0, 1) := by decide +kernel
theorem dX11_thing_59 : decode cX11_thing 59 = .ok (.getfield 82, 3) := by decide +kernel
theorem dX11_thing_62 : decode cX11_thing 62 = .ok (.getfield 128, 3) := by decide +kernel
theorem dX11_thing_65 : decode cX11_thing 65 = .ok (.iload_n 1, 1) := by decide +kernel
theorem dX11_thing_66 : decode cX11_thing 66 = .ok (.iaload, 1) := by decide +kernel
theorem dX11_thing_67 : decode cX11_thing 67 = .ok (.ireturn, 1) := by decide +kernel
theorem dX11_thing_68 : decode cX11_thing 68 = .ok (.aload_n 0, 1) := by decide +kernel
theorem dX11_thing_69 : decode cX11_thing 69 = .ok (.getfield 54, 3) := by decide +kernel
theorem dX11_thing_72 : decode cX11_thing 72 = .ok (.getfield 131, 3) := by decide +kernel
theorem dX11_thing_75 : decode cX11_thing 75 = .ok (.iload_n 1, 1) := by decide +kernel
theorem dX11_thing_76 : decode cX11_thing 76 = .ok (.iaload, 1) := by decide +kernel
theorem dX11_thing_77 : decode cX11_thing 77 = .ok (.ireturn, 1) := by decide +kernel
theorem dX11_thing_78 : decode cX11_thing 78 = .ok (.aload_n 0, 1) := by decide +kernel
theorem dX11_thing_79 : decode cX11_thing 79 = .ok (.getfield 54, 3) := by decide +kernel
theorem dX11_thing_82 : decode cX11_thing 82 = .ok (.iload_n 1, 1) := by decide +kernel
theorem dX11_thing_83 : decode cX11_thing 83 = .ok (.invokevirtual 134, 3) := by decide +kernel
theorem dX11_thing_86 : decode cX11_thing 86 = .ok (.ifCond .eq 15, 3) := by decide +kernel
theorem dX11_thing_89 : decode cX11_thing 89 = .ok (.aload_n 0, 1) := by decide +kernel
theorem dX11_thing_90 : decode cX11_thing 90 = .ok (.getfield 54, 3) := by decide +kernel
theorem dX11_thing_93 : decode cX11_thing 93 = .ok (.getfield 137, 3) := by decide +kernel
theorem dX11_thing_96 : decode cX11_thing 96 = .ok (.iload_n 1, 1) := by decide +kernel
theorem dX11_thing_97 : decode cX11_thing 97 = .ok (.iaload, 1) := by decide +kernel
theorem dX11_thing_98 : decode cX11_thing 98 = .ok (.goto 5, 3) := by decide +kernel
theorem dX11_thing_101 : decode cX11_thing 101 = .ok (.bipush (-2), 2) := by decide +kernel
theorem dX11_thing_103 : decode cX11_thing 103 = .ok (.ireturn, 1) := by decide +kernel
theorem dX11_thing_104 : decode cX11_thing 104 = .ok (.aload_n 0, 1) := by decide +kernel
theorem dX11_thing_105 : decode cX11_thing 105 = .ok (.getfield 54, 3) := by decide +kernel
theorem dX11_thing_108 : decode cX11_thing 108 = .ok (.getfield 140, 3) := by decide +kernel
theorem dX11_thing_111 : decode cX11_thing 111 = .ok (.iload_n 1, 1) := by decide +kernel
theorem dX11_thing_112 : decode cX11_thing 112 = .ok (.iaload, 1) := by decide +kernel
theorem dX11_thing_113 : decode cX11_thing 113 = .ok (.ireturn, 1) := by decide +kernel
theorem dX11_thing_114 : decode cX11_thing 114 = .ok (.iconst (-1), 1) := by decide +kernel
theorem dX11_thing_115 : decode cX11_thing 115 = .ok (.ireturn, 1) := by decide +kernel
set_option maxHeartbeats 4000000 in
set_option maxRecDepth 100000 in
theorem S_X11_thing_0_t30 {l : Launch} {D : va_G} {ids : List Nat} {ad : Nat → Nat} {ca : Nat → ClassId} {σ : HS} {x1 : Int32} {x2 : Int32} (hid : ∀ i, i < 277 → i ∈ ids) (hG : GIc σ) (htx0 : σ.2.2 0 = 30) (htx1 : σ.2.2 1 = 43) : Ki l D ids ad ca yX11_thing cX11_thing 3 .int 1 21 [.ref (ad 0), .int x1, .int x2] σ (fun r σ1 => (σ1 = σ)) := by
  refine Ki.of (by decide) (Nat.le_of_ble_eq_true rfl) 0 (fun Γ C Rt => ?_)
  show AW ids ad ca Γ 0 [some (.ref (ad 0)), some (.int x1), some (.int x2)] [] σ
  refine a_aload_n C dX11_thing_0 (i := 0) rfl rfl ?_
  refine a_get C fl_RX11_82 (i := 0) kd_0 (hid 0 (by decide)) (v := .ref (ad 30)) (congrArg (fun z => some (Value.ref (ad z))) htx0) dX11_thing_1 ?_
  refine a_iload_n C dX11_thing_4 (i := 1) rfl rfl ?_
  refine a_callVi C (i := 30) kd_30 (hid 30 (by decide)) ⟨_, _, rfl⟩ (by decide) (S_X10_hasThing_30 (x1 := x1) hid hG) mi_X10_hasThing ml_RX11_121 rfl rfl (Nat.le_of_ble_eq_true rfl) (Nat.le_of_ble_eq_true rfl) (Nat.le_of_ble_eq_true rfl) dX11_thing_5 (fun z1 σ2 q3 => ?_)
  obtain ⟨w4, w5, w6⟩ := q3
  rw [w4]
  refine s_if_ne C dX11_thing_8 (tgt := 13) rfl (fun c7 => ?_) (fun c7 => ?_)
  ·
    refine a_iload_n C dX11_thing_13 (i := 2) rfl rfl ?_
    by_cases hsw : x2.toInt < 0 ∨ 4 < x2.toInt
    ·
      refine a_tableOut C dX11_thing_14 hsw (tgt := 114) rfl ?_
      refine s_iconst C dX11_thing_114 (-1) (by decide) (fun z8 h9 => ?_)
      exact a_iret Rt dX11_thing_115 rfl (rfl)
    rcases (show x2.toInt = 0 ∨ x2.toInt = 1 ∨ x2.toInt = 2 ∨ x2.toInt = 3 ∨ x2.toInt = 4 by omega) with hq | hq | hq | hq | hq
    ·
      refine a_tableIn C dX11_thing_14 (by omega) (by omega) (by rw [hq]; rfl) (tgt := 48) rfl ?_
      refine a_aload_n C dX11_thing_48 (i := 0) rfl rfl ?_
      refine a_get C fl_RX11_82 (i := 0) kd_0 (hid 0 (by decide)) (v := .ref (ad 30)) (congrArg (fun z => some (Value.ref (ad z))) htx0) dX11_thing_49 ?_
      refine a_get C fl_RX11_125 (i := 30) kd_30 (hid 30 (by decide)) (v := .ref (ad 31)) rfl dX11_thing_52 ?_
      refine a_iload_n C dX11_thing_55 (i := 1) rfl rfl ?_
      refine s_iald C (i := 31) kd_31 (hid 31 (by decide)) al_31 (by omega) (by omega) dX11_thing_56 (fun n10 h11 => ?_)
      refine s_val (fun z12 e13 => ?_)
      exact a_iret Rt dX11_thing_57 rfl (rfl)
    ·
      refine a_tableIn C dX11_thing_14 (by omega) (by omega) (by rw [hq]; rfl) (tgt := 58) rfl ?_
      refine a_aload_n C dX11_thing_58 (i := 0) rfl rfl ?_
      refine a_get C fl_RX11_82 (i := 0) kd_0 (hid 0 (by decide)) (v := .ref (ad 30)) (congrArg (fun z => some (Value.ref (ad z))) htx0) dX11_thing_59 ?_
      refine a_get C fl_RX11_128 (i := 30) kd_30 (hid 30 (by decide)) (v := .ref (ad 32)) rfl dX11_thing_62 ?_
      refine a_iload_n C dX11_thing_65 (i := 1) rfl rfl ?_
      refine s_iald C (i := 32) kd_32 (hid 32 (by decide)) al_32 (by omega) (by omega) dX11_thing_66 (fun n14 h15 => ?_)
      refine s_val (fun z16 e17 => ?_)
      exact a_iret Rt dX11_thing_67 rfl (rfl)
    ·
      refine a_tableIn C dX11_thing_14 (by omega) (by omega) (by rw [hq]; rfl) (tgt := 68) rfl ?_
      refine a_aload_n C dX11_thing_68 (i := 0) rfl rfl ?_
      refine a_get C fl_RX11_54 (i := 0) kd_0 (hid 0 (by decide)) (v := .ref (ad 56)) rfl dX11_thing_69 ?_
      refine a_get C fl_RX11_131 (i := 56) kd_56 (hid 56 (by decide)) (v := .ref (ad 57)) rfl dX11_thing_72 ?_
      refine a_iload_n C dX11_thing_75 (i := 1) rfl rfl ?_
      refine s_iald C (i := 57) kd_57 (hid 57 (by decide)) al_57 (by omega) (by omega) dX11_thing_76 (fun n18 h19 => ?_)
      refine s_val (fun z20 e21 => ?_)
      exact a_iret Rt dX11_thing_77 rfl (rfl)
    ·
      refine a_tableIn C dX11_thing_14 (by omega) (by omega) (by rw [hq]; rfl) (tgt := 78) rfl ?_
      refine a_aload_n C dX11_thing_78 (i := 0) rfl rfl ?_
      refine a_get C fl_RX11_54 (i := 0) kd_0 (hid 0 (by decide)) (v := .ref (ad 56)) rfl dX11_thing_79 ?_
      refine a_iload_n C dX11_thing_82 (i := 1) rfl rfl ?_
      refine a_callVi C (i := 56) kd_56 (hid 56 (by decide)) ⟨_, _, rfl⟩ (by decide) (S_X0_isUp_56 (x1 := x1) hid hG (by omega)) mi_X0_isUp ml_RX11_134 rfl rfl (Nat.le_of_ble_eq_true rfl) (Nat.le_of_ble_eq_true rfl) (Nat.le_of_ble_eq_true rfl) dX11_thing_83 (fun z22 σ23 q24 => ?_)
      obtain ⟨w25, w26⟩ := q24
      rw [w25]
      refine s_if_eq C dX11_thing_86 (tgt := 101) rfl (fun c27 => ?_) (fun c27 => ?_)
      ·
        refine s_bipush C dX11_thing_101 (-2) (by decide) (fun z28 h29 => ?_)
        exact a_iret Rt dX11_thing_103 rfl (rfl)
      ·
        refine a_aload_n C dX11_thing_89 (i := 0) rfl rfl ?_
        refine a_get C fl_RX11_54 (i := 0) kd_0 (hid 0 (by decide)) (v := .ref (ad 56)) rfl dX11_thing_90 ?_
        refine a_get C fl_RX11_137 (i := 56) kd_56 (hid 56 (by decide)) (v := .ref (ad 58)) rfl dX11_thing_93 ?_
        refine a_iload_n C dX11_thing_96 (i := 1) rfl rfl ?_
        refine s_iald C (i := 58) kd_58 (hid 58 (by decide)) al_58 (by omega) (by omega) dX11_thing_97 (fun n30 h31 => ?_)
        refine s_val (fun z32 e33 => ?_)
        refine a_goto C dX11_thing_98 (tgt := 103) rfl ?_
        exact a_iret Rt dX11_thing_103 rfl (rfl)
    ·
      refine a_tableIn C dX11_thing_14 (by omega) (by omega) (by rw [hq]; rfl) (tgt := 104) rfl ?_
      refine a_aload_n C dX11_thing_104 (i := 0) rfl rfl ?_
      refine a_get C fl_RX11_54 (i := 0) kd_0 (hid 0 (by decide)) (v := .ref (ad 56)) rfl dX11_thing_105 ?_
      refine a_get C fl_RX11_140 (i := 56) kd_56 (hid 56 (by decide)) (v := .ref (ad 59)) rfl dX11_thing_108 ?_
      refine a_iload_n C dX11_thing_111 (i := 1) rfl rfl ?_
      refine s_iald C (i := 59) kd_59 (hid 59 (by decide)) al_59 (by omega) (by omega) dX11_thing_112 (fun n34 h35 => ?_)
      refine s_val (fun z36 e37 => ?_)
      exact a_iret Rt dX11_thing_113 rfl (rfl)
  ·
    refine s_iconst C dX11_thing_11 (-1) (by decide) (fun z38 h39 => ?_)
    exact a_iret Rt dX11_thing_12 rfl (rfl)
theorem dX11_pattern_13 : decode cX11_pattern 13 = .ok (.iload_n 2, 1) := by decide +kernel
theorem dX11_pattern_14 : decode cX11_pattern 14 = .ok (.iconst (-1), 1) := by decide +kernel
theorem dX11_pattern_15 : decode cX11_pattern 15 = .ok (.if_icmp .ne 13, 3) := by decide +kernel
theorem dX11_pattern_18 : decode cX11_pattern 18 = .ok (.aload_n 0, 1) := by decide +kernel
theorem dX11_pattern_19 : decode cX11_pattern 19 = .ok (.getfield 82, 3) := by decide +kernel
theorem dX11_pattern_22 : decode cX11_pattern 22 = .ok (.getfield 146, 3) := by decide +kernel
theorem dX11_pattern_25 : decode cX11_pattern 25 = .ok (.iload_n 1, 1) := by decide +kernel
theorem dX11_pattern_26 : decode cX11_pattern 26 = .ok (.iaload, 1) := by decide +kernel
theorem dX11_pattern_27 : decode cX11_pattern 27 = .ok (.ireturn, 1) := by decide +kernel
theorem dX11_pattern_28 : decode cX11_pattern 28 = .ok (.iload_n 2, 1) := by decide +kernel
theorem dX11_pattern_29 : decode cX11_pattern 29 = .ok (.ifCond .lt 30, 3) := by decide +kernel
theorem dX11_pattern_32 : decode cX11_pattern 32 = .ok (.iload_n 2, 1) := by decide +kernel
theorem dX11_pattern_33 : decode cX11_pattern 33 = .ok (.aload_n 0, 1) := by decide +kernel
theorem dX11_pattern_34 : decode cX11_pattern 34 = .ok (.getfield 82, 3) := by decide +kernel
theorem dX11_pattern_37 : decode cX11_pattern 37 = .ok (.getfield 146, 3) := by decide +kernel
theorem dX11_pattern_40 : decode cX11_pattern 40 = .ok (.iload_n 1, 1) := by decide +kernel
theorem dX11_pattern_41 : decode cX11_pattern 41 = .ok (.iaload, 1) := by decide +kernel
theorem dX11_pattern_42 : decode cX11_pattern 42 = .ok (.if_icmp .ge 17, 3) := by decide +kernel
theorem dX11_pattern_45 : decode cX11_pattern 45 = .ok (.aload_n 0, 1) := by decide +kernel
theorem dX11_pattern_46 : decode cX11_pattern 46 = .ok (.getfield 82, 3) := by decide +kernel
theorem dX11_pattern_49 : decode cX11_pattern 49 = .ok (.getfield 149, 3) := by decide +kernel
theorem dX11_pattern_52 : decode cX11_pattern 52 = .ok (.iload_n 1, 1) := by decide +kernel
theorem dX11_pattern_53 : decode cX11_pattern 53 = .ok (.aaload, 1) := by decide +kernel
theorem dX11_pattern_54 : decode cX11_pattern 54 = .ok (.iload_n 2, 1) := by decide +kernel
theorem dX11_pattern_55 : decode cX11_pattern 55 = .ok (.iaload, 1) := by decide +kernel
theorem dX11_pattern_56 : decode cX11_pattern 56 = .ok (.goto 4, 3) := by decide +kernel
theorem dX11_pattern_59 : decode cX11_pattern 59 = .ok (.iconst (-1), 1) := by decide +kernel
theorem dX11_pattern_60 : decode cX11_pattern 60 = .ok (.ireturn, 1) := by decide +kernel
set_option maxHeartbeats 4000000 in
set_option maxRecDepth 100000 in
theorem S_X11_pattern_0_t30 {l : Launch} {D : va_G} {ids : List Nat} {ad : Nat → Nat} {ca : Nat → ClassId} {σ : HS} {x1 : Int32} {x2 : Int32} (hid : ∀ i, i < 277 → i ∈ ids) (hG : GIc σ) (htx0 : σ.2.2 0 = 30) (htx1 : σ.2.2 1 = 43) : Ki l D ids ad ca yX11_pattern cX11_pattern 3 .int 1 21 [.ref (ad 0), .int x1, .int x2] σ (fun r σ1 => (σ1 = σ)) := by
  refine Ki.of (by decide) (Nat.le_of_ble_eq_true rfl) 0 (fun Γ C Rt => ?_)
  show AW ids ad ca Γ 0 [some (.ref (ad 0)), some (.int x1), some (.int x2)] [] σ
  refine a_aload_n C dX11_pattern_0 (i := 0) rfl rfl ?_
  refine a_get C fl_RX11_82 (i := 0) kd_0 (hid 0 (by decide)) (v := .ref (ad 30)) (congrArg (fun z => some (Value.ref (ad z))) htx0) dX11_pattern_1 ?_
  refine a_iload_n C dX11_pattern_4 (i := 1) rfl rfl ?_
  refine a_callVi C (i := 30) kd_30 (hid 30 (by decide)) ⟨_, _, rfl⟩ (by decide) (S_X10_hasPattern_30 (x1 := x1) hid hG) mi_X10_hasPattern ml_RX11_143 rfl rfl (Nat.le_of_ble_eq_true rfl) (Nat.le_of_ble_eq_true rfl) (Nat.le_of_ble_eq_true rfl) dX11_pattern_5 (fun z1 σ2 q3 => ?_)
  obtain ⟨w4, w5, w6⟩ := q3
  rw [w4]
  refine s_if_ne C dX11_pattern_8 (tgt := 13) rfl (fun c7 => ?_) (fun c7 => ?_)
  ·
    refine a_iload_n C dX11_pattern_13 (i := 2) rfl rfl ?_
    refine s_iconst C dX11_pattern_14 (-1) (by decide) (fun z8 h9 => ?_)
    refine s_ic_ne C dX11_pattern_15 (tgt := 28) rfl (fun c10 => ?_) (fun c10 => ?_)
    ·
      refine a_iload_n C dX11_pattern_28 (i := 2) rfl rfl ?_
      refine s_if_lt C dX11_pattern_29 (tgt := 59) rfl (fun c11 => ?_) (fun c11 => ?_)
      ·
        refine s_iconst C dX11_pattern_59 (-1) (by decide) (fun z12 h13 => ?_)
        exact a_iret Rt dX11_pattern_60 rfl (rfl)
      ·
        refine a_iload_n C dX11_pattern_32 (i := 2) rfl rfl ?_
        refine a_aload_n C dX11_pattern_33 (i := 0) rfl rfl ?_
        refine a_get C fl_RX11_82 (i := 0) kd_0 (hid 0 (by decide)) (v := .ref (ad 30)) (congrArg (fun z => some (Value.ref (ad z))) htx0) dX11_pattern_34 ?_
        refine a_get C fl_RX11_146 (i := 30) kd_30 (hid 30 (by decide)) (v := .ref (ad 40)) rfl dX11_pattern_37 ?_
        refine a_iload_n C dX11_pattern_40 (i := 1) rfl rfl ?_
        refine s_iald C (i := 40) kd_40 (hid 40 (by decide)) al_40 (by omega) (by omega) dX11_pattern_41 (fun n14 h15 => ?_)
        refine s_val (fun z16 e17 => ?_)
        have g18 := bA_40 hG n14
        rw [e17] at g18
        refine s_ic_ge C dX11_pattern_42 (tgt := 59) rfl (fun c19 => ?_) (fun c19 => ?_)
        ·
          refine s_iconst C dX11_pattern_59 (-1) (by decide) (fun z20 h21 => ?_)
          exact a_iret Rt dX11_pattern_60 rfl (rfl)
        ·
          refine a_aload_n C dX11_pattern_45 (i := 0) rfl rfl ?_
          refine a_get C fl_RX11_82 (i := 0) kd_0 (hid 0 (by decide)) (v := .ref (ad 30)) (congrArg (fun z => some (Value.ref (ad z))) htx0) dX11_pattern_46 ?_
          refine a_get C fl_RX11_149 (i := 30) kd_30 (hid 30 (by decide)) (v := .ref (ad 34)) rfl dX11_pattern_49 ?_
          refine a_iload_n C dX11_pattern_52 (i := 1) rfl rfl ?_
          refine s_aaldH C (i := 34) kd_34 (hid 34 (by decide)) al_34 (by omega) (by omega) dX11_pattern_53 (fun n22 h23 h24 => ?_)
          refine a_iload_n C dX11_pattern_54 (i := 2) rfl rfl ?_
          refine s_iald C (i := (34 + 1 + n22)) (kdH_34 n22 h24).1 (hid _ (kdH_34 n22 h24).2.2) (kdH_34 n22 h24).2.1 (by omega) (by omega) dX11_pattern_55 (fun n25 h26 => ?_)
          refine s_val (fun z27 e28 => ?_)
          have g29 := (bH_34 hG h24) n25
          rw [e28] at g29
          refine a_goto C dX11_pattern_56 (tgt := 60) rfl ?_
          exact a_iret Rt dX11_pattern_60 rfl (rfl)
    ·
      refine a_aload_n C dX11_pattern_18 (i := 0) rfl rfl ?_
      refine a_get C fl_RX11_82 (i := 0) kd_0 (hid 0 (by decide)) (v := .ref (ad 30)) (congrArg (fun z => some (Value.ref (ad z))) htx0) dX11_pattern_19 ?_
      refine a_get C fl_RX11_146 (i := 30) kd_30 (hid 30 (by decide)) (v := .ref (ad 40)) rfl dX11_pattern_22 ?_
      refine a_iload_n C dX11_pattern_25 (i := 1) rfl rfl ?_
      refine s_iald C (i := 40) kd_40 (hid 40 (by decide)) al_40 (by omega) (by omega) dX11_pattern_26 (fun n30 h31 => ?_)
      refine s_val (fun z32 e33 => ?_)
      have g34 := bA_40 hG n30
      rw [e33] at g34
      exact a_iret Rt dX11_pattern_27 rfl (rfl)
  ·
    refine s_iconst C dX11_pattern_11 (-1) (by decide) (fun z35 h36 => ?_)
    exact a_iret Rt dX11_pattern_12 rfl (rfl)
theorem dX11_tells_11 : decode cX11_tells 11 = .ok (.iload_n 3, 1) := by decide +kernel
theorem dX11_tells_12 : decode cX11_tells 12 = .ok (.ifCond .lt 8, 3) := by decide +kernel
theorem dX11_tells_15 : decode cX11_tells 15 = .ok (.iload_n 3, 1) := by decide +kernel
theorem dX11_tells_16 : decode cX11_tells 16 = .ok (.iconst 3, 1) := by decide +kernel
theorem dX11_tells_17 : decode cX11_tells 17 = .ok (.if_icmp .le 6, 3) := by decide +kernel
theorem dX11_tells_23 : decode cX11_tells 23 = .ok (.iload_n 3, 1) := by decide +kernel
theorem dX11_tells_24 : decode cX11_tells 24 = .ok (.ifCond .eq 8, 3) := by decide +kernel
theorem dX11_tells_27 : decode cX11_tells 27 = .ok (.iload_n 3, 1) := by decide +kernel
theorem dX11_tells_28 : decode cX11_tells 28 = .ok (.iconst 1, 1) := by decide +kernel
theorem dX11_tells_29 : decode cX11_tells 29 = .ok (.if_icmp .ne 7, 3) := by decide +kernel
theorem dX11_tells_32 : decode cX11_tells 32 = .ok (.iconst 1, 1) := by decide +kernel
theorem dX11_tells_33 : decode cX11_tells 33 = .ok (.goto 4, 3) := by decide +kernel
theorem dX11_tells_36 : decode cX11_tells 36 = .ok (.iconst 0, 1) := by decide +kernel
theorem dX11_tells_37 : decode cX11_tells 37 = .ok (.istore 4, 2) := by decide +kernel
theorem dX11_tells_39 : decode cX11_tells 39 = .ok (.iload 4, 2) := by decide +kernel
theorem dX11_tells_41 : decode cX11_tells 41 = .ok (.ifCond .eq 13, 3) := by decide +kernel
theorem dX11_tells_44 : decode cX11_tells 44 = .ok (.iload_n 2, 1) := by decide +kernel
theorem dX11_tells_45 : decode cX11_tells 45 = .ok (.invokestatic 153, 3) := by decide +kernel
theorem dX11_tells_48 : decode cX11_tells 48 = .ok (.ifCond .ne 6, 3) := by decide +kernel
theorem dX11_tells_51 : decode cX11_tells 51 = .ok (.bipush (-100), 2) := by decide +kernel
theorem dX11_tells_53 : decode cX11_tells 53 = .ok (.ireturn, 1) := by decide +kernel
theorem dX11_tells_54 : decode cX11_tells 54 = .ok (.aload_n 0, 1) := by decide +kernel
theorem dX11_tells_55 : decode cX11_tells 55 = .ok (.getfield 19, 3) := by decide +kernel
theorem dX11_tells_58 : decode cX11_tells 58 = .ok (.aload_n 0, 1) := by decide +kernel
theorem dX11_tells_59 : decode cX11_tells 59 = .ok (.getfield 82, 3) := by decide +kernel
theorem dX11_tells_62 : decode cX11_tells 62 = .ok (.aload_n 0, 1) := by decide +kernel
theorem dX11_tells_63 : decode cX11_tells 63 = .ok (.getfield 54, 3) := by decide +kernel
theorem dX11_tells_66 : decode cX11_tells 66 = .ok (.iload_n 1, 1) := by decide +kernel
theorem dX11_tells_67 : decode cX11_tells 67 = .ok (.aload_n 0, 1) := by decide +kernel
theorem dX11_tells_68 : decode cX11_tells 68 = .ok (.getfield 54, 3) := by decide +kernel
theorem dX11_tells_71 : decode cX11_tells 71 = .ok (.invokevirtual 156, 3) := by decide +kernel
theorem dX11_tells_74 : decode cX11_tells 74 = .ok (.invokevirtual 160, 3) := by decide +kernel
theorem dX11_tells_77 : decode cX11_tells 77 = .ok (.aload_n 0, 1) := by decide +kernel
theorem dX11_tells_78 : decode cX11_tells 78 = .ok (.getfield 19, 3) := by decide +kernel
theorem dX11_tells_81 : decode cX11_tells 81 = .ok (.aload_n 0, 1) := by decide +kernel
theorem dX11_tells_82 : decode cX11_tells 82 = .ok (.getfield 82, 3) := by decide +kernel
theorem dX11_tells_85 : decode cX11_tells 85 = .ok (.iload_n 3, 1) := by decide +kernel
theorem dX11_tells_86 : decode cX11_tells 86 = .ok (.iload 4, 2) := by decide +kernel
theorem dX11_tells_88 : decode cX11_tells 88 = .ok (.ifCond .eq 7, 3) := by decide +kernel
theorem dX11_tells_91 : decode cX11_tells 91 = .ok (.iload_n 2, 1) := by decide +kernel
theorem dX11_tells_92 : decode cX11_tells 92 = .ok (.goto 4, 3) := by decide +kernel
theorem dX11_tells_95 : decode cX11_tells 95 = .ok (.iconst 0, 1) := by decide +kernel
theorem dX11_tells_96 : decode cX11_tells 96 = .ok (.invokevirtual 164, 3) := by decide +kernel
theorem dX11_tells_99 : decode cX11_tells 99 = .ok (.ireturn, 1) := by decide +kernel
set_option maxHeartbeats 4000000 in
set_option maxRecDepth 100000 in
theorem S_X11_tells_0_t30 {l : Launch} {D : va_G} {ids : List Nat} {ad : Nat → Nat} {ca : Nat → ClassId} {σ : HS} {x1 : Int32} {x2 : Int32} {x3 : Int32} (hid : ∀ i, i < 277 → i ∈ ids) (hG : GIc σ) (htx0 : σ.2.2 0 = 30) (htx1 : σ.2.2 1 = 43) : Ki l D ids ad ca yX11_tells cX11_tells 5 .int 3 74 [.ref (ad 0), .int x1, .int x2, .int x3] σ (fun r σ1 => (GIc σ1) ∧ (ony [9, 10, 11] σ σ1)) := by
  refine Ki.of (by decide) (Nat.le_of_ble_eq_true rfl) 1 (fun Γ C Rt => ?_)
  show AW ids ad ca Γ 0 [some (.ref (ad 0)), some (.int x1), some (.int x2), some (.int x3), none] [] σ
  have j96 : ∀ (σq96 : HS) (u96_0 : Int32) (u96_1 : Int32), GIc σq96 → ony [9, 10, 11] σ σq96 → 0 ≤ u96_1.toInt ∧ u96_1.toInt ≤ 3 → AW ids ad ca Γ 96 [none, none, none, none, none] [.int u96_0, .int u96_1, .ref (ad 30), .ref (ad 8)] σq96 := by
    intro σq96 u96_0 u96_1 hGq96 hoq96 hx96_0
    refine a_callVi C (i := 8) kd_8 (hid 8 (by decide)) ⟨_, _, rfl⟩ (by decide) (S_X4_asks_8_30 (x2 := u96_1) (x3 := u96_0) hid hGq96 (by omega)) mi_X4_asks ml_RX11_164 rfl rfl (Nat.le_of_ble_eq_true rfl) (Nat.le_of_ble_eq_true rfl) (Nat.le_of_ble_eq_true rfl) dX11_tells_96 (fun z1 σ2 q3 => ?_)
    obtain ⟨hG4, ho5⟩ := q3
    exact a_iret Rt dX11_tells_99 rfl (⟨hG4, (ony.tr hoq96 (ony.mono ho5 (by decide)))⟩)
  have j54 : ∀ (σq54 : HS) (y54_4 : Int32), GIc σq54 → ony [9, 10, 11] σ σq54 → 0 ≤ y54_4.toInt ∧ y54_4.toInt ≤ 1 → 0 ≤ x1.toInt ∧ x1.toInt ≤ 6 → 0 ≤ x3.toInt ∧ x3.toInt ≤ 3 → AW ids ad ca Γ 54 [some (.ref (ad 0)), some (.int x1), some (.int x2), some (.int x3), some (.int y54_4)] [] σq54 := by
    intro σq54 y54_4 hGq54 hoq54 hx54_0 hx54_1 hx54_2
    refine a_aload_n C dX11_tells_54 (i := 0) rfl rfl ?_
    refine a_get C fl_RX11_19 (i := 0) kd_0 (hid 0 (by decide)) (v := .ref (ad 8)) rfl dX11_tells_55 ?_
    refine a_aload_n C dX11_tells_58 (i := 0) rfl rfl ?_
    refine a_get C fl_RX11_82 (i := 0) kd_0 (hid 0 (by decide)) (v := .ref (ad 30)) (congrArg (fun z => some (Value.ref (ad z))) ((congrFun hoq54.2 0).trans htx0)) dX11_tells_59 ?_
    refine a_aload_n C dX11_tells_62 (i := 0) rfl rfl ?_
    refine a_get C fl_RX11_54 (i := 0) kd_0 (hid 0 (by decide)) (v := .ref (ad 56)) rfl dX11_tells_63 ?_
    refine a_iload_n C dX11_tells_66 (i := 1) rfl rfl ?_
    refine a_aload_n C dX11_tells_67 (i := 0) rfl rfl ?_
    refine a_get C fl_RX11_54 (i := 0) kd_0 (hid 0 (by decide)) (v := .ref (ad 56)) rfl dX11_tells_68 ?_
    refine a_callVi C (i := 56) kd_56 (hid 56 (by decide)) ⟨_, _, rfl⟩ (by decide) (S_X0_howManyUp_56 hid hGq54) mi_X0_howManyUp ml_RX11_156 rfl rfl (Nat.le_of_ble_eq_true rfl) (Nat.le_of_ble_eq_true rfl) (Nat.le_of_ble_eq_true rfl) dX11_tells_71 (fun z7 σ8 q9 => ?_)
    rw [q9]
    refine a_callVv C (i := 8) kd_8 (hid 8 (by decide)) ⟨_, _, rfl⟩ (by decide) (S_X4_lookAt_8_30_56 (x3 := x1) (x4 := z7) hid hGq54 (by omega)) mi_X4_lookAt ml_RX11_160 rfl rfl (Nat.le_of_ble_eq_true rfl) (Nat.le_of_ble_eq_true rfl) (Nat.le_of_ble_eq_true rfl) dX11_tells_74 (fun σ11 q12 => ?_)
    obtain ⟨hG13, ho14⟩ := q12
    refine a_aload_n C dX11_tells_77 (i := 0) rfl rfl ?_
    refine a_get C fl_RX11_19 (i := 0) kd_0 (hid 0 (by decide)) (v := .ref (ad 8)) rfl dX11_tells_78 ?_
    refine a_aload_n C dX11_tells_81 (i := 0) rfl rfl ?_
    refine a_get C fl_RX11_82 (i := 0) kd_0 (hid 0 (by decide)) (v := .ref (ad 30)) (congrArg (fun z => some (Value.ref (ad z))) ((congrFun ho14.2 0).trans ((congrFun hoq54.2 0).trans htx0))) dX11_tells_82 ?_
    refine a_iload_n C dX11_tells_85 (i := 3) rfl rfl ?_
    refine a_iload C dX11_tells_86 rfl ?_
    refine s_if_eq C dX11_tells_88 (tgt := 95) rfl (fun c16 => ?_) (fun c16 => ?_)
    ·
      refine s_iconst C dX11_tells_95 (0) (by decide) (fun z17 h18 => ?_)
      refine AW.sub (vs' := [none, none, none, none, none]) (lsub_of (by simp [lsubB])) ?_
      exact j96 _ z17 x3 hG13 (ony.tr hoq54 (ony.mono ho14 (by decide))) (by omega)
    ·
      refine a_iload_n C dX11_tells_91 (i := 2) rfl rfl ?_
      refine a_goto C dX11_tells_92 (tgt := 96) rfl ?_
      refine AW.sub (vs' := [none, none, none, none, none]) (lsub_of (by simp [lsubB])) ?_
      exact j96 _ x2 x3 hG13 (ony.tr hoq54 (ony.mono ho14 (by decide))) (by omega)
  have j37 : ∀ (σq37 : HS) (u37_0 : Int32), GIc σq37 → ony [9, 10, 11] σ σq37 → 0 ≤ u37_0.toInt ∧ u37_0.toInt ≤ 1 → 0 ≤ x1.toInt ∧ x1.toInt ≤ 6 → 0 ≤ x3.toInt ∧ x3.toInt ≤ 3 → AW ids ad ca Γ 37 [some (.ref (ad 0)), some (.int x1), some (.int x2), some (.int x3), none] [.int u37_0] σq37 := by
    intro σq37 u37_0 hGq37 hoq37 hx37_0 hx37_1 hx37_2
    refine a_istore C dX11_tells_37 (by decide) rfl (vs1 := [some (.ref (ad 0)), some (.int x1), some (.int x2), some (.int x3), some (.int u37_0)]) rfl ?_
    refine a_iload C dX11_tells_39 rfl ?_
    refine s_if_eq C dX11_tells_41 (tgt := 54) rfl (fun c19 => ?_) (fun c19 => ?_)
    ·
      exact j54 _ u37_0 hGq37 hoq37 (by omega) (by omega) (by omega)
    ·
      refine a_iload_n C dX11_tells_44 (i := 2) rfl rfl ?_
      refine a_callSi C (S_X11_isHeight (x1 := x2) hid hGq37) ms_X11_isHeight ml_RX11_153 rfl rfl (Nat.le_of_ble_eq_true rfl) (Nat.le_of_ble_eq_true rfl) (Nat.le_of_ble_eq_true rfl) dX11_tells_45 (fun z20 σ21 q22 => ?_)
      obtain ⟨w23, w24, w25⟩ := q22
      rw [w23]
      refine s_if_ne C dX11_tells_48 (tgt := 54) rfl (fun c26 => ?_) (fun c26 => ?_)
      ·
        exact j54 _ u37_0 hGq37 hoq37 (by omega) (by omega) (by omega)
      ·
        refine s_bipush C dX11_tells_51 (-100) (by decide) (fun z27 h28 => ?_)
        exact a_iret Rt dX11_tells_53 rfl (⟨hGq37, hoq37⟩)
  have j32 : ∀ (σq32 : HS), GIc σq32 → ony [9, 10, 11] σ σq32 → 0 ≤ x1.toInt ∧ x1.toInt ≤ 6 → 0 ≤ x3.toInt ∧ x3.toInt ≤ 1 → AW ids ad ca Γ 32 [some (.ref (ad 0)), some (.int x1), some (.int x2), some (.int x3), none] [] σq32 := by
    intro σq32 hGq32 hoq32 hx32_0 hx32_1
    refine s_iconst C dX11_tells_32 (1) (by decide) (fun z29 h30 => ?_)
    refine a_goto C dX11_tells_33 (tgt := 37) rfl ?_
    exact j37 _ z29 hGq32 hoq32 (by omega) (by omega) (by omega)
  refine a_aload_n C dX11_tells_0 (i := 0) rfl rfl ?_
  refine a_get C fl_RX11_82 (i := 0) kd_0 (hid 0 (by decide)) (v := .ref (ad 30)) (congrArg (fun z => some (Value.ref (ad z))) htx0) dX11_tells_1 ?_
  refine a_iload_n C dX11_tells_4 (i := 1) rfl rfl ?_
  refine a_callVi C (i := 30) kd_30 (hid 30 (by decide)) ⟨_, _, rfl⟩ (by decide) (S_X10_hasThing_30 (x1 := x1) hid hG) mi_X10_hasThing ml_RX11_121 rfl rfl (Nat.le_of_ble_eq_true rfl) (Nat.le_of_ble_eq_true rfl) (Nat.le_of_ble_eq_true rfl) dX11_tells_5 (fun z31 σ32 q33 => ?_)
  obtain ⟨w34, w35, w36⟩ := q33
  rw [w34]
  refine s_if_eq C dX11_tells_8 (tgt := 20) rfl (fun c37 => ?_) (fun c37 => ?_)
  ·
    refine s_bipush C dX11_tells_20 (-100) (by decide) (fun z38 h39 => ?_)
    exact a_iret Rt dX11_tells_22 rfl (⟨hG, ony.rf⟩)
  ·
    refine a_iload_n C dX11_tells_11 (i := 3) rfl rfl ?_
    refine s_if_lt C dX11_tells_12 (tgt := 20) rfl (fun c40 => ?_) (fun c40 => ?_)
    ·
      refine s_bipush C dX11_tells_20 (-100) (by decide) (fun z41 h42 => ?_)
      exact a_iret Rt dX11_tells_22 rfl (⟨hG, ony.rf⟩)
    ·
      refine a_iload_n C dX11_tells_15 (i := 3) rfl rfl ?_
      refine s_iconst C dX11_tells_16 (3) (by decide) (fun z43 h44 => ?_)
      refine s_ic_le C dX11_tells_17 (tgt := 23) rfl (fun c45 => ?_) (fun c45 => ?_)
      ·
        refine a_iload_n C dX11_tells_23 (i := 3) rfl rfl ?_
        refine s_if_eq C dX11_tells_24 (tgt := 32) rfl (fun c46 => ?_) (fun c46 => ?_)
        ·
          exact j32 _ hG ony.rf (by omega) (by omega)
        ·
          refine a_iload_n C dX11_tells_27 (i := 3) rfl rfl ?_
          refine s_iconst C dX11_tells_28 (1) (by decide) (fun z47 h48 => ?_)
          refine s_ic_ne C dX11_tells_29 (tgt := 36) rfl (fun c49 => ?_) (fun c49 => ?_)
          ·
            refine s_iconst C dX11_tells_36 (0) (by decide) (fun z50 h51 => ?_)
            exact j37 _ z50 hG ony.rf (by omega) (by omega) (by omega)
          ·
            exact j32 _ hG ony.rf (by omega) (by omega)
      ·
        refine s_bipush C dX11_tells_20 (-100) (by decide) (fun z52 h53 => ?_)
        exact a_iret Rt dX11_tells_22 rfl (⟨hG, ony.rf⟩)
theorem dX11_slotsHeld_18 : decode cX11_slotsHeld 18 = .ok (.iinc 1 1, 3) := by decide +kernel
set_option maxHeartbeats 4000000 in
set_option maxRecDepth 100000 in
theorem S_X11_slotsHeld_0_t30 {l : Launch} {D : va_G} {ids : List Nat} {ad : Nat → Nat} {ca : Nat → ClassId} {σ : HS} (hid : ∀ i, i < 277 → i ∈ ids) (hG : GIc σ) (htx0 : σ.2.2 0 = 30) (htx1 : σ.2.2 1 = 43) : Ki l D ids ad ca yX11_slotsHeld cX11_slotsHeld 3 .int 0 0 [.ref (ad 0)] σ (fun r σ1 => (σ1 = σ)) := by
  refine Ki.of (by decide) (Nat.le_of_ble_eq_true rfl) 2 (fun Γ C Rt => ?_)
  show AW ids ad ca Γ 0 [some (.ref (ad 0)), none, none] [] σ
  have j4 : ∀ (d4 : Nat) (y4_1 : Int32) (y4_2 : Int32), 3 - y4_2.toInt < d4 → 0 ≤ y4_2.toInt ∧ y4_2.toInt ≤ 3 → AW ids ad ca Γ 4 [some (.ref (ad 0)), some (.int y4_1), some (.int y4_2)] [] σ := by
    intro d4
    induction d4 with
    | zero =>
      intro y4_1 y4_2 hd4 hx4_0
      exfalso
      omega
    | succ d4 ih4 =>
      intro y4_1 y4_2 hd4 hx4_0
      have j21 : ∀ (y21_1 : Int32), 0 ≤ y4_2.toInt ∧ y4_2.toInt ≤ 2 → AW ids ad ca Γ 21 [some (.ref (ad 0)), some (.int y21_1), some (.int y4_2)] [] σ := by
        intro y21_1 hx21_0
        refine s_iinc C dX11_slotsHeld_21 rfl (1) (by decide) (by omega) (by decide) rfl (fun z1 h2 => ?_)
        show AW ids ad ca Γ 24 [some (.ref (ad 0)), some (.int y21_1), some (.int z1)] _ _
        refine a_goto C dX11_slotsHeld_24 (tgt := 4) rfl ?_
        exact ih4 y21_1 z1 (by omega) (by omega)
      refine a_iload_n C dX11_slotsHeld_4 (i := 2) rfl rfl ?_
      refine s_iconst C dX11_slotsHeld_5 (3) (by decide) (fun z3 h4 => ?_)
      refine s_ic_ge C dX11_slotsHeld_6 (tgt := 27) rfl (fun c5 => ?_) (fun c5 => ?_)
      ·
        refine a_iload_n C dX11_slotsHeld_27 (i := 1) rfl rfl ?_
        exact a_iret Rt dX11_slotsHeld_28 rfl (rfl)
      ·
        refine a_aload_n C dX11_slotsHeld_9 (i := 0) rfl rfl ?_
        refine a_get C fl_RX11_65 (i := 0) kd_0 (hid 0 (by decide)) (v := .ref (ad 26)) rfl dX11_slotsHeld_10 ?_
        refine a_iload_n C dX11_slotsHeld_13 (i := 2) rfl rfl ?_
        refine s_zald C (i := 26) kd_26 (hid 26 (by decide)) al_26 (by omega) (by omega) dX11_slotsHeld_14 (fun n6 h7 => ?_)
        refine s_val (fun z8 e9 => ?_)
        refine s_if_eq C dX11_slotsHeld_15 (tgt := 21) rfl (fun c10 => ?_) (fun c10 => ?_)
        ·
          exact j21 y4_1 (by omega)
        ·
          refine s_iincU C dX11_slotsHeld_18 rfl (by decide) rfl (fun z11 => ?_)
          show AW ids ad ca Γ 21 [some (.ref (ad 0)), some (.int z11), some (.int y4_2)] _ _
          exact j21 z11 (by omega)
  refine s_iconst C dX11_slotsHeld_0 (0) (by decide) (fun z13 h14 => ?_)
  refine a_istore_n C dX11_slotsHeld_1 (i := 1) rfl (by decide) rfl (vs1 := [some (.ref (ad 0)), some (.int z13), none]) rfl ?_
  refine s_iconst C dX11_slotsHeld_2 (0) (by decide) (fun z15 h16 => ?_)
  refine a_istore_n C dX11_slotsHeld_3 (i := 2) rfl (by decide) rfl (vs1 := [some (.ref (ad 0)), some (.int z13), some (.int z15)]) rfl ?_
  exact j4 100000 z13 z15 (by omega) (by omega)
theorem dX11_weightsOf_15 : decode cX11_weightsOf 15 = .ok (.iload_n 1, 1) := by decide +kernel
theorem dX11_weightsOf_16 : decode cX11_weightsOf 16 = .ok (.iload_n 3, 1) := by decide +kernel
theorem dX11_weightsOf_17 : decode cX11_weightsOf 17 = .ok (.ishr, 1) := by decide +kernel
theorem dX11_weightsOf_18 : decode cX11_weightsOf 18 = .ok (.iconst 1, 1) := by decide +kernel
theorem dX11_weightsOf_19 : decode cX11_weightsOf 19 = .ok (.iand, 1) := by decide +kernel
theorem dX11_weightsOf_20 : decode cX11_weightsOf 20 = .ok (.iconst 1, 1) := by decide +kernel
theorem dX11_weightsOf_21 : decode cX11_weightsOf 21 = .ok (.if_icmp .ne 15, 3) := by decide +kernel
theorem dX11_weightsOf_24 : decode cX11_weightsOf 24 = .ok (.iload_n 2, 1) := by decide +kernel
theorem dX11_weightsOf_25 : decode cX11_weightsOf 25 = .ok (.aload_n 0, 1) := by decide +kernel
theorem dX11_weightsOf_26 : decode cX11_weightsOf 26 = .ok (.getfield 82, 3) := by decide +kernel
theorem dX11_weightsOf_29 : decode cX11_weightsOf 29 = .ok (.getfield 125, 3) := by decide +kernel
theorem dX11_weightsOf_32 : decode cX11_weightsOf 32 = .ok (.iload_n 3, 1) := by decide +kernel
theorem dX11_weightsOf_33 : decode cX11_weightsOf 33 = .ok (.iaload, 1) := by decide +kernel
theorem dX11_weightsOf_34 : decode cX11_weightsOf 34 = .ok (.iadd, 1) := by decide +kernel
theorem dX11_weightsOf_35 : decode cX11_weightsOf 35 = .ok (.istore_n 2, 1) := by decide +kernel
theorem dX11_weightsOf_36 : decode cX11_weightsOf 36 = .ok (.iinc 3 1, 3) := by decide +kernel
theorem dX11_weightsOf_39 : decode cX11_weightsOf 39 = .ok (.goto (-35), 3) := by decide +kernel
set_option maxHeartbeats 4000000 in
set_option maxRecDepth 100000 in
theorem S_X11_weightsOf_0_t30 {l : Launch} {D : va_G} {ids : List Nat} {ad : Nat → Nat} {ca : Nat → ClassId} {σ : HS} {x1 : Int32} (hid : ∀ i, i < 277 → i ∈ ids) (hG : GIc σ) (htx0 : σ.2.2 0 = 30) (htx1 : σ.2.2 1 = 43) : Ki l D ids ad ca yX11_weightsOf cX11_weightsOf 4 .int 0 0 [.ref (ad 0), .int x1] σ (fun r σ1 => (σ1 = σ)) := by
  refine Ki.of (by decide) (Nat.le_of_ble_eq_true rfl) 2 (fun Γ C Rt => ?_)
  show AW ids ad ca Γ 0 [some (.ref (ad 0)), some (.int x1), none, none] [] σ
  have j4 : ∀ (d4 : Nat) (y4_2 : Int32) (y4_3 : Int32), 7 - y4_3.toInt < d4 → 0 ≤ y4_3.toInt ∧ y4_3.toInt ≤ 7 → AW ids ad ca Γ 4 [some (.ref (ad 0)), some (.int x1), some (.int y4_2), some (.int y4_3)] [] σ := by
    intro d4
    induction d4 with
    | zero =>
      intro y4_2 y4_3 hd4 hx4_0
      exfalso
      omega
    | succ d4 ih4 =>
      intro y4_2 y4_3 hd4 hx4_0
      have j36 : ∀ (y36_2 : Int32), 0 ≤ y4_3.toInt ∧ y4_3.toInt ≤ 6 → AW ids ad ca Γ 36 [some (.ref (ad 0)), some (.int x1), some (.int y36_2), some (.int y4_3)] [] σ := by
        intro y36_2 hx36_0
        refine s_iinc C dX11_weightsOf_36 rfl (1) (by decide) (by omega) (by decide) rfl (fun z1 h2 => ?_)
        show AW ids ad ca Γ 39 [some (.ref (ad 0)), some (.int x1), some (.int y36_2), some (.int z1)] _ _
        refine a_goto C dX11_weightsOf_39 (tgt := 4) rfl ?_
        exact ih4 y36_2 z1 (by omega) (by omega)
      refine a_iload_n C dX11_weightsOf_4 (i := 3) rfl rfl ?_
      refine a_aload_n C dX11_weightsOf_5 (i := 0) rfl rfl ?_
      refine a_get C fl_RX11_82 (i := 0) kd_0 (hid 0 (by decide)) (v := .ref (ad 30)) (congrArg (fun z => some (Value.ref (ad z))) htx0) dX11_weightsOf_6 ?_
      have g3 := bF_30_0 hG
      refine a_get C fl_RX11_168 (i := 30) kd_30 (hid 30 (by decide)) (v := .int (σ.1 30 0)) rfl dX11_weightsOf_9 ?_
      refine s_ic_ge C dX11_weightsOf_12 (tgt := 42) rfl (fun c4 => ?_) (fun c4 => ?_)
      ·
        refine a_iload_n C dX11_weightsOf_42 (i := 2) rfl rfl ?_
        exact a_iret Rt dX11_weightsOf_43 rfl (rfl)
      ·
        refine a_iload_n C dX11_weightsOf_15 (i := 1) rfl rfl ?_
        refine a_iload_n C dX11_weightsOf_16 (i := 3) rfl rfl ?_
        refine s_ishrU C dX11_weightsOf_17 (fun z5 => ?_)
        refine s_iconst C dX11_weightsOf_18 (1) (by decide) (fun z7 h8 => ?_)
        refine s_iand C dX11_weightsOf_19 (by omega) (fun z9 h10 => ?_)
        refine s_iconst C dX11_weightsOf_20 (1) (by decide) (fun z11 h12 => ?_)
        refine s_ic_ne C dX11_weightsOf_21 (tgt := 36) rfl (fun c13 => ?_) (fun c13 => ?_)
        ·
          exact j36 y4_2 (by omega)
        ·
          refine a_iload_n C dX11_weightsOf_24 (i := 2) rfl rfl ?_
          refine a_aload_n C dX11_weightsOf_25 (i := 0) rfl rfl ?_
          refine a_get C fl_RX11_82 (i := 0) kd_0 (hid 0 (by decide)) (v := .ref (ad 30)) (congrArg (fun z => some (Value.ref (ad z))) htx0) dX11_weightsOf_26 ?_
          refine a_get C fl_RX11_125 (i := 30) kd_30 (hid 30 (by decide)) (v := .ref (ad 31)) rfl dX11_weightsOf_29 ?_
          refine a_iload_n C dX11_weightsOf_32 (i := 3) rfl rfl ?_
          refine s_iald C (i := 31) kd_31 (hid 31 (by decide)) al_31 (by omega) (by omega) dX11_weightsOf_33 (fun n14 h15 => ?_)
          refine s_val (fun z16 e17 => ?_)
          refine s_iaddU C dX11_weightsOf_34 (fun z18 => ?_)
          refine a_istore_n C dX11_weightsOf_35 (i := 2) rfl (by decide) rfl (vs1 := [some (.ref (ad 0)), some (.int x1), some (.int z18), some (.int y4_3)]) rfl ?_
          exact j36 z18 (by omega)
  refine s_iconst C dX11_weightsOf_0 (0) (by decide) (fun z20 h21 => ?_)
  refine a_istore_n C dX11_weightsOf_1 (i := 2) rfl (by decide) rfl (vs1 := [some (.ref (ad 0)), some (.int x1), some (.int z20), none]) rfl ?_
  refine s_iconst C dX11_weightsOf_2 (0) (by decide) (fun z22 h23 => ?_)
  refine a_istore_n C dX11_weightsOf_3 (i := 3) rfl (by decide) rfl (vs1 := [some (.ref (ad 0)), some (.int x1), some (.int z20), some (.int z22)]) rfl ?_
  exact j4 100000 z20 z22 (by omega) (by omega)
theorem dX11_count_178 : decode cX11_count 178 = .ok (.aload_n 0, 1) := by decide +kernel
theorem dX11_count_179 : decode cX11_count 179 = .ok (.getfield 54, 3) := by decide +kernel
theorem dX11_count_182 : decode cX11_count 182 = .ok (.getfield 193, 3) := by decide +kernel
set_option maxHeartbeats 4000000 in
set_option maxRecDepth 100000 in
theorem S_X11_count_0_t30 {l : Launch} {D : va_G} {ids : List Nat} {ad : Nat → Nat} {ca : Nat → ClassId} {σ : HS} {x1 : Int32} (hid : ∀ i, i < 277 → i ∈ ids) (hG : GIc σ) (htx0 : σ.2.2 0 = 30) (htx1 : σ.2.2 1 = 43) : Ki l D ids ad ca yX11_count cX11_count 2 .int 2 43 [.ref (ad 0), .int x1] σ (fun r σ1 => (σ1 = σ)) := by
  refine Ki.of (by decide) (Nat.le_of_ble_eq_true rfl) 0 (fun Γ C Rt => ?_)
  show AW ids ad ca Γ 0 [some (.ref (ad 0)), some (.int x1)] [] σ
  refine a_iload_n C dX11_count_0 (i := 1) rfl rfl ?_
  by_cases hsw : x1.toInt < 0 ∨ 17 < x1.toInt
  ·
    refine a_tableOut C dX11_count_1 hsw (tgt := 265) rfl ?_
    refine s_iconst C dX11_count_265 (-1) (by decide) (fun z1 h2 => ?_)
    exact a_iret Rt dX11_count_266 rfl (rfl)
  rcases (show x1.toInt = 0 ∨ x1.toInt = 1 ∨ x1.toInt = 2 ∨ x1.toInt = 3 ∨ x1.toInt = 4 ∨ x1.toInt = 5 ∨ x1.toInt = 6 ∨ x1.toInt = 7 ∨ x1.toInt = 8 ∨ x1.toInt = 9 ∨ x1.toInt = 10 ∨ x1.toInt = 11 ∨ x1.toInt = 12 ∨ x1.toInt = 13 ∨ x1.toInt = 14 ∨ x1.toInt = 15 ∨ x1.toInt = 16 ∨ x1.toInt = 17 by omega) with hq | hq | hq | hq | hq | hq | hq | hq | hq | hq | hq | hq | hq | hq | hq | hq | hq | hq
  ·
    refine a_tableIn C dX11_count_1 (by omega) (by omega) (by rw [hq]; rfl) (tgt := 88) rfl ?_
    refine a_aload_n C dX11_count_88 (i := 0) rfl rfl ?_
    refine a_get C fl_RX11_82 (i := 0) kd_0 (hid 0 (by decide)) (v := .ref (ad 30)) (congrArg (fun z => some (Value.ref (ad z))) htx0) dX11_count_89 ?_
    have g3 := bF_30_0 hG
    refine a_get C fl_RX11_168 (i := 30) kd_30 (hid 30 (by decide)) (v := .int (σ.1 30 0)) rfl dX11_count_92 ?_
    exact a_iret Rt dX11_count_95 rfl (rfl)
  ·
    refine a_tableIn C dX11_count_1 (by omega) (by omega) (by rw [hq]; rfl) (tgt := 96) rfl ?_
    refine a_aload_n C dX11_count_96 (i := 0) rfl rfl ?_
    refine a_get C fl_RX11_82 (i := 0) kd_0 (hid 0 (by decide)) (v := .ref (ad 30)) (congrArg (fun z => some (Value.ref (ad z))) htx0) dX11_count_97 ?_
    have g4 := bF_30_4 hG
    refine a_get C fl_RX11_171 (i := 30) kd_30 (hid 30 (by decide)) (v := .int (σ.1 30 4)) rfl dX11_count_100 ?_
    exact a_iret Rt dX11_count_103 rfl (rfl)
  ·
    refine a_tableIn C dX11_count_1 (by omega) (by omega) (by rw [hq]; rfl) (tgt := 104) rfl ?_
    refine a_aload_n C dX11_count_104 (i := 0) rfl rfl ?_
    refine a_get C fl_RX11_54 (i := 0) kd_0 (hid 0 (by decide)) (v := .ref (ad 56)) rfl dX11_count_105 ?_
    refine a_get C fl_RX11_174 (i := 56) kd_56 (hid 56 (by decide)) (v := .int (σ.1 56 4)) rfl dX11_count_108 ?_
    exact a_iret Rt dX11_count_111 rfl (rfl)
  ·
    refine a_tableIn C dX11_count_1 (by omega) (by omega) (by rw [hq]; rfl) (tgt := 112) rfl ?_
    refine a_aload_n C dX11_count_112 (i := 0) rfl rfl ?_
    refine a_get C fl_RX11_54 (i := 0) kd_0 (hid 0 (by decide)) (v := .ref (ad 56)) rfl dX11_count_113 ?_
    refine a_get C fl_RX11_177 (i := 56) kd_56 (hid 56 (by decide)) (v := .int (σ.1 56 5)) rfl dX11_count_116 ?_
    exact a_iret Rt dX11_count_119 rfl (rfl)
  ·
    refine a_tableIn C dX11_count_1 (by omega) (by omega) (by rw [hq]; rfl) (tgt := 120) rfl ?_
    refine a_aload_n C dX11_count_120 (i := 0) rfl rfl ?_
    refine a_get C fl_RX11_54 (i := 0) kd_0 (hid 0 (by decide)) (v := .ref (ad 56)) rfl dX11_count_121 ?_
    refine s_iconst C dX11_count_124 (0) (by decide) (fun z5 h6 => ?_)
    refine a_callVi C (i := 56) kd_56 (hid 56 (by decide)) ⟨_, _, rfl⟩ (by decide) (S_X0_bitsOf_56 (x1 := z5) hid hG) mi_X0_bitsOf ml_RX11_180 rfl rfl (Nat.le_of_ble_eq_true rfl) (Nat.le_of_ble_eq_true rfl) (Nat.le_of_ble_eq_true rfl) dX11_count_125 (fun z7 σ8 q9 => ?_)
    rw [q9]
    exact a_iret Rt dX11_count_128 rfl (rfl)
  ·
    refine a_tableIn C dX11_count_1 (by omega) (by omega) (by rw [hq]; rfl) (tgt := 129) rfl ?_
    refine a_aload_n C dX11_count_129 (i := 0) rfl rfl ?_
    refine a_get C fl_RX11_54 (i := 0) kd_0 (hid 0 (by decide)) (v := .ref (ad 56)) rfl dX11_count_130 ?_
    refine s_iconst C dX11_count_133 (2) (by decide) (fun z10 h11 => ?_)
    refine a_callVi C (i := 56) kd_56 (hid 56 (by decide)) ⟨_, _, rfl⟩ (by decide) (S_X0_bitsOf_56 (x1 := z10) hid hG) mi_X0_bitsOf ml_RX11_180 rfl rfl (Nat.le_of_ble_eq_true rfl) (Nat.le_of_ble_eq_true rfl) (Nat.le_of_ble_eq_true rfl) dX11_count_134 (fun z12 σ13 q14 => ?_)
    rw [q14]
    exact a_iret Rt dX11_count_137 rfl (rfl)
  ·
    refine a_tableIn C dX11_count_1 (by omega) (by omega) (by rw [hq]; rfl) (tgt := 138) rfl ?_
    refine a_aload_n C dX11_count_138 (i := 0) rfl rfl ?_
    refine a_get C fl_RX11_54 (i := 0) kd_0 (hid 0 (by decide)) (v := .ref (ad 56)) rfl dX11_count_139 ?_
    refine a_get C fl_RX11_184 (i := 56) kd_56 (hid 56 (by decide)) (v := .int (σ.1 56 6)) rfl dX11_count_142 ?_
    exact a_iret Rt dX11_count_145 rfl (rfl)
  ·
    refine a_tableIn C dX11_count_1 (by omega) (by omega) (by rw [hq]; rfl) (tgt := 146) rfl ?_
    refine a_aload_n C dX11_count_146 (i := 0) rfl rfl ?_
    refine a_get C fl_RX11_54 (i := 0) kd_0 (hid 0 (by decide)) (v := .ref (ad 56)) rfl dX11_count_147 ?_
    refine a_get C fl_RX11_187 (i := 56) kd_56 (hid 56 (by decide)) (v := .int (σ.1 56 7)) rfl dX11_count_150 ?_
    exact a_iret Rt dX11_count_153 rfl (rfl)
  ·
    refine a_tableIn C dX11_count_1 (by omega) (by omega) (by rw [hq]; rfl) (tgt := 154) rfl ?_
    refine a_aload_n C dX11_count_154 (i := 0) rfl rfl ?_
    refine a_get C fl_RX11_54 (i := 0) kd_0 (hid 0 (by decide)) (v := .ref (ad 56)) rfl dX11_count_155 ?_
    refine a_get C fl_RX11_190 (i := 56) kd_56 (hid 56 (by decide)) (v := .int (σ.1 56 8)) rfl dX11_count_158 ?_
    exact a_iret Rt dX11_count_161 rfl (rfl)
  ·
    refine a_tableIn C dX11_count_1 (by omega) (by omega) (by rw [hq]; rfl) (tgt := 162) rfl ?_
    refine a_aload_n C dX11_count_162 (i := 0) rfl rfl ?_
    refine a_get C fl_RX11_54 (i := 0) kd_0 (hid 0 (by decide)) (v := .ref (ad 56)) rfl dX11_count_163 ?_
    refine a_get C fl_RX11_193 (i := 56) kd_56 (hid 56 (by decide)) (v := .int (σ.1 56 9)) rfl dX11_count_166 ?_
    refine s_iconst C dX11_count_169 (-1) (by decide) (fun z15 h16 => ?_)
    refine s_ic_ne C dX11_count_170 (tgt := 178) rfl (fun c17 => ?_) (fun c17 => ?_)
    ·
      refine a_aload_n C dX11_count_178 (i := 0) rfl rfl ?_
      refine a_get C fl_RX11_54 (i := 0) kd_0 (hid 0 (by decide)) (v := .ref (ad 56)) rfl dX11_count_179 ?_
      refine a_get C fl_RX11_193 (i := 56) kd_56 (hid 56 (by decide)) (v := .int (σ.1 56 9)) rfl dX11_count_182 ?_
      exact a_iret Rt dX11_count_185 rfl (rfl)
    ·
      refine s_bipush C dX11_count_173 (-2) (by decide) (fun z18 h19 => ?_)
      refine a_goto C dX11_count_175 (tgt := 185) rfl ?_
      exact a_iret Rt dX11_count_185 rfl (rfl)
  ·
    refine a_tableIn C dX11_count_1 (by omega) (by omega) (by rw [hq]; rfl) (tgt := 186) rfl ?_
    refine a_aload_n C dX11_count_186 (i := 0) rfl rfl ?_
    refine a_get C fl_RX11_54 (i := 0) kd_0 (hid 0 (by decide)) (v := .ref (ad 56)) rfl dX11_count_187 ?_
    refine a_aload_n C dX11_count_190 (i := 0) rfl rfl ?_
    refine a_get C fl_RX11_82 (i := 0) kd_0 (hid 0 (by decide)) (v := .ref (ad 30)) (congrArg (fun z => some (Value.ref (ad z))) htx0) dX11_count_191 ?_
    refine a_callVi C (i := 56) kd_56 (hid 56 (by decide)) ⟨_, _, rfl⟩ (by decide) (S_X0_heightBy_56_30 hid hG) mi_X0_heightBy ml_RX11_196 rfl rfl (Nat.le_of_ble_eq_true rfl) (Nat.le_of_ble_eq_true rfl) (Nat.le_of_ble_eq_true rfl) dX11_count_194 (fun z20 σ21 q22 => ?_)
    rw [q22]
    exact a_iret Rt dX11_count_197 rfl (rfl)
  ·
    refine a_tableIn C dX11_count_1 (by omega) (by omega) (by rw [hq]; rfl) (tgt := 198) rfl ?_
    refine a_aload_n C dX11_count_198 (i := 0) rfl rfl ?_
    refine a_get C fl_RX11_10 (i := 0) kd_0 (hid 0 (by decide)) (v := .ref (ad 1)) rfl dX11_count_199 ?_
    refine a_get C fl_RX11_89 (i := 1) kd_1 (hid 1 (by decide)) (v := .ref (ad 2)) rfl dX11_count_202 ?_
    have g23 := bF_2_1 hG
    refine a_get C fl_RX11_93 (i := 2) kd_2 (hid 2 (by decide)) (v := .int (σ.1 2 1)) rfl dX11_count_205 ?_
    exact a_iret Rt dX11_count_208 rfl (rfl)
  ·
    refine a_tableIn C dX11_count_1 (by omega) (by omega) (by rw [hq]; rfl) (tgt := 209) rfl ?_
    refine a_aload_n C dX11_count_209 (i := 0) rfl rfl ?_
    refine a_get C fl_RX11_26 (i := 0) kd_0 (hid 0 (by decide)) (v := .ref (ad 12)) rfl dX11_count_210 ?_
    have g24 := bF_12_2 hG
    refine a_get C fl_RX11_199 (i := 12) kd_12 (hid 12 (by decide)) (v := .int (σ.1 12 2)) rfl dX11_count_213 ?_
    exact a_iret Rt dX11_count_216 rfl (rfl)
  ·
    refine a_tableIn C dX11_count_1 (by omega) (by omega) (by rw [hq]; rfl) (tgt := 217) rfl ?_
    refine a_aload_n C dX11_count_217 (i := 0) rfl rfl ?_
    refine a_get C fl_RX11_33 (i := 0) kd_0 (hid 0 (by decide)) (v := .ref (ad 14)) rfl dX11_count_218 ?_
    have g25 := bF_14_2 hG
    refine a_get C fl_RX11_117 (i := 14) kd_14 (hid 14 (by decide)) (v := .int (σ.1 14 2)) rfl dX11_count_221 ?_
    exact a_iret Rt dX11_count_224 rfl (rfl)
  ·
    refine a_tableIn C dX11_count_1 (by omega) (by omega) (by rw [hq]; rfl) (tgt := 225) rfl ?_
    refine a_aload_n C dX11_count_225 (i := 0) rfl rfl ?_
    refine a_callVi C (i := 0) kd_0 (hid 0 (by decide)) ⟨_, _, rfl⟩ (by decide) (S_X11_slotsHeld_0_t30 hid hG htx0 htx1) mi_X11_slotsHeld ml_RX11_200 rfl rfl (Nat.le_of_ble_eq_true rfl) (Nat.le_of_ble_eq_true rfl) (Nat.le_of_ble_eq_true rfl) dX11_count_226 (fun z26 σ27 q28 => ?_)
    rw [q28]
    exact a_iret Rt dX11_count_229 rfl (rfl)
  ·
    refine a_tableIn C dX11_count_1 (by omega) (by omega) (by rw [hq]; rfl) (tgt := 230) rfl ?_
    refine a_aload_n C dX11_count_230 (i := 0) rfl rfl ?_
    refine a_aload_n C dX11_count_231 (i := 0) rfl rfl ?_
    refine a_get C fl_RX11_54 (i := 0) kd_0 (hid 0 (by decide)) (v := .ref (ad 56)) rfl dX11_count_232 ?_
    refine s_iconst C dX11_count_235 (0) (by decide) (fun z29 h30 => ?_)
    refine a_callVi C (i := 56) kd_56 (hid 56 (by decide)) ⟨_, _, rfl⟩ (by decide) (S_X0_bitsOf_56 (x1 := z29) hid hG) mi_X0_bitsOf ml_RX11_180 rfl rfl (Nat.le_of_ble_eq_true rfl) (Nat.le_of_ble_eq_true rfl) (Nat.le_of_ble_eq_true rfl) dX11_count_236 (fun z31 σ32 q33 => ?_)
    rw [q33]
    refine a_callVi C (i := 0) kd_0 (hid 0 (by decide)) ⟨_, _, rfl⟩ (by decide) (S_X11_weightsOf_0_t30 (x1 := z31) hid hG htx0 htx1) mi_X11_weightsOf ml_RX11_203 rfl rfl (Nat.le_of_ble_eq_true rfl) (Nat.le_of_ble_eq_true rfl) (Nat.le_of_ble_eq_true rfl) dX11_count_239 (fun z34 σ35 q36 => ?_)
    rw [q36]
    exact a_iret Rt dX11_count_242 rfl (rfl)
  ·
    refine a_tableIn C dX11_count_1 (by omega) (by omega) (by rw [hq]; rfl) (tgt := 243) rfl ?_
    refine a_aload_n C dX11_count_243 (i := 0) rfl rfl ?_
    refine a_aload_n C dX11_count_244 (i := 0) rfl rfl ?_
    refine a_get C fl_RX11_54 (i := 0) kd_0 (hid 0 (by decide)) (v := .ref (ad 56)) rfl dX11_count_245 ?_
    refine s_iconst C dX11_count_248 (2) (by decide) (fun z37 h38 => ?_)
    refine a_callVi C (i := 56) kd_56 (hid 56 (by decide)) ⟨_, _, rfl⟩ (by decide) (S_X0_bitsOf_56 (x1 := z37) hid hG) mi_X0_bitsOf ml_RX11_180 rfl rfl (Nat.le_of_ble_eq_true rfl) (Nat.le_of_ble_eq_true rfl) (Nat.le_of_ble_eq_true rfl) dX11_count_249 (fun z39 σ40 q41 => ?_)
    rw [q41]
    refine a_callVi C (i := 0) kd_0 (hid 0 (by decide)) ⟨_, _, rfl⟩ (by decide) (S_X11_weightsOf_0_t30 (x1 := z39) hid hG htx0 htx1) mi_X11_weightsOf ml_RX11_203 rfl rfl (Nat.le_of_ble_eq_true rfl) (Nat.le_of_ble_eq_true rfl) (Nat.le_of_ble_eq_true rfl) dX11_count_252 (fun z42 σ43 q44 => ?_)
    rw [q44]
    exact a_iret Rt dX11_count_255 rfl (rfl)
  ·
    refine a_tableIn C dX11_count_1 (by omega) (by omega) (by rw [hq]; rfl) (tgt := 256) rfl ?_
    refine a_aload_n C dX11_count_256 (i := 0) rfl rfl ?_
    refine a_get C fl_RX11_54 (i := 0) kd_0 (hid 0 (by decide)) (v := .ref (ad 56)) rfl dX11_count_257 ?_
    refine s_iconst C dX11_count_260 (1) (by decide) (fun z45 h46 => ?_)
    refine a_callVi C (i := 56) kd_56 (hid 56 (by decide)) ⟨_, _, rfl⟩ (by decide) (S_X0_bitsOf_56 (x1 := z45) hid hG) mi_X0_bitsOf ml_RX11_180 rfl rfl (Nat.le_of_ble_eq_true rfl) (Nat.le_of_ble_eq_true rfl) (Nat.le_of_ble_eq_true rfl) dX11_count_261 (fun z47 σ48 q49 => ?_)
    rw [q49]
    exact a_iret Rt dX11_count_264 rfl (rfl)
