set_option maxHeartbeats 4000000 in
set_option maxRecDepth 100000 in
theorem S_X11_hold_0_t43_v2 {l : Launch} {D : va_G} {ids : List Nat} {ad : Nat → Nat} {ca : Nat → ClassId} {σ : HS} {x1 : Int32} (hid : ∀ i, i < 277 → i ∈ ids) (hG : GIc σ) (htx0 : σ.2.2 0 = 43) (htx1 : σ.2.2 1 = 30) (hx1 : 2 ≤ x1.toInt ∧ x1.toInt ≤ 2) : Ki l D ids ad ca yX11_hold cX11_hold 2 .boolean 2 81 [.ref (ad 0), .int x1] σ (fun r σ1 => (GIc σ1) ∧ (ony [26, 72, 73, 74, 75] σ σ1) ∧ (0 ≤ r.toInt ∧ r.toInt ≤ 1)) := by
  refine Ki.of (by decide) (Nat.le_of_ble_eq_true rfl) 0 (fun Γ C Rt => ?_)
  show AW ids ad ca Γ 0 [some (.ref (ad 0)), some (.int x1)] [] σ
  refine a_iload_n C dX11_hold_0 (i := 1) rfl rfl ?_
  refine s_if_lt C dX11_hold_1 (tgt := 9) rfl (fun c1 => absurd c1 (by omega)) (fun c1 => ?_)
  refine a_iload_n C dX11_hold_4 (i := 1) rfl rfl ?_
  refine s_iconst C dX11_hold_5 (3) (by decide) (fun z2 h3 => ?_)
  refine s_ic_lt C dX11_hold_6 (tgt := 11) rfl (fun c4 => ?_) (fun c4 => absurd c4 (by omega))
  refine a_aload_n C dX11_hold_11 (i := 0) rfl rfl ?_
  refine a_get C fl_RX11_61 (i := 0) kd_0 (hid 0 (by decide)) (v := .ref (ad 25)) rfl dX11_hold_12 ?_
  refine a_iload_n C dX11_hold_15 (i := 1) rfl rfl ?_
  refine s_aaldc C (i := 25) (y := 72) 2 (by omega) (Or.inr kd_25) (hid 25 (by decide)) (by rw [al_25]; decide) (by rw [kd_25]; rfl) dX11_hold_16 ?_
  refine a_aload_n C dX11_hold_17 (i := 0) rfl rfl ?_
  refine a_get C fl_RX11_54 (i := 0) kd_0 (hid 0 (by decide)) (v := .ref (ad 56)) rfl dX11_hold_18 ?_
  refine a_callVv C (i := 72) (n0 := 0) kd_72 (hid 72 (by decide)) ⟨_, _, rfl⟩ (by decide) (S_copy 0 4 rfl rfl (by decide) (by decide) hid hG) mi_X0_copy ml_RX11_230 rfl rfl (Nat.le_of_ble_eq_true rfl) (Nat.le_of_ble_eq_true rfl) (Nat.le_of_ble_eq_true rfl) dX11_hold_21 (fun σ5 q6 => ?_)
  obtain ⟨hG7, ho8⟩ := q6
  refine a_aload_n C dX11_hold_24 (i := 0) rfl rfl ?_
  refine a_get C fl_RX11_65 (i := 0) kd_0 (hid 0 (by decide)) (v := .ref (ad 26)) rfl dX11_hold_25 ?_
  refine a_iload_n C dX11_hold_28 (i := 1) rfl rfl ?_
  refine s_iconst C dX11_hold_29 (1) (by decide) (fun z9 h10 => ?_)
  refine s_zast C (i := 26) (nar_v (by omega)) kd_26 (hid 26 (by decide)) al_26 (by omega) (by omega) dX11_hold_30 (fun n11 h12 => ?_)
  have hG13 := wA_26 (v := z9) (j := n11) hG7
  refine s_iconst C dX11_hold_31 (1) (by decide) (fun z14 h15 => ?_)
  exact a_iret Rt dX11_hold_32 (nar_z (by omega)).1 (⟨hG13, (ony.I (ony.tr ony.rf (ony.mono ho8 (by decide))) (by decide)), (show 0 ≤ z14.toInt ∧ z14.toInt ≤ 1 by intros; omega)⟩)
set_option maxHeartbeats 4000000 in
set_option maxRecDepth 100000 in
theorem S_X11_hold_0_t43_lo {l : Launch} {D : va_G} {ids : List Nat} {ad : Nat → Nat} {ca : Nat → ClassId} {σ : HS} {x1 : Int32} (hid : ∀ i, i < 277 → i ∈ ids) (hG : GIc σ) (htx0 : σ.2.2 0 = 43) (htx1 : σ.2.2 1 = 30) (hx1 : x1.toInt ≤ -1) : Ki l D ids ad ca yX11_hold cX11_hold 2 .boolean 0 0 [.ref (ad 0), .int x1] σ (fun r σ1 => (σ1 = σ) ∧ (0 ≤ r.toInt ∧ r.toInt ≤ 1)) := by
  refine Ki.of (by decide) (Nat.le_of_ble_eq_true rfl) 0 (fun Γ C Rt => ?_)
  show AW ids ad ca Γ 0 [some (.ref (ad 0)), some (.int x1)] [] σ
  refine a_iload_n C dX11_hold_0 (i := 1) rfl rfl ?_
  refine s_if_lt C dX11_hold_1 (tgt := 9) rfl (fun c1 => ?_) (fun c1 => absurd c1 (by omega))
  refine s_iconst C dX11_hold_9 (0) (by decide) (fun z2 h3 => ?_)
  exact a_iret Rt dX11_hold_10 (nar_z (by omega)).1 (⟨rfl, (show 0 ≤ z2.toInt ∧ z2.toInt ≤ 1 by intros; omega)⟩)
set_option maxHeartbeats 4000000 in
set_option maxRecDepth 100000 in
theorem S_X11_hold_0_t43_hi {l : Launch} {D : va_G} {ids : List Nat} {ad : Nat → Nat} {ca : Nat → ClassId} {σ : HS} {x1 : Int32} (hid : ∀ i, i < 277 → i ∈ ids) (hG : GIc σ) (htx0 : σ.2.2 0 = 43) (htx1 : σ.2.2 1 = 30) (hx1 : 3 ≤ x1.toInt) : Ki l D ids ad ca yX11_hold cX11_hold 2 .boolean 0 0 [.ref (ad 0), .int x1] σ (fun r σ1 => (σ1 = σ) ∧ (0 ≤ r.toInt ∧ r.toInt ≤ 1)) := by
  refine Ki.of (by decide) (Nat.le_of_ble_eq_true rfl) 0 (fun Γ C Rt => ?_)
  show AW ids ad ca Γ 0 [some (.ref (ad 0)), some (.int x1)] [] σ
  refine a_iload_n C dX11_hold_0 (i := 1) rfl rfl ?_
  refine s_if_lt C dX11_hold_1 (tgt := 9) rfl (fun c1 => absurd c1 (by omega)) (fun c1 => ?_)
  refine a_iload_n C dX11_hold_4 (i := 1) rfl rfl ?_
  refine s_iconst C dX11_hold_5 (3) (by decide) (fun z2 h3 => ?_)
  refine s_ic_lt C dX11_hold_6 (tgt := 11) rfl (fun c4 => absurd c4 (by omega)) (fun c4 => ?_)
  refine s_iconst C dX11_hold_9 (0) (by decide) (fun z5 h6 => ?_)
  exact a_iret Rt dX11_hold_10 (nar_z (by omega)).1 (⟨rfl, (show 0 ≤ z5.toInt ∧ z5.toInt ≤ 1 by intros; omega)⟩)
set_option maxHeartbeats 4000000 in
set_option maxRecDepth 100000 in
theorem S_X11_restore_0_t43_v0 {l : Launch} {D : va_G} {ids : List Nat} {ad : Nat → Nat} {ca : Nat → ClassId} {σ : HS} {x1 : Int32} (hid : ∀ i, i < 277 → i ∈ ids) (hG : GIc σ) (htx0 : σ.2.2 0 = 43) (htx1 : σ.2.2 1 = 30) (hx1 : 0 ≤ x1.toInt ∧ x1.toInt ≤ 0) : Ki l D ids ad ca yX11_restore cX11_restore 2 .boolean 2 81 [.ref (ad 0), .int x1] σ (fun r σ1 => (GIc σ1) ∧ (ony [12, 56, 57, 58, 59] σ σ1) ∧ (0 ≤ r.toInt ∧ r.toInt ≤ 1)) := by
  refine Ki.of (by decide) (Nat.le_of_ble_eq_true rfl) 0 (fun Γ C Rt => ?_)
  show AW ids ad ca Γ 0 [some (.ref (ad 0)), some (.int x1)] [] σ
  refine a_iload_n C dX11_restore_0 (i := 1) rfl rfl ?_
  refine s_if_lt C dX11_restore_1 (tgt := 18) rfl (fun c1 => absurd c1 (by omega)) (fun c1 => ?_)
  refine a_iload_n C dX11_restore_4 (i := 1) rfl rfl ?_
  refine s_iconst C dX11_restore_5 (3) (by decide) (fun z2 h3 => ?_)
  refine s_ic_ge C dX11_restore_6 (tgt := 18) rfl (fun c4 => absurd c4 (by omega)) (fun c4 => ?_)
  refine a_aload_n C dX11_restore_9 (i := 0) rfl rfl ?_
  refine a_get C fl_RX11_65 (i := 0) kd_0 (hid 0 (by decide)) (v := .ref (ad 26)) rfl dX11_restore_10 ?_
  refine a_iload_n C dX11_restore_13 (i := 1) rfl rfl ?_
  refine s_zald C (i := 26) kd_26 (hid 26 (by decide)) al_26 (by omega) (by omega) dX11_restore_14 (fun n5 h6 => ?_)
  refine s_val (fun z7 e8 => ?_)
  refine s_if_ne C dX11_restore_15 (tgt := 20) rfl (fun c9 => ?_) (fun c9 => ?_)
  ·
    refine a_aload_n C dX11_restore_20 (i := 0) rfl rfl ?_
    refine a_get C fl_RX11_54 (i := 0) kd_0 (hid 0 (by decide)) (v := .ref (ad 56)) rfl dX11_restore_21 ?_
    refine a_aload_n C dX11_restore_24 (i := 0) rfl rfl ?_
    refine a_get C fl_RX11_61 (i := 0) kd_0 (hid 0 (by decide)) (v := .ref (ad 25)) rfl dX11_restore_25 ?_
    refine a_iload_n C dX11_restore_28 (i := 1) rfl rfl ?_
    refine s_aaldc C (i := 25) (y := 64) 0 (by omega) (Or.inr kd_25) (hid 25 (by decide)) (by rw [al_25]; decide) (by rw [kd_25]; rfl) dX11_restore_29 ?_
    refine a_callVv C (i := 56) (n0 := 0) kd_56 (hid 56 (by decide)) ⟨_, _, rfl⟩ (by decide) (S_copy 2 0 rfl rfl (by decide) (by decide) hid hG) mi_X0_copy ml_RX11_230 rfl rfl (Nat.le_of_ble_eq_true rfl) (Nat.le_of_ble_eq_true rfl) (Nat.le_of_ble_eq_true rfl) dX11_restore_30 (fun σ10 q11 => ?_)
    obtain ⟨hG12, ho13⟩ := q11
    refine a_aload_n C dX11_restore_33 (i := 0) rfl rfl ?_
    refine a_get C fl_RX11_26 (i := 0) kd_0 (hid 0 (by decide)) (v := .ref (ad 12)) rfl dX11_restore_34 ?_
    refine a_callVv C (i := 12) kd_12 (hid 12 (by decide)) ⟨_, _, rfl⟩ (by decide) (S_X5_clear_12 hid hG12) mi_X5_clear ml_RX11_114 rfl rfl (Nat.le_of_ble_eq_true rfl) (Nat.le_of_ble_eq_true rfl) (Nat.le_of_ble_eq_true rfl) dX11_restore_37 (fun σ15 q16 => ?_)
    obtain ⟨hG17, ho18⟩ := q16
    refine s_iconst C dX11_restore_40 (1) (by decide) (fun z20 h21 => ?_)
    exact a_iret Rt dX11_restore_41 (nar_z (by omega)).1 (⟨hG17, (ony.tr (ony.tr ony.rf (ony.mono ho13 (by decide))) (ony.mono ho18 (by decide))), (show 0 ≤ z20.toInt ∧ z20.toInt ≤ 1 by intros; omega)⟩)
  ·
    refine s_iconst C dX11_restore_18 (0) (by decide) (fun z22 h23 => ?_)
    exact a_iret Rt dX11_restore_19 (nar_z (by omega)).1 (⟨hG, ony.rf, (show 0 ≤ z22.toInt ∧ z22.toInt ≤ 1 by intros; omega)⟩)
set_option maxHeartbeats 4000000 in
set_option maxRecDepth 100000 in
theorem S_X11_restore_0_t43_v1 {l : Launch} {D : va_G} {ids : List Nat} {ad : Nat → Nat} {ca : Nat → ClassId} {σ : HS} {x1 : Int32} (hid : ∀ i, i < 277 → i ∈ ids) (hG : GIc σ) (htx0 : σ.2.2 0 = 43) (htx1 : σ.2.2 1 = 30) (hx1 : 1 ≤ x1.toInt ∧ x1.toInt ≤ 1) : Ki l D ids ad ca yX11_restore cX11_restore 2 .boolean 2 81 [.ref (ad 0), .int x1] σ (fun r σ1 => (GIc σ1) ∧ (ony [12, 56, 57, 58, 59] σ σ1) ∧ (0 ≤ r.toInt ∧ r.toInt ≤ 1)) := by
  refine Ki.of (by decide) (Nat.le_of_ble_eq_true rfl) 0 (fun Γ C Rt => ?_)
  show AW ids ad ca Γ 0 [some (.ref (ad 0)), some (.int x1)] [] σ
  refine a_iload_n C dX11_restore_0 (i := 1) rfl rfl ?_
  refine s_if_lt C dX11_restore_1 (tgt := 18) rfl (fun c1 => absurd c1 (by omega)) (fun c1 => ?_)
  refine a_iload_n C dX11_restore_4 (i := 1) rfl rfl ?_
  refine s_iconst C dX11_restore_5 (3) (by decide) (fun z2 h3 => ?_)
  refine s_ic_ge C dX11_restore_6 (tgt := 18) rfl (fun c4 => absurd c4 (by omega)) (fun c4 => ?_)
  refine a_aload_n C dX11_restore_9 (i := 0) rfl rfl ?_
  refine a_get C fl_RX11_65 (i := 0) kd_0 (hid 0 (by decide)) (v := .ref (ad 26)) rfl dX11_restore_10 ?_
  refine a_iload_n C dX11_restore_13 (i := 1) rfl rfl ?_
  refine s_zald C (i := 26) kd_26 (hid 26 (by decide)) al_26 (by omega) (by omega) dX11_restore_14 (fun n5 h6 => ?_)
  refine s_val (fun z7 e8 => ?_)
  refine s_if_ne C dX11_restore_15 (tgt := 20) rfl (fun c9 => ?_) (fun c9 => ?_)
  ·
    refine a_aload_n C dX11_restore_20 (i := 0) rfl rfl ?_
    refine a_get C fl_RX11_54 (i := 0) kd_0 (hid 0 (by decide)) (v := .ref (ad 56)) rfl dX11_restore_21 ?_
    refine a_aload_n C dX11_restore_24 (i := 0) rfl rfl ?_
    refine a_get C fl_RX11_61 (i := 0) kd_0 (hid 0 (by decide)) (v := .ref (ad 25)) rfl dX11_restore_25 ?_
    refine a_iload_n C dX11_restore_28 (i := 1) rfl rfl ?_
    refine s_aaldc C (i := 25) (y := 68) 1 (by omega) (Or.inr kd_25) (hid 25 (by decide)) (by rw [al_25]; decide) (by rw [kd_25]; rfl) dX11_restore_29 ?_
    refine a_callVv C (i := 56) (n0 := 0) kd_56 (hid 56 (by decide)) ⟨_, _, rfl⟩ (by decide) (S_copy 3 0 rfl rfl (by decide) (by decide) hid hG) mi_X0_copy ml_RX11_230 rfl rfl (Nat.le_of_ble_eq_true rfl) (Nat.le_of_ble_eq_true rfl) (Nat.le_of_ble_eq_true rfl) dX11_restore_30 (fun σ10 q11 => ?_)
    obtain ⟨hG12, ho13⟩ := q11
    refine a_aload_n C dX11_restore_33 (i := 0) rfl rfl ?_
    refine a_get C fl_RX11_26 (i := 0) kd_0 (hid 0 (by decide)) (v := .ref (ad 12)) rfl dX11_restore_34 ?_
    refine a_callVv C (i := 12) kd_12 (hid 12 (by decide)) ⟨_, _, rfl⟩ (by decide) (S_X5_clear_12 hid hG12) mi_X5_clear ml_RX11_114 rfl rfl (Nat.le_of_ble_eq_true rfl) (Nat.le_of_ble_eq_true rfl) (Nat.le_of_ble_eq_true rfl) dX11_restore_37 (fun σ15 q16 => ?_)
    obtain ⟨hG17, ho18⟩ := q16
    refine s_iconst C dX11_restore_40 (1) (by decide) (fun z20 h21 => ?_)
    exact a_iret Rt dX11_restore_41 (nar_z (by omega)).1 (⟨hG17, (ony.tr (ony.tr ony.rf (ony.mono ho13 (by decide))) (ony.mono ho18 (by decide))), (show 0 ≤ z20.toInt ∧ z20.toInt ≤ 1 by intros; omega)⟩)
  ·
    refine s_iconst C dX11_restore_18 (0) (by decide) (fun z22 h23 => ?_)
    exact a_iret Rt dX11_restore_19 (nar_z (by omega)).1 (⟨hG, ony.rf, (show 0 ≤ z22.toInt ∧ z22.toInt ≤ 1 by intros; omega)⟩)
set_option maxHeartbeats 4000000 in
set_option maxRecDepth 100000 in
theorem S_X11_restore_0_t43_v2 {l : Launch} {D : va_G} {ids : List Nat} {ad : Nat → Nat} {ca : Nat → ClassId} {σ : HS} {x1 : Int32} (hid : ∀ i, i < 277 → i ∈ ids) (hG : GIc σ) (htx0 : σ.2.2 0 = 43) (htx1 : σ.2.2 1 = 30) (hx1 : 2 ≤ x1.toInt ∧ x1.toInt ≤ 2) : Ki l D ids ad ca yX11_restore cX11_restore 2 .boolean 2 81 [.ref (ad 0), .int x1] σ (fun r σ1 => (GIc σ1) ∧ (ony [12, 56, 57, 58, 59] σ σ1) ∧ (0 ≤ r.toInt ∧ r.toInt ≤ 1)) := by
  refine Ki.of (by decide) (Nat.le_of_ble_eq_true rfl) 0 (fun Γ C Rt => ?_)
  show AW ids ad ca Γ 0 [some (.ref (ad 0)), some (.int x1)] [] σ
  refine a_iload_n C dX11_restore_0 (i := 1) rfl rfl ?_
  refine s_if_lt C dX11_restore_1 (tgt := 18) rfl (fun c1 => absurd c1 (by omega)) (fun c1 => ?_)
  refine a_iload_n C dX11_restore_4 (i := 1) rfl rfl ?_
  refine s_iconst C dX11_restore_5 (3) (by decide) (fun z2 h3 => ?_)
  refine s_ic_ge C dX11_restore_6 (tgt := 18) rfl (fun c4 => absurd c4 (by omega)) (fun c4 => ?_)
  refine a_aload_n C dX11_restore_9 (i := 0) rfl rfl ?_
  refine a_get C fl_RX11_65 (i := 0) kd_0 (hid 0 (by decide)) (v := .ref (ad 26)) rfl dX11_restore_10 ?_
  refine a_iload_n C dX11_restore_13 (i := 1) rfl rfl ?_
  refine s_zald C (i := 26) kd_26 (hid 26 (by decide)) al_26 (by omega) (by omega) dX11_restore_14 (fun n5 h6 => ?_)
  refine s_val (fun z7 e8 => ?_)
  refine s_if_ne C dX11_restore_15 (tgt := 20) rfl (fun c9 => ?_) (fun c9 => ?_)
  ·
    refine a_aload_n C dX11_restore_20 (i := 0) rfl rfl ?_
    refine a_get C fl_RX11_54 (i := 0) kd_0 (hid 0 (by decide)) (v := .ref (ad 56)) rfl dX11_restore_21 ?_
    refine a_aload_n C dX11_restore_24 (i := 0) rfl rfl ?_
    refine a_get C fl_RX11_61 (i := 0) kd_0 (hid 0 (by decide)) (v := .ref (ad 25)) rfl dX11_restore_25 ?_
    refine a_iload_n C dX11_restore_28 (i := 1) rfl rfl ?_
    refine s_aaldc C (i := 25) (y := 72) 2 (by omega) (Or.inr kd_25) (hid 25 (by decide)) (by rw [al_25]; decide) (by rw [kd_25]; rfl) dX11_restore_29 ?_
    refine a_callVv C (i := 56) (n0 := 0) kd_56 (hid 56 (by decide)) ⟨_, _, rfl⟩ (by decide) (S_copy 4 0 rfl rfl (by decide) (by decide) hid hG) mi_X0_copy ml_RX11_230 rfl rfl (Nat.le_of_ble_eq_true rfl) (Nat.le_of_ble_eq_true rfl) (Nat.le_of_ble_eq_true rfl) dX11_restore_30 (fun σ10 q11 => ?_)
    obtain ⟨hG12, ho13⟩ := q11
    refine a_aload_n C dX11_restore_33 (i := 0) rfl rfl ?_
    refine a_get C fl_RX11_26 (i := 0) kd_0 (hid 0 (by decide)) (v := .ref (ad 12)) rfl dX11_restore_34 ?_
    refine a_callVv C (i := 12) kd_12 (hid 12 (by decide)) ⟨_, _, rfl⟩ (by decide) (S_X5_clear_12 hid hG12) mi_X5_clear ml_RX11_114 rfl rfl (Nat.le_of_ble_eq_true rfl) (Nat.le_of_ble_eq_true rfl) (Nat.le_of_ble_eq_true rfl) dX11_restore_37 (fun σ15 q16 => ?_)
    obtain ⟨hG17, ho18⟩ := q16
    refine s_iconst C dX11_restore_40 (1) (by decide) (fun z20 h21 => ?_)
    exact a_iret Rt dX11_restore_41 (nar_z (by omega)).1 (⟨hG17, (ony.tr (ony.tr ony.rf (ony.mono ho13 (by decide))) (ony.mono ho18 (by decide))), (show 0 ≤ z20.toInt ∧ z20.toInt ≤ 1 by intros; omega)⟩)
  ·
    refine s_iconst C dX11_restore_18 (0) (by decide) (fun z22 h23 => ?_)
    exact a_iret Rt dX11_restore_19 (nar_z (by omega)).1 (⟨hG, ony.rf, (show 0 ≤ z22.toInt ∧ z22.toInt ≤ 1 by intros; omega)⟩)
set_option maxHeartbeats 4000000 in
set_option maxRecDepth 100000 in
theorem S_X11_restore_0_t43_lo {l : Launch} {D : va_G} {ids : List Nat} {ad : Nat → Nat} {ca : Nat → ClassId} {σ : HS} {x1 : Int32} (hid : ∀ i, i < 277 → i ∈ ids) (hG : GIc σ) (htx0 : σ.2.2 0 = 43) (htx1 : σ.2.2 1 = 30) (hx1 : x1.toInt ≤ -1) : Ki l D ids ad ca yX11_restore cX11_restore 2 .boolean 0 0 [.ref (ad 0), .int x1] σ (fun r σ1 => (σ1 = σ) ∧ (0 ≤ r.toInt ∧ r.toInt ≤ 1)) := by
  refine Ki.of (by decide) (Nat.le_of_ble_eq_true rfl) 0 (fun Γ C Rt => ?_)
  show AW ids ad ca Γ 0 [some (.ref (ad 0)), some (.int x1)] [] σ
  refine a_iload_n C dX11_restore_0 (i := 1) rfl rfl ?_
  refine s_if_lt C dX11_restore_1 (tgt := 18) rfl (fun c1 => ?_) (fun c1 => absurd c1 (by omega))
  refine s_iconst C dX11_restore_18 (0) (by decide) (fun z2 h3 => ?_)
  exact a_iret Rt dX11_restore_19 (nar_z (by omega)).1 (⟨rfl, (show 0 ≤ z2.toInt ∧ z2.toInt ≤ 1 by intros; omega)⟩)
set_option maxHeartbeats 4000000 in
set_option maxRecDepth 100000 in
theorem S_X11_restore_0_t43_hi {l : Launch} {D : va_G} {ids : List Nat} {ad : Nat → Nat} {ca : Nat → ClassId} {σ : HS} {x1 : Int32} (hid : ∀ i, i < 277 → i ∈ ids) (hG : GIc σ) (htx0 : σ.2.2 0 = 43) (htx1 : σ.2.2 1 = 30) (hx1 : 3 ≤ x1.toInt) : Ki l D ids ad ca yX11_restore cX11_restore 2 .boolean 0 0 [.ref (ad 0), .int x1] σ (fun r σ1 => (σ1 = σ) ∧ (0 ≤ r.toInt ∧ r.toInt ≤ 1)) := by
  refine Ki.of (by decide) (Nat.le_of_ble_eq_true rfl) 0 (fun Γ C Rt => ?_)
  show AW ids ad ca Γ 0 [some (.ref (ad 0)), some (.int x1)] [] σ
  refine a_iload_n C dX11_restore_0 (i := 1) rfl rfl ?_
  refine s_if_lt C dX11_restore_1 (tgt := 18) rfl (fun c1 => absurd c1 (by omega)) (fun c1 => ?_)
  refine a_iload_n C dX11_restore_4 (i := 1) rfl rfl ?_
  refine s_iconst C dX11_restore_5 (3) (by decide) (fun z2 h3 => ?_)
  refine s_ic_ge C dX11_restore_6 (tgt := 18) rfl (fun c4 => ?_) (fun c4 => absurd c4 (by omega))
  refine s_iconst C dX11_restore_18 (0) (by decide) (fun z5 h6 => ?_)
  exact a_iret Rt dX11_restore_19 (nar_z (by omega)).1 (⟨rfl, (show 0 ≤ z5.toInt ∧ z5.toInt ≤ 1 by intros; omega)⟩)
set_option maxHeartbeats 4000000 in
set_option maxRecDepth 100000 in
theorem S_X11_place_0_t43 {l : Launch} {D : va_G} {ids : List Nat} {ad : Nat → Nat} {ca : Nat → ClassId} {σ : HS} (hid : ∀ i, i < 277 → i ∈ ids) (hG : GIc σ) (htx0 : σ.2.2 0 = 43) (htx1 : σ.2.2 1 = 30) : Ki l D ids ad ca yX11_place cX11_place 1 .int 0 0 [.ref (ad 0)] σ (fun r σ1 => (σ1 = σ)) := by
  refine Ki.of (by decide) (Nat.le_of_ble_eq_true rfl) 0 (fun Γ C Rt => ?_)
  show AW ids ad ca Γ 0 [some (.ref (ad 0))] [] σ
  refine a_aload_n C dX11_place_0 (i := 0) rfl rfl ?_
  refine a_get C fl_RX11_10 (i := 0) kd_0 (hid 0 (by decide)) (v := .ref (ad 1)) rfl dX11_place_1 ?_
  refine a_get C fl_RX11_118 (i := 1) kd_1 (hid 1 (by decide)) (v := .int (σ.1 1 1)) rfl dX11_place_4 ?_
  exact a_iret Rt dX11_place_7 rfl (rfl)
set_option maxHeartbeats 4000000 in
set_option maxRecDepth 100000 in
theorem S_X11_thing_0_t43 {l : Launch} {D : va_G} {ids : List Nat} {ad : Nat → Nat} {ca : Nat → ClassId} {σ : HS} {x1 : Int32} {x2 : Int32} (hid : ∀ i, i < 277 → i ∈ ids) (hG : GIc σ) (htx0 : σ.2.2 0 = 43) (htx1 : σ.2.2 1 = 30) : Ki l D ids ad ca yX11_thing cX11_thing 3 .int 1 21 [.ref (ad 0), .int x1, .int x2] σ (fun r σ1 => (σ1 = σ)) := by
  refine Ki.of (by decide) (Nat.le_of_ble_eq_true rfl) 0 (fun Γ C Rt => ?_)
  show AW ids ad ca Γ 0 [some (.ref (ad 0)), some (.int x1), some (.int x2)] [] σ
  refine a_aload_n C dX11_thing_0 (i := 0) rfl rfl ?_
  refine a_get C fl_RX11_82 (i := 0) kd_0 (hid 0 (by decide)) (v := .ref (ad 43)) (congrArg (fun z => some (Value.ref (ad z))) htx0) dX11_thing_1 ?_
  refine a_iload_n C dX11_thing_4 (i := 1) rfl rfl ?_
  refine a_callVi C (i := 43) kd_43 (hid 43 (by decide)) ⟨_, _, rfl⟩ (by decide) (S_X10_hasThing_43 (x1 := x1) hid hG) mi_X10_hasThing ml_RX11_121 rfl rfl (Nat.le_of_ble_eq_true rfl) (Nat.le_of_ble_eq_true rfl) (Nat.le_of_ble_eq_true rfl) dX11_thing_5 (fun z1 σ2 q3 => ?_)
  obtain ⟨w4, w5, w6⟩ := q3
  rw [w4]
  refine s_if_ne C dX11_thing_8 (tgt := 13) rfl (fun c7 => ?_) (fun c7 => ?_)
  ·
    refine a_iload_n C dX11_thing_13 (i := 2) rfl rfl ?_
    by_cases hsw : x2.toInt < 0 ∨ 4 < x2.toInt
    ·
      refine a_tableOut C dX11_thing_14 hsw (tgt := 114) rfl ?_
      refine s_iconst C dX11_thing_114 (-1) (by decide) (fun z8 h9 => ?_)
      exact a_iret Rt dX11_thing_115 rfl (rfl)
    rcases (show x2.toInt = 0 ∨ x2.toInt = 1 ∨ x2.toInt = 2 ∨ x2.toInt = 3 ∨ x2.toInt = 4 by omega) with hq | hq | hq | hq | hq
    ·
      refine a_tableIn C dX11_thing_14 (by omega) (by omega) (by rw [hq]; rfl) (tgt := 48) rfl ?_
      refine a_aload_n C dX11_thing_48 (i := 0) rfl rfl ?_
      refine a_get C fl_RX11_82 (i := 0) kd_0 (hid 0 (by decide)) (v := .ref (ad 43)) (congrArg (fun z => some (Value.ref (ad z))) htx0) dX11_thing_49 ?_
      refine a_get C fl_RX11_125 (i := 43) kd_43 (hid 43 (by decide)) (v := .ref (ad 44)) rfl dX11_thing_52 ?_
      refine a_iload_n C dX11_thing_55 (i := 1) rfl rfl ?_
      refine s_iald C (i := 44) kd_44 (hid 44 (by decide)) al_44 (by omega) (by omega) dX11_thing_56 (fun n10 h11 => ?_)
      refine s_val (fun z12 e13 => ?_)
      exact a_iret Rt dX11_thing_57 rfl (rfl)
    ·
      refine a_tableIn C dX11_thing_14 (by omega) (by omega) (by rw [hq]; rfl) (tgt := 58) rfl ?_
      refine a_aload_n C dX11_thing_58 (i := 0) rfl rfl ?_
      refine a_get C fl_RX11_82 (i := 0) kd_0 (hid 0 (by decide)) (v := .ref (ad 43)) (congrArg (fun z => some (Value.ref (ad z))) htx0) dX11_thing_59 ?_
      refine a_get C fl_RX11_128 (i := 43) kd_43 (hid 43 (by decide)) (v := .ref (ad 45)) rfl dX11_thing_62 ?_
      refine a_iload_n C dX11_thing_65 (i := 1) rfl rfl ?_
      refine s_iald C (i := 45) kd_45 (hid 45 (by decide)) al_45 (by omega) (by omega) dX11_thing_66 (fun n14 h15 => ?_)
      refine s_val (fun z16 e17 => ?_)
      exact a_iret Rt dX11_thing_67 rfl (rfl)
    ·
      refine a_tableIn C dX11_thing_14 (by omega) (by omega) (by rw [hq]; rfl) (tgt := 68) rfl ?_
      refine a_aload_n C dX11_thing_68 (i := 0) rfl rfl ?_
      refine a_get C fl_RX11_54 (i := 0) kd_0 (hid 0 (by decide)) (v := .ref (ad 56)) rfl dX11_thing_69 ?_
      refine a_get C fl_RX11_131 (i := 56) kd_56 (hid 56 (by decide)) (v := .ref (ad 57)) rfl dX11_thing_72 ?_
      refine a_iload_n C dX11_thing_75 (i := 1) rfl rfl ?_
      refine s_iald C (i := 57) kd_57 (hid 57 (by decide)) al_57 (by omega) (by omega) dX11_thing_76 (fun n18 h19 => ?_)
      refine s_val (fun z20 e21 => ?_)
      exact a_iret Rt dX11_thing_77 rfl (rfl)
    ·
      refine a_tableIn C dX11_thing_14 (by omega) (by omega) (by rw [hq]; rfl) (tgt := 78) rfl ?_
      refine a_aload_n C dX11_thing_78 (i := 0) rfl rfl ?_
      refine a_get C fl_RX11_54 (i := 0) kd_0 (hid 0 (by decide)) (v := .ref (ad 56)) rfl dX11_thing_79 ?_
      refine a_iload_n C dX11_thing_82 (i := 1) rfl rfl ?_
      refine a_callVi C (i := 56) kd_56 (hid 56 (by decide)) ⟨_, _, rfl⟩ (by decide) (S_X0_isUp_56 (x1 := x1) hid hG (by omega)) mi_X0_isUp ml_RX11_134 rfl rfl (Nat.le_of_ble_eq_true rfl) (Nat.le_of_ble_eq_true rfl) (Nat.le_of_ble_eq_true rfl) dX11_thing_83 (fun z22 σ23 q24 => ?_)
      obtain ⟨w25, w26⟩ := q24
      rw [w25]
      refine s_if_eq C dX11_thing_86 (tgt := 101) rfl (fun c27 => ?_) (fun c27 => ?_)
      ·
        refine s_bipush C dX11_thing_101 (-2) (by decide) (fun z28 h29 => ?_)
        exact a_iret Rt dX11_thing_103 rfl (rfl)
      ·
        refine a_aload_n C dX11_thing_89 (i := 0) rfl rfl ?_
        refine a_get C fl_RX11_54 (i := 0) kd_0 (hid 0 (by decide)) (v := .ref (ad 56)) rfl dX11_thing_90 ?_
        refine a_get C fl_RX11_137 (i := 56) kd_56 (hid 56 (by decide)) (v := .ref (ad 58)) rfl dX11_thing_93 ?_
        refine a_iload_n C dX11_thing_96 (i := 1) rfl rfl ?_
        refine s_iald C (i := 58) kd_58 (hid 58 (by decide)) al_58 (by omega) (by omega) dX11_thing_97 (fun n30 h31 => ?_)
        refine s_val (fun z32 e33 => ?_)
        refine a_goto C dX11_thing_98 (tgt := 103) rfl ?_
        exact a_iret Rt dX11_thing_103 rfl (rfl)
    ·
      refine a_tableIn C dX11_thing_14 (by omega) (by omega) (by rw [hq]; rfl) (tgt := 104) rfl ?_
      refine a_aload_n C dX11_thing_104 (i := 0) rfl rfl ?_
      refine a_get C fl_RX11_54 (i := 0) kd_0 (hid 0 (by decide)) (v := .ref (ad 56)) rfl dX11_thing_105 ?_
      refine a_get C fl_RX11_140 (i := 56) kd_56 (hid 56 (by decide)) (v := .ref (ad 59)) rfl dX11_thing_108 ?_
      refine a_iload_n C dX11_thing_111 (i := 1) rfl rfl ?_
      refine s_iald C (i := 59) kd_59 (hid 59 (by decide)) al_59 (by omega) (by omega) dX11_thing_112 (fun n34 h35 => ?_)
      refine s_val (fun z36 e37 => ?_)
      exact a_iret Rt dX11_thing_113 rfl (rfl)
  ·
    refine s_iconst C dX11_thing_11 (-1) (by decide) (fun z38 h39 => ?_)
    exact a_iret Rt dX11_thing_12 rfl (rfl)
set_option maxHeartbeats 4000000 in
set_option maxRecDepth 100000 in
theorem S_X11_pattern_0_t43 {l : Launch} {D : va_G} {ids : List Nat} {ad : Nat → Nat} {ca : Nat → ClassId} {σ : HS} {x1 : Int32} {x2 : Int32} (hid : ∀ i, i < 277 → i ∈ ids) (hG : GIc σ) (htx0 : σ.2.2 0 = 43) (htx1 : σ.2.2 1 = 30) : Ki l D ids ad ca yX11_pattern cX11_pattern 3 .int 1 21 [.ref (ad 0), .int x1, .int x2] σ (fun r σ1 => (σ1 = σ)) := by
  refine Ki.of (by decide) (Nat.le_of_ble_eq_true rfl) 0 (fun Γ C Rt => ?_)
  show AW ids ad ca Γ 0 [some (.ref (ad 0)), some (.int x1), some (.int x2)] [] σ
  refine a_aload_n C dX11_pattern_0 (i := 0) rfl rfl ?_
  refine a_get C fl_RX11_82 (i := 0) kd_0 (hid 0 (by decide)) (v := .ref (ad 43)) (congrArg (fun z => some (Value.ref (ad z))) htx0) dX11_pattern_1 ?_
  refine a_iload_n C dX11_pattern_4 (i := 1) rfl rfl ?_
  refine a_callVi C (i := 43) kd_43 (hid 43 (by decide)) ⟨_, _, rfl⟩ (by decide) (S_X10_hasPattern_43 (x1 := x1) hid hG) mi_X10_hasPattern ml_RX11_143 rfl rfl (Nat.le_of_ble_eq_true rfl) (Nat.le_of_ble_eq_true rfl) (Nat.le_of_ble_eq_true rfl) dX11_pattern_5 (fun z1 σ2 q3 => ?_)
  obtain ⟨w4, w5, w6⟩ := q3
  rw [w4]
  refine s_if_ne C dX11_pattern_8 (tgt := 13) rfl (fun c7 => ?_) (fun c7 => ?_)
  ·
    refine a_iload_n C dX11_pattern_13 (i := 2) rfl rfl ?_
    refine s_iconst C dX11_pattern_14 (-1) (by decide) (fun z8 h9 => ?_)
    refine s_ic_ne C dX11_pattern_15 (tgt := 28) rfl (fun c10 => ?_) (fun c10 => ?_)
    ·
      refine a_iload_n C dX11_pattern_28 (i := 2) rfl rfl ?_
      refine s_if_lt C dX11_pattern_29 (tgt := 59) rfl (fun c11 => ?_) (fun c11 => ?_)
      ·
        refine s_iconst C dX11_pattern_59 (-1) (by decide) (fun z12 h13 => ?_)
        exact a_iret Rt dX11_pattern_60 rfl (rfl)
      ·
        refine a_iload_n C dX11_pattern_32 (i := 2) rfl rfl ?_
        refine a_aload_n C dX11_pattern_33 (i := 0) rfl rfl ?_
        refine a_get C fl_RX11_82 (i := 0) kd_0 (hid 0 (by decide)) (v := .ref (ad 43)) (congrArg (fun z => some (Value.ref (ad z))) htx0) dX11_pattern_34 ?_
        refine a_get C fl_RX11_146 (i := 43) kd_43 (hid 43 (by decide)) (v := .ref (ad 53)) rfl dX11_pattern_37 ?_
        refine a_iload_n C dX11_pattern_40 (i := 1) rfl rfl ?_
        refine s_iald C (i := 53) kd_53 (hid 53 (by decide)) al_53 (by omega) (by omega) dX11_pattern_41 (fun n14 h15 => ?_)
        refine s_val (fun z16 e17 => ?_)
        have g18 := bA_53 hG n14
        rw [e17] at g18
        refine s_ic_ge C dX11_pattern_42 (tgt := 59) rfl (fun c19 => ?_) (fun c19 => ?_)
        ·
          refine s_iconst C dX11_pattern_59 (-1) (by decide) (fun z20 h21 => ?_)
          exact a_iret Rt dX11_pattern_60 rfl (rfl)
        ·
          refine a_aload_n C dX11_pattern_45 (i := 0) rfl rfl ?_
          refine a_get C fl_RX11_82 (i := 0) kd_0 (hid 0 (by decide)) (v := .ref (ad 43)) (congrArg (fun z => some (Value.ref (ad z))) htx0) dX11_pattern_46 ?_
          refine a_get C fl_RX11_149 (i := 43) kd_43 (hid 43 (by decide)) (v := .ref (ad 47)) rfl dX11_pattern_49 ?_
          refine a_iload_n C dX11_pattern_52 (i := 1) rfl rfl ?_
          refine s_aaldH C (i := 47) kd_47 (hid 47 (by decide)) al_47 (by omega) (by omega) dX11_pattern_53 (fun n22 h23 h24 => ?_)
          refine a_iload_n C dX11_pattern_54 (i := 2) rfl rfl ?_
          refine s_iald C (i := (47 + 1 + n22)) (kdH_47 n22 h24).1 (hid _ (kdH_47 n22 h24).2.2) (kdH_47 n22 h24).2.1 (by omega) (by omega) dX11_pattern_55 (fun n25 h26 => ?_)
          refine s_val (fun z27 e28 => ?_)
          have g29 := (bH_47 hG h24) n25
          rw [e28] at g29
          refine a_goto C dX11_pattern_56 (tgt := 60) rfl ?_
          exact a_iret Rt dX11_pattern_60 rfl (rfl)
    ·
      refine a_aload_n C dX11_pattern_18 (i := 0) rfl rfl ?_
      refine a_get C fl_RX11_82 (i := 0) kd_0 (hid 0 (by decide)) (v := .ref (ad 43)) (congrArg (fun z => some (Value.ref (ad z))) htx0) dX11_pattern_19 ?_
      refine a_get C fl_RX11_146 (i := 43) kd_43 (hid 43 (by decide)) (v := .ref (ad 53)) rfl dX11_pattern_22 ?_
      refine a_iload_n C dX11_pattern_25 (i := 1) rfl rfl ?_
      refine s_iald C (i := 53) kd_53 (hid 53 (by decide)) al_53 (by omega) (by omega) dX11_pattern_26 (fun n30 h31 => ?_)
      refine s_val (fun z32 e33 => ?_)
      have g34 := bA_53 hG n30
      rw [e33] at g34
      exact a_iret Rt dX11_pattern_27 rfl (rfl)
  ·
    refine s_iconst C dX11_pattern_11 (-1) (by decide) (fun z35 h36 => ?_)
    exact a_iret Rt dX11_pattern_12 rfl (rfl)
set_option maxHeartbeats 4000000 in
set_option maxRecDepth 100000 in
theorem S_X11_tells_0_t43 {l : Launch} {D : va_G} {ids : List Nat} {ad : Nat → Nat} {ca : Nat → ClassId} {σ : HS} {x1 : Int32} {x2 : Int32} {x3 : Int32} (hid : ∀ i, i < 277 → i ∈ ids) (hG : GIc σ) (htx0 : σ.2.2 0 = 43) (htx1 : σ.2.2 1 = 30) : Ki l D ids ad ca yX11_tells cX11_tells 5 .int 3 74 [.ref (ad 0), .int x1, .int x2, .int x3] σ (fun r σ1 => (GIc σ1) ∧ (ony [9, 10, 11] σ σ1)) := by
  refine Ki.of (by decide) (Nat.le_of_ble_eq_true rfl) 1 (fun Γ C Rt => ?_)
  show AW ids ad ca Γ 0 [some (.ref (ad 0)), some (.int x1), some (.int x2), some (.int x3), none] [] σ
  have j96 : ∀ (σq96 : HS) (u96_0 : Int32) (u96_1 : Int32), GIc σq96 → ony [9, 10, 11] σ σq96 → 0 ≤ u96_1.toInt ∧ u96_1.toInt ≤ 3 → AW ids ad ca Γ 96 [none, none, none, none, none] [.int u96_0, .int u96_1, .ref (ad 43), .ref (ad 8)] σq96 := by
    intro σq96 u96_0 u96_1 hGq96 hoq96 hx96_0
    refine a_callVi C (i := 8) kd_8 (hid 8 (by decide)) ⟨_, _, rfl⟩ (by decide) (S_X4_asks_8_43 (x2 := u96_1) (x3 := u96_0) hid hGq96 (by omega)) mi_X4_asks ml_RX11_164 rfl rfl (Nat.le_of_ble_eq_true rfl) (Nat.le_of_ble_eq_true rfl) (Nat.le_of_ble_eq_true rfl) dX11_tells_96 (fun z1 σ2 q3 => ?_)
    obtain ⟨hG4, ho5⟩ := q3
    exact a_iret Rt dX11_tells_99 rfl (⟨hG4, (ony.tr hoq96 (ony.mono ho5 (by decide)))⟩)
  have j54 : ∀ (σq54 : HS) (y54_4 : Int32), GIc σq54 → ony [9, 10, 11] σ σq54 → 0 ≤ y54_4.toInt ∧ y54_4.toInt ≤ 1 → 0 ≤ x1.toInt ∧ x1.toInt ≤ 6 → 0 ≤ x3.toInt ∧ x3.toInt ≤ 3 → AW ids ad ca Γ 54 [some (.ref (ad 0)), some (.int x1), some (.int x2), some (.int x3), some (.int y54_4)] [] σq54 := by
    intro σq54 y54_4 hGq54 hoq54 hx54_0 hx54_1 hx54_2
    refine a_aload_n C dX11_tells_54 (i := 0) rfl rfl ?_
    refine a_get C fl_RX11_19 (i := 0) kd_0 (hid 0 (by decide)) (v := .ref (ad 8)) rfl dX11_tells_55 ?_
    refine a_aload_n C dX11_tells_58 (i := 0) rfl rfl ?_
    refine a_get C fl_RX11_82 (i := 0) kd_0 (hid 0 (by decide)) (v := .ref (ad 43)) (congrArg (fun z => some (Value.ref (ad z))) ((congrFun hoq54.2 0).trans htx0)) dX11_tells_59 ?_
    refine a_aload_n C dX11_tells_62 (i := 0) rfl rfl ?_
    refine a_get C fl_RX11_54 (i := 0) kd_0 (hid 0 (by decide)) (v := .ref (ad 56)) rfl dX11_tells_63 ?_
    refine a_iload_n C dX11_tells_66 (i := 1) rfl rfl ?_
    refine a_aload_n C dX11_tells_67 (i := 0) rfl rfl ?_
    refine a_get C fl_RX11_54 (i := 0) kd_0 (hid 0 (by decide)) (v := .ref (ad 56)) rfl dX11_tells_68 ?_
    refine a_callVi C (i := 56) kd_56 (hid 56 (by decide)) ⟨_, _, rfl⟩ (by decide) (S_X0_howManyUp_56 hid hGq54) mi_X0_howManyUp ml_RX11_156 rfl rfl (Nat.le_of_ble_eq_true rfl) (Nat.le_of_ble_eq_true rfl) (Nat.le_of_ble_eq_true rfl) dX11_tells_71 (fun z7 σ8 q9 => ?_)
    rw [q9]
    refine a_callVv C (i := 8) kd_8 (hid 8 (by decide)) ⟨_, _, rfl⟩ (by decide) (S_X4_lookAt_8_43_56 (x3 := x1) (x4 := z7) hid hGq54 (by omega)) mi_X4_lookAt ml_RX11_160 rfl rfl (Nat.le_of_ble_eq_true rfl) (Nat.le_of_ble_eq_true rfl) (Nat.le_of_ble_eq_true rfl) dX11_tells_74 (fun σ11 q12 => ?_)
    obtain ⟨hG13, ho14⟩ := q12
    refine a_aload_n C dX11_tells_77 (i := 0) rfl rfl ?_
    refine a_get C fl_RX11_19 (i := 0) kd_0 (hid 0 (by decide)) (v := .ref (ad 8)) rfl dX11_tells_78 ?_
    refine a_aload_n C dX11_tells_81 (i := 0) rfl rfl ?_
    refine a_get C fl_RX11_82 (i := 0) kd_0 (hid 0 (by decide)) (v := .ref (ad 43)) (congrArg (fun z => some (Value.ref (ad z))) ((congrFun ho14.2 0).trans ((congrFun hoq54.2 0).trans htx0))) dX11_tells_82 ?_
    refine a_iload_n C dX11_tells_85 (i := 3) rfl rfl ?_
    refine a_iload C dX11_tells_86 rfl ?_
    refine s_if_eq C dX11_tells_88 (tgt := 95) rfl (fun c16 => ?_) (fun c16 => ?_)
    ·
      refine s_iconst C dX11_tells_95 (0) (by decide) (fun z17 h18 => ?_)
      refine AW.sub (vs' := [none, none, none, none, none]) (lsub_of (by simp [lsubB])) ?_
      exact j96 _ z17 x3 hG13 (ony.tr hoq54 (ony.mono ho14 (by decide))) (by omega)
    ·
      refine a_iload_n C dX11_tells_91 (i := 2) rfl rfl ?_
      refine a_goto C dX11_tells_92 (tgt := 96) rfl ?_
      refine AW.sub (vs' := [none, none, none, none, none]) (lsub_of (by simp [lsubB])) ?_
      exact j96 _ x2 x3 hG13 (ony.tr hoq54 (ony.mono ho14 (by decide))) (by omega)
  have j37 : ∀ (σq37 : HS) (u37_0 : Int32), GIc σq37 → ony [9, 10, 11] σ σq37 → 0 ≤ u37_0.toInt ∧ u37_0.toInt ≤ 1 → 0 ≤ x1.toInt ∧ x1.toInt ≤ 6 → 0 ≤ x3.toInt ∧ x3.toInt ≤ 3 → AW ids ad ca Γ 37 [some (.ref (ad 0)), some (.int x1), some (.int x2), some (.int x3), none] [.int u37_0] σq37 := by
    intro σq37 u37_0 hGq37 hoq37 hx37_0 hx37_1 hx37_2
    refine a_istore C dX11_tells_37 (by decide) rfl (vs1 := [some (.ref (ad 0)), some (.int x1), some (.int x2), some (.int x3), some (.int u37_0)]) rfl ?_
    refine a_iload C dX11_tells_39 rfl ?_
    refine s_if_eq C dX11_tells_41 (tgt := 54) rfl (fun c19 => ?_) (fun c19 => ?_)
    ·
      exact j54 _ u37_0 hGq37 hoq37 (by omega) (by omega) (by omega)
    ·
      refine a_iload_n C dX11_tells_44 (i := 2) rfl rfl ?_
      refine a_callSi C (S_X11_isHeight (x1 := x2) hid hGq37) ms_X11_isHeight ml_RX11_153 rfl rfl (Nat.le_of_ble_eq_true rfl) (Nat.le_of_ble_eq_true rfl) (Nat.le_of_ble_eq_true rfl) dX11_tells_45 (fun z20 σ21 q22 => ?_)
      obtain ⟨w23, w24, w25⟩ := q22
      rw [w23]
      refine s_if_ne C dX11_tells_48 (tgt := 54) rfl (fun c26 => ?_) (fun c26 => ?_)
      ·
        exact j54 _ u37_0 hGq37 hoq37 (by omega) (by omega) (by omega)
      ·
        refine s_bipush C dX11_tells_51 (-100) (by decide) (fun z27 h28 => ?_)
        exact a_iret Rt dX11_tells_53 rfl (⟨hGq37, hoq37⟩)
  have j32 : ∀ (σq32 : HS), GIc σq32 → ony [9, 10, 11] σ σq32 → 0 ≤ x1.toInt ∧ x1.toInt ≤ 6 → 0 ≤ x3.toInt ∧ x3.toInt ≤ 1 → AW ids ad ca Γ 32 [some (.ref (ad 0)), some (.int x1), some (.int x2), some (.int x3), none] [] σq32 := by
    intro σq32 hGq32 hoq32 hx32_0 hx32_1
    refine s_iconst C dX11_tells_32 (1) (by decide) (fun z29 h30 => ?_)
    refine a_goto C dX11_tells_33 (tgt := 37) rfl ?_
    exact j37 _ z29 hGq32 hoq32 (by omega) (by omega) (by omega)
  refine a_aload_n C dX11_tells_0 (i := 0) rfl rfl ?_
  refine a_get C fl_RX11_82 (i := 0) kd_0 (hid 0 (by decide)) (v := .ref (ad 43)) (congrArg (fun z => some (Value.ref (ad z))) htx0) dX11_tells_1 ?_
  refine a_iload_n C dX11_tells_4 (i := 1) rfl rfl ?_
  refine a_callVi C (i := 43) kd_43 (hid 43 (by decide)) ⟨_, _, rfl⟩ (by decide) (S_X10_hasThing_43 (x1 := x1) hid hG) mi_X10_hasThing ml_RX11_121 rfl rfl (Nat.le_of_ble_eq_true rfl) (Nat.le_of_ble_eq_true rfl) (Nat.le_of_ble_eq_true rfl) dX11_tells_5 (fun z31 σ32 q33 => ?_)
  obtain ⟨w34, w35, w36⟩ := q33
  rw [w34]
  refine s_if_eq C dX11_tells_8 (tgt := 20) rfl (fun c37 => ?_) (fun c37 => ?_)
  ·
    refine s_bipush C dX11_tells_20 (-100) (by decide) (fun z38 h39 => ?_)
    exact a_iret Rt dX11_tells_22 rfl (⟨hG, ony.rf⟩)
  ·
    refine a_iload_n C dX11_tells_11 (i := 3) rfl rfl ?_
    refine s_if_lt C dX11_tells_12 (tgt := 20) rfl (fun c40 => ?_) (fun c40 => ?_)
    ·
      refine s_bipush C dX11_tells_20 (-100) (by decide) (fun z41 h42 => ?_)
      exact a_iret Rt dX11_tells_22 rfl (⟨hG, ony.rf⟩)
    ·
      refine a_iload_n C dX11_tells_15 (i := 3) rfl rfl ?_
      refine s_iconst C dX11_tells_16 (3) (by decide) (fun z43 h44 => ?_)
      refine s_ic_le C dX11_tells_17 (tgt := 23) rfl (fun c45 => ?_) (fun c45 => ?_)
      ·
        refine a_iload_n C dX11_tells_23 (i := 3) rfl rfl ?_
        refine s_if_eq C dX11_tells_24 (tgt := 32) rfl (fun c46 => ?_) (fun c46 => ?_)
        ·
          exact j32 _ hG ony.rf (by omega) (by omega)
        ·
          refine a_iload_n C dX11_tells_27 (i := 3) rfl rfl ?_
          refine s_iconst C dX11_tells_28 (1) (by decide) (fun z47 h48 => ?_)
          refine s_ic_ne C dX11_tells_29 (tgt := 36) rfl (fun c49 => ?_) (fun c49 => ?_)
          ·
            refine s_iconst C dX11_tells_36 (0) (by decide) (fun z50 h51 => ?_)
            exact j37 _ z50 hG ony.rf (by omega) (by omega) (by omega)
          ·
            exact j32 _ hG ony.rf (by omega) (by omega)
      ·
        refine s_bipush C dX11_tells_20 (-100) (by decide) (fun z52 h53 => ?_)
        exact a_iret Rt dX11_tells_22 rfl (⟨hG, ony.rf⟩)
set_option maxHeartbeats 4000000 in
set_option maxRecDepth 100000 in
theorem S_X11_slotsHeld_0_t43 {l : Launch} {D : va_G} {ids : List Nat} {ad : Nat → Nat} {ca : Nat → ClassId} {σ : HS} (hid : ∀ i, i < 277 → i ∈ ids) (hG : GIc σ) (htx0 : σ.2.2 0 = 43) (htx1 : σ.2.2 1 = 30) : Ki l D ids ad ca yX11_slotsHeld cX11_slotsHeld 3 .int 0 0 [.ref (ad 0)] σ (fun r σ1 => (σ1 = σ)) := by
  refine Ki.of (by decide) (Nat.le_of_ble_eq_true rfl) 2 (fun Γ C Rt => ?_)
  show AW ids ad ca Γ 0 [some (.ref (ad 0)), none, none] [] σ
  have j4 : ∀ (d4 : Nat) (y4_1 : Int32) (y4_2 : Int32), 3 - y4_2.toInt < d4 → 0 ≤ y4_2.toInt ∧ y4_2.toInt ≤ 3 → AW ids ad ca Γ 4 [some (.ref (ad 0)), some (.int y4_1), some (.int y4_2)] [] σ := by
    intro d4
    induction d4 with
    | zero =>
      intro y4_1 y4_2 hd4 hx4_0
      exfalso
      omega
    | succ d4 ih4 =>
      intro y4_1 y4_2 hd4 hx4_0
      have j21 : ∀ (y21_1 : Int32), 0 ≤ y4_2.toInt ∧ y4_2.toInt ≤ 2 → AW ids ad ca Γ 21 [some (.ref (ad 0)), some (.int y21_1), some (.int y4_2)] [] σ := by
        intro y21_1 hx21_0
        refine s_iinc C dX11_slotsHeld_21 rfl (1) (by decide) (by omega) (by decide) rfl (fun z1 h2 => ?_)
        show AW ids ad ca Γ 24 [some (.ref (ad 0)), some (.int y21_1), some (.int z1)] _ _
        refine a_goto C dX11_slotsHeld_24 (tgt := 4) rfl ?_
        exact ih4 y21_1 z1 (by omega) (by omega)
      refine a_iload_n C dX11_slotsHeld_4 (i := 2) rfl rfl ?_
      refine s_iconst C dX11_slotsHeld_5 (3) (by decide) (fun z3 h4 => ?_)
      refine s_ic_ge C dX11_slotsHeld_6 (tgt := 27) rfl (fun c5 => ?_) (fun c5 => ?_)
      ·
        refine a_iload_n C dX11_slotsHeld_27 (i := 1) rfl rfl ?_
        exact a_iret Rt dX11_slotsHeld_28 rfl (rfl)
      ·
        refine a_aload_n C dX11_slotsHeld_9 (i := 0) rfl rfl ?_
        refine a_get C fl_RX11_65 (i := 0) kd_0 (hid 0 (by decide)) (v := .ref (ad 26)) rfl dX11_slotsHeld_10 ?_
        refine a_iload_n C dX11_slotsHeld_13 (i := 2) rfl rfl ?_
        refine s_zald C (i := 26) kd_26 (hid 26 (by decide)) al_26 (by omega) (by omega) dX11_slotsHeld_14 (fun n6 h7 => ?_)
        refine s_val (fun z8 e9 => ?_)
        refine s_if_eq C dX11_slotsHeld_15 (tgt := 21) rfl (fun c10 => ?_) (fun c10 => ?_)
        ·
          exact j21 y4_1 (by omega)
        ·
          refine s_iincU C dX11_slotsHeld_18 rfl (by decide) rfl (fun z11 => ?_)
          show AW ids ad ca Γ 21 [some (.ref (ad 0)), some (.int z11), some (.int y4_2)] _ _
          exact j21 z11 (by omega)
  refine s_iconst C dX11_slotsHeld_0 (0) (by decide) (fun z13 h14 => ?_)
  refine a_istore_n C dX11_slotsHeld_1 (i := 1) rfl (by decide) rfl (vs1 := [some (.ref (ad 0)), some (.int z13), none]) rfl ?_
  refine s_iconst C dX11_slotsHeld_2 (0) (by decide) (fun z15 h16 => ?_)
  refine a_istore_n C dX11_slotsHeld_3 (i := 2) rfl (by decide) rfl (vs1 := [some (.ref (ad 0)), some (.int z13), some (.int z15)]) rfl ?_
  exact j4 100000 z13 z15 (by omega) (by omega)
set_option maxHeartbeats 4000000 in
set_option maxRecDepth 100000 in
theorem S_X11_weightsOf_0_t43 {l : Launch} {D : va_G} {ids : List Nat} {ad : Nat → Nat} {ca : Nat → ClassId} {σ : HS} {x1 : Int32} (hid : ∀ i, i < 277 → i ∈ ids) (hG : GIc σ) (htx0 : σ.2.2 0 = 43) (htx1 : σ.2.2 1 = 30) : Ki l D ids ad ca yX11_weightsOf cX11_weightsOf 4 .int 0 0 [.ref (ad 0), .int x1] σ (fun r σ1 => (σ1 = σ)) := by
  refine Ki.of (by decide) (Nat.le_of_ble_eq_true rfl) 2 (fun Γ C Rt => ?_)
  show AW ids ad ca Γ 0 [some (.ref (ad 0)), some (.int x1), none, none] [] σ
  have j4 : ∀ (d4 : Nat) (y4_2 : Int32) (y4_3 : Int32), 7 - y4_3.toInt < d4 → 0 ≤ y4_3.toInt ∧ y4_3.toInt ≤ 7 → AW ids ad ca Γ 4 [some (.ref (ad 0)), some (.int x1), some (.int y4_2), some (.int y4_3)] [] σ := by
    intro d4
    induction d4 with
    | zero =>
      intro y4_2 y4_3 hd4 hx4_0
      exfalso
      omega
    | succ d4 ih4 =>
      intro y4_2 y4_3 hd4 hx4_0
      have j36 : ∀ (y36_2 : Int32), 0 ≤ y4_3.toInt ∧ y4_3.toInt ≤ 6 → AW ids ad ca Γ 36 [some (.ref (ad 0)), some (.int x1), some (.int y36_2), some (.int y4_3)] [] σ := by
        intro y36_2 hx36_0
        refine s_iinc C dX11_weightsOf_36 rfl (1) (by decide) (by omega) (by decide) rfl (fun z1 h2 => ?_)
        show AW ids ad ca Γ 39 [some (.ref (ad 0)), some (.int x1), some (.int y36_2), some (.int z1)] _ _
        refine a_goto C dX11_weightsOf_39 (tgt := 4) rfl ?_
        exact ih4 y36_2 z1 (by omega) (by omega)
      refine a_iload_n C dX11_weightsOf_4 (i := 3) rfl rfl ?_
      refine a_aload_n C dX11_weightsOf_5 (i := 0) rfl rfl ?_
      refine a_get C fl_RX11_82 (i := 0) kd_0 (hid 0 (by decide)) (v := .ref (ad 43)) (congrArg (fun z => some (Value.ref (ad z))) htx0) dX11_weightsOf_6 ?_
      have g3 := bF_43_0 hG
      refine a_get C fl_RX11_168 (i := 43) kd_43 (hid 43 (by decide)) (v := .int (σ.1 43 0)) rfl dX11_weightsOf_9 ?_
      refine s_ic_ge C dX11_weightsOf_12 (tgt := 42) rfl (fun c4 => ?_) (fun c4 => ?_)
      ·
        refine a_iload_n C dX11_weightsOf_42 (i := 2) rfl rfl ?_
        exact a_iret Rt dX11_weightsOf_43 rfl (rfl)
      ·
        refine a_iload_n C dX11_weightsOf_15 (i := 1) rfl rfl ?_
        refine a_iload_n C dX11_weightsOf_16 (i := 3) rfl rfl ?_
        refine s_ishrU C dX11_weightsOf_17 (fun z5 => ?_)
        refine s_iconst C dX11_weightsOf_18 (1) (by decide) (fun z7 h8 => ?_)
        refine s_iand C dX11_weightsOf_19 (by omega) (fun z9 h10 => ?_)
        refine s_iconst C dX11_weightsOf_20 (1) (by decide) (fun z11 h12 => ?_)
        refine s_ic_ne C dX11_weightsOf_21 (tgt := 36) rfl (fun c13 => ?_) (fun c13 => ?_)
        ·
          exact j36 y4_2 (by omega)
        ·
          refine a_iload_n C dX11_weightsOf_24 (i := 2) rfl rfl ?_
          refine a_aload_n C dX11_weightsOf_25 (i := 0) rfl rfl ?_
          refine a_get C fl_RX11_82 (i := 0) kd_0 (hid 0 (by decide)) (v := .ref (ad 43)) (congrArg (fun z => some (Value.ref (ad z))) htx0) dX11_weightsOf_26 ?_
          refine a_get C fl_RX11_125 (i := 43) kd_43 (hid 43 (by decide)) (v := .ref (ad 44)) rfl dX11_weightsOf_29 ?_
          refine a_iload_n C dX11_weightsOf_32 (i := 3) rfl rfl ?_
          refine s_iald C (i := 44) kd_44 (hid 44 (by decide)) al_44 (by omega) (by omega) dX11_weightsOf_33 (fun n14 h15 => ?_)
          refine s_val (fun z16 e17 => ?_)
          refine s_iaddU C dX11_weightsOf_34 (fun z18 => ?_)
          refine a_istore_n C dX11_weightsOf_35 (i := 2) rfl (by decide) rfl (vs1 := [some (.ref (ad 0)), some (.int x1), some (.int z18), some (.int y4_3)]) rfl ?_
          exact j36 z18 (by omega)
  refine s_iconst C dX11_weightsOf_0 (0) (by decide) (fun z20 h21 => ?_)
  refine a_istore_n C dX11_weightsOf_1 (i := 2) rfl (by decide) rfl (vs1 := [some (.ref (ad 0)), some (.int x1), some (.int z20), none]) rfl ?_
  refine s_iconst C dX11_weightsOf_2 (0) (by decide) (fun z22 h23 => ?_)
  refine a_istore_n C dX11_weightsOf_3 (i := 3) rfl (by decide) rfl (vs1 := [some (.ref (ad 0)), some (.int x1), some (.int z20), some (.int z22)]) rfl ?_
  exact j4 100000 z20 z22 (by omega) (by omega)
set_option maxHeartbeats 4000000 in
set_option maxRecDepth 100000 in
theorem S_X11_count_0_t43 {l : Launch} {D : va_G} {ids : List Nat} {ad : Nat → Nat} {ca : Nat → ClassId} {σ : HS} {x1 : Int32} (hid : ∀ i, i < 277 → i ∈ ids) (hG : GIc σ) (htx0 : σ.2.2 0 = 43) (htx1 : σ.2.2 1 = 30) : Ki l D ids ad ca yX11_count cX11_count 2 .int 2 43 [.ref (ad 0), .int x1] σ (fun r σ1 => (σ1 = σ)) := by
  refine Ki.of (by decide) (Nat.le_of_ble_eq_true rfl) 0 (fun Γ C Rt => ?_)
  show AW ids ad ca Γ 0 [some (.ref (ad 0)), some (.int x1)] [] σ
  refine a_iload_n C dX11_count_0 (i := 1) rfl rfl ?_
  by_cases hsw : x1.toInt < 0 ∨ 17 < x1.toInt
  ·
    refine a_tableOut C dX11_count_1 hsw (tgt := 265) rfl ?_
    refine s_iconst C dX11_count_265 (-1) (by decide) (fun z1 h2 => ?_)
    exact a_iret Rt dX11_count_266 rfl (rfl)
  rcases (show x1.toInt = 0 ∨ x1.toInt = 1 ∨ x1.toInt = 2 ∨ x1.toInt = 3 ∨ x1.toInt = 4 ∨ x1.toInt = 5 ∨ x1.toInt = 6 ∨ x1.toInt = 7 ∨ x1.toInt = 8 ∨ x1.toInt = 9 ∨ x1.toInt = 10 ∨ x1.toInt = 11 ∨ x1.toInt = 12 ∨ x1.toInt = 13 ∨ x1.toInt = 14 ∨ x1.toInt = 15 ∨ x1.toInt = 16 ∨ x1.toInt = 17 by omega) with hq | hq | hq | hq | hq | hq | hq | hq | hq | hq | hq | hq | hq | hq | hq | hq | hq | hq
  ·
    refine a_tableIn C dX11_count_1 (by omega) (by omega) (by rw [hq]; rfl) (tgt := 88) rfl ?_
    refine a_aload_n C dX11_count_88 (i := 0) rfl rfl ?_
    refine a_get C fl_RX11_82 (i := 0) kd_0 (hid 0 (by decide)) (v := .ref (ad 43)) (congrArg (fun z => some (Value.ref (ad z))) htx0) dX11_count_89 ?_
    have g3 := bF_43_0 hG
    refine a_get C fl_RX11_168 (i := 43) kd_43 (hid 43 (by decide)) (v := .int (σ.1 43 0)) rfl dX11_count_92 ?_
    exact a_iret Rt dX11_count_95 rfl (rfl)
  ·
    refine a_tableIn C dX11_count_1 (by omega) (by omega) (by rw [hq]; rfl) (tgt := 96) rfl ?_
    refine a_aload_n C dX11_count_96 (i := 0) rfl rfl ?_
    refine a_get C fl_RX11_82 (i := 0) kd_0 (hid 0 (by decide)) (v := .ref (ad 43)) (congrArg (fun z => some (Value.ref (ad z))) htx0) dX11_count_97 ?_
    have g4 := bF_43_4 hG
    refine a_get C fl_RX11_171 (i := 43) kd_43 (hid 43 (by decide)) (v := .int (σ.1 43 4)) rfl dX11_count_100 ?_
    exact a_iret Rt dX11_count_103 rfl (rfl)
  ·
    refine a_tableIn C dX11_count_1 (by omega) (by omega) (by rw [hq]; rfl) (tgt := 104) rfl ?_
    refine a_aload_n C dX11_count_104 (i := 0) rfl rfl ?_
    refine a_get C fl_RX11_54 (i := 0) kd_0 (hid 0 (by decide)) (v := .ref (ad 56)) rfl dX11_count_105 ?_
    refine a_get C fl_RX11_174 (i := 56) kd_56 (hid 56 (by decide)) (v := .int (σ.1 56 4)) rfl dX11_count_108 ?_
    exact a_iret Rt dX11_count_111 rfl (rfl)
  ·
    refine a_tableIn C dX11_count_1 (by omega) (by omega) (by rw [hq]; rfl) (tgt := 112) rfl ?_
    refine a_aload_n C dX11_count_112 (i := 0) rfl rfl ?_
    refine a_get C fl_RX11_54 (i := 0) kd_0 (hid 0 (by decide)) (v := .ref (ad 56)) rfl dX11_count_113 ?_
    refine a_get C fl_RX11_177 (i := 56) kd_56 (hid 56 (by decide)) (v := .int (σ.1 56 5)) rfl dX11_count_116 ?_
    exact a_iret Rt dX11_count_119 rfl (rfl)
  ·
    refine a_tableIn C dX11_count_1 (by omega) (by omega) (by rw [hq]; rfl) (tgt := 120) rfl ?_
    refine a_aload_n C dX11_count_120 (i := 0) rfl rfl ?_
    refine a_get C fl_RX11_54 (i := 0) kd_0 (hid 0 (by decide)) (v := .ref (ad 56)) rfl dX11_count_121 ?_
    refine s_iconst C dX11_count_124 (0) (by decide) (fun z5 h6 => ?_)
    refine a_callVi C (i := 56) kd_56 (hid 56 (by decide)) ⟨_, _, rfl⟩ (by decide) (S_X0_bitsOf_56 (x1 := z5) hid hG) mi_X0_bitsOf ml_RX11_180 rfl rfl (Nat.le_of_ble_eq_true rfl) (Nat.le_of_ble_eq_true rfl) (Nat.le_of_ble_eq_true rfl) dX11_count_125 (fun z7 σ8 q9 => ?_)
    rw [q9]
    exact a_iret Rt dX11_count_128 rfl (rfl)
  ·
    refine a_tableIn C dX11_count_1 (by omega) (by omega) (by rw [hq]; rfl) (tgt := 129) rfl ?_
    refine a_aload_n C dX11_count_129 (i := 0) rfl rfl ?_
    refine a_get C fl_RX11_54 (i := 0) kd_0 (hid 0 (by decide)) (v := .ref (ad 56)) rfl dX11_count_130 ?_
    refine s_iconst C dX11_count_133 (2) (by decide) (fun z10 h11 => ?_)
    refine a_callVi C (i := 56) kd_56 (hid 56 (by decide)) ⟨_, _, rfl⟩ (by decide) (S_X0_bitsOf_56 (x1 := z10) hid hG) mi_X0_bitsOf ml_RX11_180 rfl rfl (Nat.le_of_ble_eq_true rfl) (Nat.le_of_ble_eq_true rfl) (Nat.le_of_ble_eq_true rfl) dX11_count_134 (fun z12 σ13 q14 => ?_)
    rw [q14]
    exact a_iret Rt dX11_count_137 rfl (rfl)
  ·
    refine a_tableIn C dX11_count_1 (by omega) (by omega) (by rw [hq]; rfl) (tgt := 138) rfl ?_
    refine a_aload_n C dX11_count_138 (i := 0) rfl rfl ?_
    refine a_get C fl_RX11_54 (i := 0) kd_0 (hid 0 (by decide)) (v := .ref (ad 56)) rfl dX11_count_139 ?_
    refine a_get C fl_RX11_184 (i := 56) kd_56 (hid 56 (by decide)) (v := .int (σ.1 56 6)) rfl dX11_count_142 ?_
    exact a_iret Rt dX11_count_145 rfl (rfl)
  ·
    refine a_tableIn C dX11_count_1 (by omega) (by omega) (by rw [hq]; rfl) (tgt := 146) rfl ?_
    refine a_aload_n C dX11_count_146 (i := 0) rfl rfl ?_
    refine a_get C fl_RX11_54 (i := 0) kd_0 (hid 0 (by decide)) (v := .ref (ad 56)) rfl dX11_count_147 ?_
    refine a_get C fl_RX11_187 (i := 56) kd_56 (hid 56 (by decide)) (v := .int (σ.1 56 7)) rfl dX11_count_150 ?_
    exact a_iret Rt dX11_count_153 rfl (rfl)
  ·
    refine a_tableIn C dX11_count_1 (by omega) (by omega) (by rw [hq]; rfl) (tgt := 154) rfl ?_
    refine a_aload_n C dX11_count_154 (i := 0) rfl rfl ?_
    refine a_get C fl_RX11_54 (i := 0) kd_0 (hid 0 (by decide)) (v := .ref (ad 56)) rfl dX11_count_155 ?_
    refine a_get C fl_RX11_190 (i := 56) kd_56 (hid 56 (by decide)) (v := .int (σ.1 56 8)) rfl dX11_count_158 ?_
    exact a_iret Rt dX11_count_161 rfl (rfl)
  ·
    refine a_tableIn C dX11_count_1 (by omega) (by omega) (by rw [hq]; rfl) (tgt := 162) rfl ?_
    refine a_aload_n C dX11_count_162 (i := 0) rfl rfl ?_
    refine a_get C fl_RX11_54 (i := 0) kd_0 (hid 0 (by decide)) (v := .ref (ad 56)) rfl dX11_count_163 ?_
    refine a_get C fl_RX11_193 (i := 56) kd_56 (hid 56 (by decide)) (v := .int (σ.1 56 9)) rfl dX11_count_166 ?_
    refine s_iconst C dX11_count_169 (-1) (by decide) (fun z15 h16 => ?_)
    refine s_ic_ne C dX11_count_170 (tgt := 178) rfl (fun c17 => ?_) (fun c17 => ?_)
    ·
      refine a_aload_n C dX11_count_178 (i := 0) rfl rfl ?_
      refine a_get C fl_RX11_54 (i := 0) kd_0 (hid 0 (by decide)) (v := .ref (ad 56)) rfl dX11_count_179 ?_
      refine a_get C fl_RX11_193 (i := 56) kd_56 (hid 56 (by decide)) (v := .int (σ.1 56 9)) rfl dX11_count_182 ?_
      exact a_iret Rt dX11_count_185 rfl (rfl)
    ·
      refine s_bipush C dX11_count_173 (-2) (by decide) (fun z18 h19 => ?_)
      refine a_goto C dX11_count_175 (tgt := 185) rfl ?_
      exact a_iret Rt dX11_count_185 rfl (rfl)
  ·
    refine a_tableIn C dX11_count_1 (by omega) (by omega) (by rw [hq]; rfl) (tgt := 186) rfl ?_
    refine a_aload_n C dX11_count_186 (i := 0) rfl rfl ?_
    refine a_get C fl_RX11_54 (i := 0) kd_0 (hid 0 (by decide)) (v := .ref (ad 56)) rfl dX11_count_187 ?_
    refine a_aload_n C dX11_count_190 (i := 0) rfl rfl ?_
    refine a_get C fl_RX11_82 (i := 0) kd_0 (hid 0 (by decide)) (v := .ref (ad 43)) (congrArg (fun z => some (Value.ref (ad z))) htx0) dX11_count_191 ?_
    refine a_callVi C (i := 56) kd_56 (hid 56 (by decide)) ⟨_, _, rfl⟩ (by decide) (S_X0_heightBy_56_43 hid hG) mi_X0_heightBy ml_RX11_196 rfl rfl (Nat.le_of_ble_eq_true rfl) (Nat.le_of_ble_eq_true rfl) (Nat.le_of_ble_eq_true rfl) dX11_count_194 (fun z20 σ21 q22 => ?_)
    rw [q22]
    exact a_iret Rt dX11_count_197 rfl (rfl)
  ·
    refine a_tableIn C dX11_count_1 (by omega) (by omega) (by rw [hq]; rfl) (tgt := 198) rfl ?_
    refine a_aload_n C dX11_count_198 (i := 0) rfl rfl ?_
    refine a_get C fl_RX11_10 (i := 0) kd_0 (hid 0 (by decide)) (v := .ref (ad 1)) rfl dX11_count_199 ?_
    refine a_get C fl_RX11_89 (i := 1) kd_1 (hid 1 (by decide)) (v := .ref (ad 2)) rfl dX11_count_202 ?_
    have g23 := bF_2_1 hG
    refine a_get C fl_RX11_93 (i := 2) kd_2 (hid 2 (by decide)) (v := .int (σ.1 2 1)) rfl dX11_count_205 ?_
    exact a_iret Rt dX11_count_208 rfl (rfl)
  ·
    refine a_tableIn C dX11_count_1 (by omega) (by omega) (by rw [hq]; rfl) (tgt := 209) rfl ?_
    refine a_aload_n C dX11_count_209 (i := 0) rfl rfl ?_
    refine a_get C fl_RX11_26 (i := 0) kd_0 (hid 0 (by decide)) (v := .ref (ad 12)) rfl dX11_count_210 ?_
    have g24 := bF_12_2 hG
    refine a_get C fl_RX11_199 (i := 12) kd_12 (hid 12 (by decide)) (v := .int (σ.1 12 2)) rfl dX11_count_213 ?_
    exact a_iret Rt dX11_count_216 rfl (rfl)
  ·
    refine a_tableIn C dX11_count_1 (by omega) (by omega) (by rw [hq]; rfl) (tgt := 217) rfl ?_
    refine a_aload_n C dX11_count_217 (i := 0) rfl rfl ?_
    refine a_get C fl_RX11_33 (i := 0) kd_0 (hid 0 (by decide)) (v := .ref (ad 14)) rfl dX11_count_218 ?_
    have g25 := bF_14_2 hG
    refine a_get C fl_RX11_117 (i := 14) kd_14 (hid 14 (by decide)) (v := .int (σ.1 14 2)) rfl dX11_count_221 ?_
    exact a_iret Rt dX11_count_224 rfl (rfl)
  ·
    refine a_tableIn C dX11_count_1 (by omega) (by omega) (by rw [hq]; rfl) (tgt := 225) rfl ?_
    refine a_aload_n C dX11_count_225 (i := 0) rfl rfl ?_
    refine a_callVi C (i := 0) kd_0 (hid 0 (by decide)) ⟨_, _, rfl⟩ (by decide) (S_X11_slotsHeld_0_t43 hid hG htx0 htx1) mi_X11_slotsHeld ml_RX11_200 rfl rfl (Nat.le_of_ble_eq_true rfl) (Nat.le_of_ble_eq_true rfl) (Nat.le_of_ble_eq_true rfl) dX11_count_226 (fun z26 σ27 q28 => ?_)
    rw [q28]
    exact a_iret Rt dX11_count_229 rfl (rfl)
  ·
    refine a_tableIn C dX11_count_1 (by omega) (by omega) (by rw [hq]; rfl) (tgt := 230) rfl ?_
    refine a_aload_n C dX11_count_230 (i := 0) rfl rfl ?_
    refine a_aload_n C dX11_count_231 (i := 0) rfl rfl ?_
    refine a_get C fl_RX11_54 (i := 0) kd_0 (hid 0 (by decide)) (v := .ref (ad 56)) rfl dX11_count_232 ?_
    refine s_iconst C dX11_count_235 (0) (by decide) (fun z29 h30 => ?_)
    refine a_callVi C (i := 56) kd_56 (hid 56 (by decide)) ⟨_, _, rfl⟩ (by decide) (S_X0_bitsOf_56 (x1 := z29) hid hG) mi_X0_bitsOf ml_RX11_180 rfl rfl (Nat.le_of_ble_eq_true rfl) (Nat.le_of_ble_eq_true rfl) (Nat.le_of_ble_eq_true rfl) dX11_count_236 (fun z31 σ32 q33 => ?_)
    rw [q33]
    refine a_callVi C (i := 0) kd_0 (hid 0 (by decide)) ⟨_, _, rfl⟩ (by decide) (S_X11_weightsOf_0_t43 (x1 := z31) hid hG htx0 htx1) mi_X11_weightsOf ml_RX11_203 rfl rfl (Nat.le_of_ble_eq_true rfl) (Nat.le_of_ble_eq_true rfl) (Nat.le_of_ble_eq_true rfl) dX11_count_239 (fun z34 σ35 q36 => ?_)
    rw [q36]
    exact a_iret Rt dX11_count_242 rfl (rfl)
  ·
    refine a_tableIn C dX11_count_1 (by omega) (by omega) (by rw [hq]; rfl) (tgt := 243) rfl ?_
    refine a_aload_n C dX11_count_243 (i := 0) rfl rfl ?_
    refine a_aload_n C dX11_count_244 (i := 0) rfl rfl ?_
    refine a_get C fl_RX11_54 (i := 0) kd_0 (hid 0 (by decide)) (v := .ref (ad 56)) rfl dX11_count_245 ?_
    refine s_iconst C dX11_count_248 (2) (by decide) (fun z37 h38 => ?_)
    refine a_callVi C (i := 56) kd_56 (hid 56 (by decide)) ⟨_, _, rfl⟩ (by decide) (S_X0_bitsOf_56 (x1 := z37) hid hG) mi_X0_bitsOf ml_RX11_180 rfl rfl (Nat.le_of_ble_eq_true rfl) (Nat.le_of_ble_eq_true rfl) (Nat.le_of_ble_eq_true rfl) dX11_count_249 (fun z39 σ40 q41 => ?_)
    rw [q41]
    refine a_callVi C (i := 0) kd_0 (hid 0 (by decide)) ⟨_, _, rfl⟩ (by decide) (S_X11_weightsOf_0_t43 (x1 := z39) hid hG htx0 htx1) mi_X11_weightsOf ml_RX11_203 rfl rfl (Nat.le_of_ble_eq_true rfl) (Nat.le_of_ble_eq_true rfl) (Nat.le_of_ble_eq_true rfl) dX11_count_252 (fun z42 σ43 q44 => ?_)
    rw [q44]
    exact a_iret Rt dX11_count_255 rfl (rfl)
  ·
    refine a_tableIn C dX11_count_1 (by omega) (by omega) (by rw [hq]; rfl) (tgt := 256) rfl ?_
    refine a_aload_n C dX11_count_256 (i := 0) rfl rfl ?_
    refine a_get C fl_RX11_54 (i := 0) kd_0 (hid 0 (by decide)) (v := .ref (ad 56)) rfl dX11_count_257 ?_
    refine s_iconst C dX11_count_260 (1) (by decide) (fun z45 h46 => ?_)
    refine a_callVi C (i := 56) kd_56 (hid 56 (by decide)) ⟨_, _, rfl⟩ (by decide) (S_X0_bitsOf_56 (x1 := z45) hid hG) mi_X0_bitsOf ml_RX11_180 rfl rfl (Nat.le_of_ble_eq_true rfl) (Nat.le_of_ble_eq_true rfl) (Nat.le_of_ble_eq_true rfl) dX11_count_261 (fun z47 σ48 q49 => ?_)
    rw [q49]
    exact a_iret Rt dX11_count_264 rfl (rfl)
set_option maxHeartbeats 4000000 in
set_option maxRecDepth 100000 in
theorem S_X11_closes_0_t43 {l : Launch} {D : va_G} {ids : List Nat} {ad : Nat → Nat} {ca : Nat → ClassId} {σ : HS} {x1 : Int32} {x2 : Int32} (hid : ∀ i, i < 277 → i ∈ ids) (hG : GIc σ) (htx0 : σ.2.2 0 = 43) (htx1 : σ.2.2 1 = 30) : Ki l D ids ad ca yX11_closes cX11_closes 3 .int 2 47 [.ref (ad 0), .int x1, .int x2] σ (fun r σ1 => (σ1 = σ)) := by
  refine Ki.of (by decide) (Nat.le_of_ble_eq_true rfl) 0 (fun Γ C Rt => ?_)
  show AW ids ad ca Γ 0 [some (.ref (ad 0)), some (.int x1), some (.int x2)] [] σ
  refine a_aload_n C dX11_closes_0 (i := 0) rfl rfl ?_
  refine a_get C fl_RX11_82 (i := 0) kd_0 (hid 0 (by decide)) (v := .ref (ad 43)) (congrArg (fun z => some (Value.ref (ad z))) htx0) dX11_closes_1 ?_
  refine a_iload_n C dX11_closes_4 (i := 1) rfl rfl ?_
  refine a_callVi C (i := 43) kd_43 (hid 43 (by decide)) ⟨_, _, rfl⟩ (by decide) (S_X10_hasPattern_43 (x1 := x1) hid hG) mi_X10_hasPattern ml_RX11_143 rfl rfl (Nat.le_of_ble_eq_true rfl) (Nat.le_of_ble_eq_true rfl) (Nat.le_of_ble_eq_true rfl) dX11_closes_5 (fun z1 σ2 q3 => ?_)
  obtain ⟨w4, w5, w6⟩ := q3
  rw [w4]
  refine s_if_eq C dX11_closes_8 (tgt := 20) rfl (fun c7 => ?_) (fun c7 => ?_)
  ·
    refine s_iconst C dX11_closes_20 (-1) (by decide) (fun z8 h9 => ?_)
    exact a_iret Rt dX11_closes_21 rfl (rfl)
  ·
    refine a_iload_n C dX11_closes_11 (i := 2) rfl rfl ?_
    refine s_if_lt C dX11_closes_12 (tgt := 20) rfl (fun c10 => ?_) (fun c10 => ?_)
    ·
      refine s_iconst C dX11_closes_20 (-1) (by decide) (fun z11 h12 => ?_)
      exact a_iret Rt dX11_closes_21 rfl (rfl)
    ·
      refine a_iload_n C dX11_closes_15 (i := 2) rfl rfl ?_
      refine s_iconst C dX11_closes_16 (1) (by decide) (fun z13 h14 => ?_)
      refine s_ic_le C dX11_closes_17 (tgt := 22) rfl (fun c15 => ?_) (fun c15 => ?_)
      ·
        refine a_aload_n C dX11_closes_22 (i := 0) rfl rfl ?_
        refine a_get C fl_RX11_82 (i := 0) kd_0 (hid 0 (by decide)) (v := .ref (ad 43)) (congrArg (fun z => some (Value.ref (ad z))) htx0) dX11_closes_23 ?_
        refine a_get C fl_RX11_149 (i := 43) kd_43 (hid 43 (by decide)) (v := .ref (ad 47)) rfl dX11_closes_26 ?_
        refine a_iload_n C dX11_closes_29 (i := 1) rfl rfl ?_
        refine s_aaldH C (i := 47) kd_47 (hid 47 (by decide)) al_47 (by omega) (by omega) dX11_closes_30 (fun n16 h17 h18 => ?_)
        refine a_aload_n C dX11_closes_31 (i := 0) rfl rfl ?_
        refine a_get C fl_RX11_82 (i := 0) kd_0 (hid 0 (by decide)) (v := .ref (ad 43)) (congrArg (fun z => some (Value.ref (ad z))) htx0) dX11_closes_32 ?_
        refine a_get C fl_RX11_146 (i := 43) kd_43 (hid 43 (by decide)) (v := .ref (ad 53)) rfl dX11_closes_35 ?_
        refine a_iload_n C dX11_closes_38 (i := 1) rfl rfl ?_
        refine s_iald C (i := 53) kd_53 (hid 53 (by decide)) al_53 (by omega) (by omega) dX11_closes_39 (fun n19 h20 => ?_)
        refine s_val (fun z21 e22 => ?_)
        have g23 := bA_53 hG n19
        rw [e22] at g23
        refine a_iload_n C dX11_closes_40 (i := 2) rfl rfl ?_
        refine a_callSi C (S_X11_closingOf_H8 (x2 := z21) (x3 := x2) (ar1 := (47 + 1 + n16)) hid hG (by omega) (kdH_47 n16 h18).1 (hid _ (kdH_47 n16 h18).2.2) (kdH_47 n16 h18).2.1 (bH_47 hG h18)) ms_X11_closingOf ml_RX11_233 rfl rfl (Nat.le_of_ble_eq_true rfl) (Nat.le_of_ble_eq_true rfl) (Nat.le_of_ble_eq_true rfl) dX11_closes_41 (fun z24 σ25 q26 => ?_)
        rw [q26]
        exact a_iret Rt dX11_closes_44 rfl (rfl)
      ·
        refine s_iconst C dX11_closes_20 (-1) (by decide) (fun z27 h28 => ?_)
        exact a_iret Rt dX11_closes_21 rfl (rfl)
set_option maxHeartbeats 4000000 in
set_option maxRecDepth 100000 in
theorem S_X11_joined_0_t43 {l : Launch} {D : va_G} {ids : List Nat} {ad : Nat → Nat} {ca : Nat → ClassId} {σ : HS} {x1 : Int32} {x2 : Int32} {x3 : Int32} (hid : ∀ i, i < 277 → i ∈ ids) (hG : GIc σ) (htx0 : σ.2.2 0 = 43) (htx1 : σ.2.2 1 = 30) : Ki l D ids ad ca yX11_joined cX11_joined 5 .int 2 60 [.ref (ad 0), .int x1, .int x2, .int x3] σ (fun r σ1 => (GIc σ1) ∧ (ony [29] σ σ1)) := by
  refine Ki.of (by decide) (Nat.le_of_ble_eq_true rfl) 1 (fun Γ C Rt => ?_)
  show AW ids ad ca Γ 0 [some (.ref (ad 0)), some (.int x1), some (.int x2), some (.int x3), none] [] σ
  refine a_aload_n C dX11_joined_0 (i := 0) rfl rfl ?_
  refine a_get C fl_RX11_82 (i := 0) kd_0 (hid 0 (by decide)) (v := .ref (ad 43)) (congrArg (fun z => some (Value.ref (ad z))) htx0) dX11_joined_1 ?_
  refine a_iload_n C dX11_joined_4 (i := 1) rfl rfl ?_
  refine a_callVi C (i := 43) kd_43 (hid 43 (by decide)) ⟨_, _, rfl⟩ (by decide) (S_X10_hasPattern_43 (x1 := x1) hid hG) mi_X10_hasPattern ml_RX11_143 rfl rfl (Nat.le_of_ble_eq_true rfl) (Nat.le_of_ble_eq_true rfl) (Nat.le_of_ble_eq_true rfl) dX11_joined_5 (fun z1 σ2 q3 => ?_)
  obtain ⟨w4, w5, w6⟩ := q3
  rw [w4]
  refine s_if_eq C dX11_joined_8 (tgt := 31) rfl (fun c7 => ?_) (fun c7 => ?_)
  ·
    refine s_iconst C dX11_joined_31 (-1) (by decide) (fun z8 h9 => ?_)
    exact a_iret Rt dX11_joined_32 rfl (⟨hG, ony.rf⟩)
  ·
    refine a_aload_n C dX11_joined_11 (i := 0) rfl rfl ?_
    refine a_get C fl_RX11_82 (i := 0) kd_0 (hid 0 (by decide)) (v := .ref (ad 43)) (congrArg (fun z => some (Value.ref (ad z))) htx0) dX11_joined_12 ?_
    refine a_iload_n C dX11_joined_15 (i := 2) rfl rfl ?_
    refine a_callVi C (i := 43) kd_43 (hid 43 (by decide)) ⟨_, _, rfl⟩ (by decide) (S_X10_hasPattern_43 (x1 := x2) hid hG) mi_X10_hasPattern ml_RX11_143 rfl rfl (Nat.le_of_ble_eq_true rfl) (Nat.le_of_ble_eq_true rfl) (Nat.le_of_ble_eq_true rfl) dX11_joined_16 (fun z10 σ11 q12 => ?_)
    obtain ⟨w13, w14, w15⟩ := q12
    rw [w13]
    refine s_if_eq C dX11_joined_19 (tgt := 31) rfl (fun c16 => ?_) (fun c16 => ?_)
    ·
      refine s_iconst C dX11_joined_31 (-1) (by decide) (fun z17 h18 => ?_)
      exact a_iret Rt dX11_joined_32 rfl (⟨hG, ony.rf⟩)
    ·
      refine a_iload_n C dX11_joined_22 (i := 3) rfl rfl ?_
      refine s_if_lt C dX11_joined_23 (tgt := 31) rfl (fun c19 => ?_) (fun c19 => ?_)
      ·
        refine s_iconst C dX11_joined_31 (-1) (by decide) (fun z20 h21 => ?_)
        exact a_iret Rt dX11_joined_32 rfl (⟨hG, ony.rf⟩)
      ·
        refine a_iload_n C dX11_joined_26 (i := 3) rfl rfl ?_
        refine s_iconst C dX11_joined_27 (1) (by decide) (fun z22 h23 => ?_)
        refine s_ic_le C dX11_joined_28 (tgt := 33) rfl (fun c24 => ?_) (fun c24 => ?_)
        ·
          refine a_aload_n C dX11_joined_33 (i := 0) rfl rfl ?_
          refine a_get C fl_RX11_82 (i := 0) kd_0 (hid 0 (by decide)) (v := .ref (ad 43)) (congrArg (fun z => some (Value.ref (ad z))) htx0) dX11_joined_34 ?_
          refine a_get C fl_RX11_146 (i := 43) kd_43 (hid 43 (by decide)) (v := .ref (ad 53)) rfl dX11_joined_37 ?_
          refine a_iload_n C dX11_joined_40 (i := 1) rfl rfl ?_
          refine s_iald C (i := 53) kd_53 (hid 53 (by decide)) al_53 (by omega) (by omega) dX11_joined_41 (fun n25 h26 => ?_)
          refine s_val (fun z27 e28 => ?_)
          have g29 := bA_53 hG n25
          rw [e28] at g29
          refine a_istore C dX11_joined_42 (by decide) rfl (vs1 := [some (.ref (ad 0)), some (.int x1), some (.int x2), some (.int x3), some (.int z27)]) rfl ?_
          refine a_aload_n C dX11_joined_44 (i := 0) rfl rfl ?_
          refine a_get C fl_RX11_82 (i := 0) kd_0 (hid 0 (by decide)) (v := .ref (ad 43)) (congrArg (fun z => some (Value.ref (ad z))) htx0) dX11_joined_45 ?_
          refine a_get C fl_RX11_149 (i := 43) kd_43 (hid 43 (by decide)) (v := .ref (ad 47)) rfl dX11_joined_48 ?_
          refine a_iload_n C dX11_joined_51 (i := 1) rfl rfl ?_
          refine s_aaldH C (i := 47) kd_47 (hid 47 (by decide)) al_47 (by omega) (by omega) dX11_joined_52 (fun n30 h31 h32 => ?_)
          refine s_iconst C dX11_joined_53 (0) (by decide) (fun z33 h34 => ?_)
          refine a_aload_n C dX11_joined_54 (i := 0) rfl rfl ?_
          refine a_get C fl_RX11_76 (i := 0) kd_0 (hid 0 (by decide)) (v := .ref (ad 29)) rfl dX11_joined_55 ?_
          refine s_iconst C dX11_joined_58 (0) (by decide) (fun z35 h36 => ?_)
          refine a_iload C dX11_joined_59 rfl ?_
          refine s_copyg C (i0 := (47 + 1 + n30)) (i1 := 29) ml_RX11_237 ac_w.1 ac_w.2.1 ac_w.2.2 (kdH_47 n30 h32).1 (hid _ (kdH_47 n30 h32).2.2) (kdH_47 n30 h32).2.1 kd_29 (hid 29 (by decide)) al_29 (by omega) (by omega) (by omega) (by omega) (by omega) (Nat.le_of_ble_eq_true rfl) (Nat.le_of_ble_eq_true rfl) dX11_joined_61 (GIc.A hG nof_29 noa_29 (fun a ha => by omega) (by decide)) (fun σ37 hG38 ho39 => ?_)
          refine a_aload_n C dX11_joined_64 (i := 0) rfl rfl ?_
          refine a_get C fl_RX11_82 (i := 0) kd_0 (hid 0 (by decide)) (v := .ref (ad 43)) (congrArg (fun z => some (Value.ref (ad z))) ((congrFun ho39.2 0).trans htx0)) dX11_joined_65 ?_
          refine a_get C fl_RX11_149 (i := 43) kd_43 (hid 43 (by decide)) (v := .ref (ad 47)) rfl dX11_joined_68 ?_
          refine a_iload_n C dX11_joined_71 (i := 2) rfl rfl ?_
          refine s_aaldH C (i := 47) kd_47 (hid 47 (by decide)) al_47 (by omega) (by omega) dX11_joined_72 (fun n40 h41 h42 => ?_)
          refine s_iconst C dX11_joined_73 (0) (by decide) (fun z43 h44 => ?_)
          refine a_aload_n C dX11_joined_74 (i := 0) rfl rfl ?_
          refine a_get C fl_RX11_76 (i := 0) kd_0 (hid 0 (by decide)) (v := .ref (ad 29)) rfl dX11_joined_75 ?_
          refine a_iload C dX11_joined_78 rfl ?_
          refine a_aload_n C dX11_joined_80 (i := 0) rfl rfl ?_
          refine a_get C fl_RX11_82 (i := 0) kd_0 (hid 0 (by decide)) (v := .ref (ad 43)) (congrArg (fun z => some (Value.ref (ad z))) ((congrFun ho39.2 0).trans htx0)) dX11_joined_81 ?_
          refine a_get C fl_RX11_146 (i := 43) kd_43 (hid 43 (by decide)) (v := .ref (ad 53)) rfl dX11_joined_84 ?_
          refine a_iload_n C dX11_joined_87 (i := 2) rfl rfl ?_
          refine s_iald C (i := 53) kd_53 (hid 53 (by decide)) al_53 (by omega) (by omega) dX11_joined_88 (fun n45 h46 => ?_)
          refine s_val (fun z47 e48 => ?_)
          have g49 := bA_53 hG38 n45
          rw [e48] at g49
          refine s_copyg C (i0 := (47 + 1 + n40)) (i1 := 29) ml_RX11_237 ac_w.1 ac_w.2.1 ac_w.2.2 (kdH_47 n40 h42).1 (hid _ (kdH_47 n40 h42).2.2) (kdH_47 n40 h42).2.1 kd_29 (hid 29 (by decide)) al_29 (by omega) (by omega) (by omega) (by omega) (by omega) (Nat.le_of_ble_eq_true rfl) (Nat.le_of_ble_eq_true rfl) dX11_joined_89 (GIc.A hG38 nof_29 noa_29 (fun a ha => by omega) (by decide)) (fun σ50 hG51 ho52 => ?_)
          refine a_aload_n C dX11_joined_92 (i := 0) rfl rfl ?_
          refine a_get C fl_RX11_76 (i := 0) kd_0 (hid 0 (by decide)) (v := .ref (ad 29)) rfl dX11_joined_93 ?_
          refine a_iload C dX11_joined_96 rfl ?_
          refine a_aload_n C dX11_joined_98 (i := 0) rfl rfl ?_
          refine a_get C fl_RX11_82 (i := 0) kd_0 (hid 0 (by decide)) (v := .ref (ad 43)) (congrArg (fun z => some (Value.ref (ad z))) ((congrFun ho52.2 0).trans ((congrFun ho39.2 0).trans htx0))) dX11_joined_99 ?_
          refine a_get C fl_RX11_146 (i := 43) kd_43 (hid 43 (by decide)) (v := .ref (ad 53)) rfl dX11_joined_102 ?_
          refine a_iload_n C dX11_joined_105 (i := 2) rfl rfl ?_
          refine s_iald C (i := 53) kd_53 (hid 53 (by decide)) al_53 (by omega) (by omega) dX11_joined_106 (fun n53 h54 => ?_)
          refine s_val (fun z55 e56 => ?_)
          have g57 := bA_53 hG51 n53
          rw [e56] at g57
          refine s_iadd C dX11_joined_107 (by omega) (fun z58 h59 => ?_)
          refine a_iload_n C dX11_joined_108 (i := 3) rfl rfl ?_
          refine a_callSi C (S_X11_closingOf_29 (x2 := z58) (x3 := x3) hid hG51 (by omega)) ms_X11_closingOf ml_RX11_233 rfl rfl (Nat.le_of_ble_eq_true rfl) (Nat.le_of_ble_eq_true rfl) (Nat.le_of_ble_eq_true rfl) dX11_joined_109 (fun z60 σ61 q62 => ?_)
          rw [q62]
          exact a_iret Rt dX11_joined_112 rfl (⟨hG51, (ony.tr (ony.tr ony.rf (ony.mono ho39 (by decide))) (ony.mono ho52 (by decide)))⟩)
        ·
          refine s_iconst C dX11_joined_31 (-1) (by decide) (fun z63 h64 => ?_)
          exact a_iret Rt dX11_joined_32 rfl (⟨hG, ony.rf⟩)
set_option maxHeartbeats 4000000 in
set_option maxRecDepth 100000 in
theorem S_X11_turned_0_t43 {l : Launch} {D : va_G} {ids : List Nat} {ad : Nat → Nat} {ca : Nat → ClassId} {σ : HS} {x1 : Int32} {x2 : Int32} (hid : ∀ i, i < 277 → i ∈ ids) (hG : GIc σ) (htx0 : σ.2.2 0 = 43) (htx1 : σ.2.2 1 = 30) : Ki l D ids ad ca yX11_turned cX11_turned 4 .int 1 25 [.ref (ad 0), .int x1, .int x2] σ (fun r σ1 => (σ1 = σ)) := by
  refine Ki.of (by decide) (Nat.le_of_ble_eq_true rfl) 1 (fun Γ C Rt => ?_)
  show AW ids ad ca Γ 0 [some (.ref (ad 0)), some (.int x1), some (.int x2), none] [] σ
  refine a_aload_n C dX11_turned_0 (i := 0) rfl rfl ?_
  refine a_get C fl_RX11_82 (i := 0) kd_0 (hid 0 (by decide)) (v := .ref (ad 43)) (congrArg (fun z => some (Value.ref (ad z))) htx0) dX11_turned_1 ?_
  refine a_iload_n C dX11_turned_4 (i := 1) rfl rfl ?_
  refine a_callVi C (i := 43) kd_43 (hid 43 (by decide)) ⟨_, _, rfl⟩ (by decide) (S_X10_hasPattern_43 (x1 := x1) hid hG) mi_X10_hasPattern ml_RX11_143 rfl rfl (Nat.le_of_ble_eq_true rfl) (Nat.le_of_ble_eq_true rfl) (Nat.le_of_ble_eq_true rfl) dX11_turned_5 (fun z1 σ2 q3 => ?_)
  obtain ⟨w4, w5, w6⟩ := q3
  rw [w4]
  refine s_if_eq C dX11_turned_8 (tgt := 22) rfl (fun c7 => ?_) (fun c7 => ?_)
  ·
    refine s_iconst C dX11_turned_22 (-1) (by decide) (fun z8 h9 => ?_)
    exact a_iret Rt dX11_turned_23 rfl (rfl)
  ·
    refine a_aload_n C dX11_turned_11 (i := 0) rfl rfl ?_
    refine a_get C fl_RX11_82 (i := 0) kd_0 (hid 0 (by decide)) (v := .ref (ad 43)) (congrArg (fun z => some (Value.ref (ad z))) htx0) dX11_turned_12 ?_
    refine a_iload_n C dX11_turned_15 (i := 2) rfl rfl ?_
    refine a_callVi C (i := 43) kd_43 (hid 43 (by decide)) ⟨_, _, rfl⟩ (by decide) (S_X10_hasPattern_43 (x1 := x2) hid hG) mi_X10_hasPattern ml_RX11_143 rfl rfl (Nat.le_of_ble_eq_true rfl) (Nat.le_of_ble_eq_true rfl) (Nat.le_of_ble_eq_true rfl) dX11_turned_16 (fun z10 σ11 q12 => ?_)
    obtain ⟨w13, w14, w15⟩ := q12
    rw [w13]
    refine s_if_ne C dX11_turned_19 (tgt := 24) rfl (fun c16 => ?_) (fun c16 => ?_)
    ·
      refine a_aload_n C dX11_turned_24 (i := 0) rfl rfl ?_
      refine a_get C fl_RX11_82 (i := 0) kd_0 (hid 0 (by decide)) (v := .ref (ad 43)) (congrArg (fun z => some (Value.ref (ad z))) htx0) dX11_turned_25 ?_
      refine a_get C fl_RX11_146 (i := 43) kd_43 (hid 43 (by decide)) (v := .ref (ad 53)) rfl dX11_turned_28 ?_
      refine a_iload_n C dX11_turned_31 (i := 1) rfl rfl ?_
      refine s_iald C (i := 53) kd_53 (hid 53 (by decide)) al_53 (by omega) (by omega) dX11_turned_32 (fun n17 h18 => ?_)
      refine s_val (fun z19 e20 => ?_)
      have g21 := bA_53 hG n17
      rw [e20] at g21
      refine a_istore_n C dX11_turned_33 (i := 3) rfl (by decide) rfl (vs1 := [some (.ref (ad 0)), some (.int x1), some (.int x2), some (.int z19)]) rfl ?_
      refine a_iload_n C dX11_turned_34 (i := 3) rfl rfl ?_
      refine a_aload_n C dX11_turned_35 (i := 0) rfl rfl ?_
      refine a_get C fl_RX11_82 (i := 0) kd_0 (hid 0 (by decide)) (v := .ref (ad 43)) (congrArg (fun z => some (Value.ref (ad z))) htx0) dX11_turned_36 ?_
      refine a_get C fl_RX11_146 (i := 43) kd_43 (hid 43 (by decide)) (v := .ref (ad 53)) rfl dX11_turned_39 ?_
      refine a_iload_n C dX11_turned_42 (i := 2) rfl rfl ?_
      refine s_iald C (i := 53) kd_53 (hid 53 (by decide)) al_53 (by omega) (by omega) dX11_turned_43 (fun n22 h23 => ?_)
      refine s_val (fun z24 e25 => ?_)
      have g26 := bA_53 hG n22
      rw [e25] at g26
      refine s_ic_eq C dX11_turned_44 (tgt := 50) rfl (fun c27 => ?_) (fun c27 => ?_)
      ·
        refine a_aload_n C dX11_turned_50 (i := 0) rfl rfl ?_
        refine a_get C fl_RX11_82 (i := 0) kd_0 (hid 0 (by decide)) (v := .ref (ad 43)) (congrArg (fun z => some (Value.ref (ad z))) htx0) dX11_turned_51 ?_
        refine a_get C fl_RX11_149 (i := 43) kd_43 (hid 43 (by decide)) (v := .ref (ad 47)) rfl dX11_turned_54 ?_
        refine a_iload_n C dX11_turned_57 (i := 1) rfl rfl ?_
        refine s_aaldH C (i := 47) kd_47 (hid 47 (by decide)) al_47 (by omega) (by omega) dX11_turned_58 (fun n28 h29 h30 => ?_)
        refine a_aload_n C dX11_turned_59 (i := 0) rfl rfl ?_
        refine a_get C fl_RX11_82 (i := 0) kd_0 (hid 0 (by decide)) (v := .ref (ad 43)) (congrArg (fun z => some (Value.ref (ad z))) htx0) dX11_turned_60 ?_
        refine a_get C fl_RX11_149 (i := 43) kd_43 (hid 43 (by decide)) (v := .ref (ad 47)) rfl dX11_turned_63 ?_
        refine a_iload_n C dX11_turned_66 (i := 2) rfl rfl ?_
        refine s_aaldH C (i := 47) kd_47 (hid 47 (by decide)) al_47 (by omega) (by omega) dX11_turned_67 (fun n31 h32 h33 => ?_)
        refine a_iload_n C dX11_turned_68 (i := 3) rfl rfl ?_
        refine a_callSi C (S_X3_turns_H8_H8 (x3 := z19) (ar1 := (47 + 1 + n28)) (ar2 := (47 + 1 + n31)) hid hG (by omega) (kdH_47 n28 h30).1 (hid _ (kdH_47 n28 h30).2.2) (kdH_47 n28 h30).2.1 (bH_47 hG h30) (kdH_47 n31 h33).1 (hid _ (kdH_47 n31 h33).2.2) (kdH_47 n31 h33).2.1 (bH_47 hG h33)) ms_X3_turns ml_RX11_253 rfl rfl (Nat.le_of_ble_eq_true rfl) (Nat.le_of_ble_eq_true rfl) (Nat.le_of_ble_eq_true rfl) dX11_turned_69 (fun z34 σ35 q36 => ?_)
        rw [q36]
        exact a_iret Rt dX11_turned_72 rfl (rfl)
      ·
        refine s_bipush C dX11_turned_47 (-2) (by decide) (fun z37 h38 => ?_)
        exact a_iret Rt dX11_turned_49 rfl (rfl)
    ·
      refine s_iconst C dX11_turned_22 (-1) (by decide) (fun z39 h40 => ?_)
      exact a_iret Rt dX11_turned_23 rfl (rfl)
set_option maxHeartbeats 4000000 in
set_option maxRecDepth 100000 in
theorem S_X11_span_0_t43 {l : Launch} {D : va_G} {ids : List Nat} {ad : Nat → Nat} {ca : Nat → ClassId} {σ : HS} {x1 : Int32} (hid : ∀ i, i < 277 → i ∈ ids) (hG : GIc σ) (htx0 : σ.2.2 0 = 43) (htx1 : σ.2.2 1 = 30) : Ki l D ids ad ca yX11_span cX11_span 2 .int 2 44 [.ref (ad 0), .int x1] σ (fun r σ1 => (σ1 = σ)) := by
  refine Ki.of (by decide) (Nat.le_of_ble_eq_true rfl) 0 (fun Γ C Rt => ?_)
  show AW ids ad ca Γ 0 [some (.ref (ad 0)), some (.int x1)] [] σ
  refine a_aload_n C dX11_span_0 (i := 0) rfl rfl ?_
  refine a_get C fl_RX11_82 (i := 0) kd_0 (hid 0 (by decide)) (v := .ref (ad 43)) (congrArg (fun z => some (Value.ref (ad z))) htx0) dX11_span_1 ?_
  refine a_iload_n C dX11_span_4 (i := 1) rfl rfl ?_
  refine a_callVi C (i := 43) kd_43 (hid 43 (by decide)) ⟨_, _, rfl⟩ (by decide) (S_X10_hasPattern_43 (x1 := x1) hid hG) mi_X10_hasPattern ml_RX11_143 rfl rfl (Nat.le_of_ble_eq_true rfl) (Nat.le_of_ble_eq_true rfl) (Nat.le_of_ble_eq_true rfl) dX11_span_5 (fun z1 σ2 q3 => ?_)
  obtain ⟨w4, w5, w6⟩ := q3
  rw [w4]
  refine s_if_ne C dX11_span_8 (tgt := 13) rfl (fun c7 => ?_) (fun c7 => ?_)
  ·
    refine a_aload_n C dX11_span_13 (i := 0) rfl rfl ?_
    refine a_get C fl_RX11_82 (i := 0) kd_0 (hid 0 (by decide)) (v := .ref (ad 43)) (congrArg (fun z => some (Value.ref (ad z))) htx0) dX11_span_14 ?_
    refine a_get C fl_RX11_149 (i := 43) kd_43 (hid 43 (by decide)) (v := .ref (ad 47)) rfl dX11_span_17 ?_
    refine a_iload_n C dX11_span_20 (i := 1) rfl rfl ?_
    refine s_aaldH C (i := 47) kd_47 (hid 47 (by decide)) al_47 (by omega) (by omega) dX11_span_21 (fun n8 h9 h10 => ?_)
    refine a_aload_n C dX11_span_22 (i := 0) rfl rfl ?_
    refine a_get C fl_RX11_82 (i := 0) kd_0 (hid 0 (by decide)) (v := .ref (ad 43)) (congrArg (fun z => some (Value.ref (ad z))) htx0) dX11_span_23 ?_
    refine a_get C fl_RX11_146 (i := 43) kd_43 (hid 43 (by decide)) (v := .ref (ad 53)) rfl dX11_span_26 ?_
    refine a_iload_n C dX11_span_29 (i := 1) rfl rfl ?_
    refine s_iald C (i := 53) kd_53 (hid 53 (by decide)) al_53 (by omega) (by omega) dX11_span_30 (fun n11 h12 => ?_)
    refine s_val (fun z13 e14 => ?_)
    have g15 := bA_53 hG n11
    rw [e14] at g15
    refine a_callSi C (S_X3_highest_H8 (x2 := z13) (ar1 := (47 + 1 + n8)) hid hG (by omega) (kdH_47 n8 h10).1 (hid _ (kdH_47 n8 h10).2.2) (kdH_47 n8 h10).2.1 (bH_47 hG h10)) ms_X3_highest ml_RX11_257 rfl rfl (Nat.le_of_ble_eq_true rfl) (Nat.le_of_ble_eq_true rfl) (Nat.le_of_ble_eq_true rfl) dX11_span_31 (fun z16 σ17 q18 => ?_)
    rw [q18]
    exact a_iret Rt dX11_span_34 rfl (rfl)
  ·
    refine s_iconst C dX11_span_11 (-1) (by decide) (fun z19 h20 => ?_)
    exact a_iret Rt dX11_span_12 rfl (rfl)
