set_option maxHeartbeats 4000000 in
set_option maxRecDepth 100000 in
theorem V_X11_hold_0_t30_v0 {l : Launch} {D : va_G} {ids : List Nat} {ad : Nat → Nat} {ca : Nat → ClassId} {σ : HS} {x1 : Int32} (hid : ∀ i, i < 277 → i ∈ ids) (hG : GIc σ) (htx0 : σ.2.2 0 = 30) (htx1 : σ.2.2 1 = 43) (hx1 : 0 ≤ x1.toInt ∧ x1.toInt ≤ 0) : Ki l D ids ad ca yX11_hold cX11_hold 2 .boolean 2 81 [.ref (ad 0), .int x1] σ (fun r σ1 => (GIc σ1) ∧ (ony [26, 64, 65, 66, 67] σ σ1) ∧ (0 ≤ r.toInt ∧ r.toInt ≤ 1) ∧ (r.toInt = 1)) := by
  refine Ki.of (by decide) (Nat.le_of_ble_eq_true rfl) 0 (fun Γ C Rt => ?_)
  show AW ids ad ca Γ 0 [some (.ref (ad 0)), some (.int x1)] [] σ
  refine a_iload_n C dX11_hold_0 (i := 1) rfl rfl ?_
  refine s_if_lt C dX11_hold_1 (tgt := 9) rfl (fun c1 => absurd c1 (by omega)) (fun c1 => ?_)
  refine a_iload_n C dX11_hold_4 (i := 1) rfl rfl ?_
  refine s_iconst C dX11_hold_5 (3) (by decide) (fun z2 h3 => ?_)
  refine s_ic_lt C dX11_hold_6 (tgt := 11) rfl (fun c4 => ?_) (fun c4 => absurd c4 (by omega))
  refine a_aload_n C dX11_hold_11 (i := 0) rfl rfl ?_
  refine a_get C fl_RX11_61 (i := 0) kd_0 (hid 0 (by decide)) (v := .ref (ad 25)) rfl dX11_hold_12 ?_
  refine a_iload_n C dX11_hold_15 (i := 1) rfl rfl ?_
  refine s_aaldc C (i := 25) (y := 64) 0 (by omega) (Or.inr kd_25) (hid 25 (by decide)) (by rw [al_25]; decide) (by rw [kd_25]; rfl) dX11_hold_16 ?_
  refine a_aload_n C dX11_hold_17 (i := 0) rfl rfl ?_
  refine a_get C fl_RX11_54 (i := 0) kd_0 (hid 0 (by decide)) (v := .ref (ad 56)) rfl dX11_hold_18 ?_
  refine a_callVv C (i := 64) (n0 := 0) kd_64 (hid 64 (by decide)) ⟨_, _, rfl⟩ (by decide) (S_copy 0 2 rfl rfl (by decide) (by decide) hid hG) mi_X0_copy ml_RX11_230 rfl rfl (Nat.le_of_ble_eq_true rfl) (Nat.le_of_ble_eq_true rfl) (Nat.le_of_ble_eq_true rfl) dX11_hold_21 (fun σ5 q6 => ?_)
  obtain ⟨hG7, ho8⟩ := q6
  refine a_aload_n C dX11_hold_24 (i := 0) rfl rfl ?_
  refine a_get C fl_RX11_65 (i := 0) kd_0 (hid 0 (by decide)) (v := .ref (ad 26)) rfl dX11_hold_25 ?_
  refine a_iload_n C dX11_hold_28 (i := 1) rfl rfl ?_
  refine s_iconst C dX11_hold_29 (1) (by decide) (fun z9 h10 => ?_)
  refine s_zast C (i := 26) (nar_v (by omega)) kd_26 (hid 26 (by decide)) al_26 (by omega) (by omega) dX11_hold_30 (fun n11 h12 => ?_)
  have hG13 := wA_26 (v := z9) (j := n11) hG7
  refine s_iconst C dX11_hold_31 (1) (by decide) (fun z14 h15 => ?_)
  exact a_iret Rt dX11_hold_32 (nar_z (by omega)).1 (⟨hG13, (ony.I (ony.tr ony.rf (ony.mono ho8 (by decide))) (by decide)), (show 0 ≤ z14.toInt ∧ z14.toInt ≤ 1 by intros; omega), (show z14.toInt = 1 by intros; omega)⟩)
set_option maxHeartbeats 4000000 in
set_option maxRecDepth 100000 in
theorem V_X11_hold_0_t30_v1 {l : Launch} {D : va_G} {ids : List Nat} {ad : Nat → Nat} {ca : Nat → ClassId} {σ : HS} {x1 : Int32} (hid : ∀ i, i < 277 → i ∈ ids) (hG : GIc σ) (htx0 : σ.2.2 0 = 30) (htx1 : σ.2.2 1 = 43) (hx1 : 1 ≤ x1.toInt ∧ x1.toInt ≤ 1) : Ki l D ids ad ca yX11_hold cX11_hold 2 .boolean 2 81 [.ref (ad 0), .int x1] σ (fun r σ1 => (GIc σ1) ∧ (ony [26, 68, 69, 70, 71] σ σ1) ∧ (0 ≤ r.toInt ∧ r.toInt ≤ 1) ∧ (r.toInt = 1)) := by
  refine Ki.of (by decide) (Nat.le_of_ble_eq_true rfl) 0 (fun Γ C Rt => ?_)
  show AW ids ad ca Γ 0 [some (.ref (ad 0)), some (.int x1)] [] σ
  refine a_iload_n C dX11_hold_0 (i := 1) rfl rfl ?_
  refine s_if_lt C dX11_hold_1 (tgt := 9) rfl (fun c1 => absurd c1 (by omega)) (fun c1 => ?_)
  refine a_iload_n C dX11_hold_4 (i := 1) rfl rfl ?_
  refine s_iconst C dX11_hold_5 (3) (by decide) (fun z2 h3 => ?_)
  refine s_ic_lt C dX11_hold_6 (tgt := 11) rfl (fun c4 => ?_) (fun c4 => absurd c4 (by omega))
  refine a_aload_n C dX11_hold_11 (i := 0) rfl rfl ?_
  refine a_get C fl_RX11_61 (i := 0) kd_0 (hid 0 (by decide)) (v := .ref (ad 25)) rfl dX11_hold_12 ?_
  refine a_iload_n C dX11_hold_15 (i := 1) rfl rfl ?_
  refine s_aaldc C (i := 25) (y := 68) 1 (by omega) (Or.inr kd_25) (hid 25 (by decide)) (by rw [al_25]; decide) (by rw [kd_25]; rfl) dX11_hold_16 ?_
  refine a_aload_n C dX11_hold_17 (i := 0) rfl rfl ?_
  refine a_get C fl_RX11_54 (i := 0) kd_0 (hid 0 (by decide)) (v := .ref (ad 56)) rfl dX11_hold_18 ?_
  refine a_callVv C (i := 68) (n0 := 0) kd_68 (hid 68 (by decide)) ⟨_, _, rfl⟩ (by decide) (S_copy 0 3 rfl rfl (by decide) (by decide) hid hG) mi_X0_copy ml_RX11_230 rfl rfl (Nat.le_of_ble_eq_true rfl) (Nat.le_of_ble_eq_true rfl) (Nat.le_of_ble_eq_true rfl) dX11_hold_21 (fun σ5 q6 => ?_)
  obtain ⟨hG7, ho8⟩ := q6
  refine a_aload_n C dX11_hold_24 (i := 0) rfl rfl ?_
  refine a_get C fl_RX11_65 (i := 0) kd_0 (hid 0 (by decide)) (v := .ref (ad 26)) rfl dX11_hold_25 ?_
  refine a_iload_n C dX11_hold_28 (i := 1) rfl rfl ?_
  refine s_iconst C dX11_hold_29 (1) (by decide) (fun z9 h10 => ?_)
  refine s_zast C (i := 26) (nar_v (by omega)) kd_26 (hid 26 (by decide)) al_26 (by omega) (by omega) dX11_hold_30 (fun n11 h12 => ?_)
  have hG13 := wA_26 (v := z9) (j := n11) hG7
  refine s_iconst C dX11_hold_31 (1) (by decide) (fun z14 h15 => ?_)
  exact a_iret Rt dX11_hold_32 (nar_z (by omega)).1 (⟨hG13, (ony.I (ony.tr ony.rf (ony.mono ho8 (by decide))) (by decide)), (show 0 ≤ z14.toInt ∧ z14.toInt ≤ 1 by intros; omega), (show z14.toInt = 1 by intros; omega)⟩)
set_option maxHeartbeats 4000000 in
set_option maxRecDepth 100000 in
theorem V_X11_hold_0_t30_v2 {l : Launch} {D : va_G} {ids : List Nat} {ad : Nat → Nat} {ca : Nat → ClassId} {σ : HS} {x1 : Int32} (hid : ∀ i, i < 277 → i ∈ ids) (hG : GIc σ) (htx0 : σ.2.2 0 = 30) (htx1 : σ.2.2 1 = 43) (hx1 : 2 ≤ x1.toInt ∧ x1.toInt ≤ 2) : Ki l D ids ad ca yX11_hold cX11_hold 2 .boolean 2 81 [.ref (ad 0), .int x1] σ (fun r σ1 => (GIc σ1) ∧ (ony [26, 72, 73, 74, 75] σ σ1) ∧ (0 ≤ r.toInt ∧ r.toInt ≤ 1) ∧ (r.toInt = 1)) := by
  refine Ki.of (by decide) (Nat.le_of_ble_eq_true rfl) 0 (fun Γ C Rt => ?_)
  show AW ids ad ca Γ 0 [some (.ref (ad 0)), some (.int x1)] [] σ
  refine a_iload_n C dX11_hold_0 (i := 1) rfl rfl ?_
  refine s_if_lt C dX11_hold_1 (tgt := 9) rfl (fun c1 => absurd c1 (by omega)) (fun c1 => ?_)
  refine a_iload_n C dX11_hold_4 (i := 1) rfl rfl ?_
  refine s_iconst C dX11_hold_5 (3) (by decide) (fun z2 h3 => ?_)
  refine s_ic_lt C dX11_hold_6 (tgt := 11) rfl (fun c4 => ?_) (fun c4 => absurd c4 (by omega))
  refine a_aload_n C dX11_hold_11 (i := 0) rfl rfl ?_
  refine a_get C fl_RX11_61 (i := 0) kd_0 (hid 0 (by decide)) (v := .ref (ad 25)) rfl dX11_hold_12 ?_
  refine a_iload_n C dX11_hold_15 (i := 1) rfl rfl ?_
  refine s_aaldc C (i := 25) (y := 72) 2 (by omega) (Or.inr kd_25) (hid 25 (by decide)) (by rw [al_25]; decide) (by rw [kd_25]; rfl) dX11_hold_16 ?_
  refine a_aload_n C dX11_hold_17 (i := 0) rfl rfl ?_
  refine a_get C fl_RX11_54 (i := 0) kd_0 (hid 0 (by decide)) (v := .ref (ad 56)) rfl dX11_hold_18 ?_
  refine a_callVv C (i := 72) (n0 := 0) kd_72 (hid 72 (by decide)) ⟨_, _, rfl⟩ (by decide) (S_copy 0 4 rfl rfl (by decide) (by decide) hid hG) mi_X0_copy ml_RX11_230 rfl rfl (Nat.le_of_ble_eq_true rfl) (Nat.le_of_ble_eq_true rfl) (Nat.le_of_ble_eq_true rfl) dX11_hold_21 (fun σ5 q6 => ?_)
  obtain ⟨hG7, ho8⟩ := q6
  refine a_aload_n C dX11_hold_24 (i := 0) rfl rfl ?_
  refine a_get C fl_RX11_65 (i := 0) kd_0 (hid 0 (by decide)) (v := .ref (ad 26)) rfl dX11_hold_25 ?_
  refine a_iload_n C dX11_hold_28 (i := 1) rfl rfl ?_
  refine s_iconst C dX11_hold_29 (1) (by decide) (fun z9 h10 => ?_)
  refine s_zast C (i := 26) (nar_v (by omega)) kd_26 (hid 26 (by decide)) al_26 (by omega) (by omega) dX11_hold_30 (fun n11 h12 => ?_)
  have hG13 := wA_26 (v := z9) (j := n11) hG7
  refine s_iconst C dX11_hold_31 (1) (by decide) (fun z14 h15 => ?_)
  exact a_iret Rt dX11_hold_32 (nar_z (by omega)).1 (⟨hG13, (ony.I (ony.tr ony.rf (ony.mono ho8 (by decide))) (by decide)), (show 0 ≤ z14.toInt ∧ z14.toInt ≤ 1 by intros; omega), (show z14.toInt = 1 by intros; omega)⟩)
set_option maxHeartbeats 4000000 in
set_option maxRecDepth 100000 in
theorem V_X11_hold_0_t30_lo {l : Launch} {D : va_G} {ids : List Nat} {ad : Nat → Nat} {ca : Nat → ClassId} {σ : HS} {x1 : Int32} (hid : ∀ i, i < 277 → i ∈ ids) (hG : GIc σ) (htx0 : σ.2.2 0 = 30) (htx1 : σ.2.2 1 = 43) (hx1 : x1.toInt ≤ -1) : Ki l D ids ad ca yX11_hold cX11_hold 2 .boolean 0 0 [.ref (ad 0), .int x1] σ (fun r σ1 => (σ1 = σ) ∧ (0 ≤ r.toInt ∧ r.toInt ≤ 1) ∧ (r.toInt = 0)) := by
  refine Ki.of (by decide) (Nat.le_of_ble_eq_true rfl) 0 (fun Γ C Rt => ?_)
  show AW ids ad ca Γ 0 [some (.ref (ad 0)), some (.int x1)] [] σ
  refine a_iload_n C dX11_hold_0 (i := 1) rfl rfl ?_
  refine s_if_lt C dX11_hold_1 (tgt := 9) rfl (fun c1 => ?_) (fun c1 => absurd c1 (by omega))
  refine s_iconst C dX11_hold_9 (0) (by decide) (fun z2 h3 => ?_)
  exact a_iret Rt dX11_hold_10 (nar_z (by omega)).1 (⟨rfl, (show 0 ≤ z2.toInt ∧ z2.toInt ≤ 1 by intros; omega), (show z2.toInt = 0 by intros; omega)⟩)
set_option maxHeartbeats 4000000 in
set_option maxRecDepth 100000 in
theorem V_X11_hold_0_t30_hi {l : Launch} {D : va_G} {ids : List Nat} {ad : Nat → Nat} {ca : Nat → ClassId} {σ : HS} {x1 : Int32} (hid : ∀ i, i < 277 → i ∈ ids) (hG : GIc σ) (htx0 : σ.2.2 0 = 30) (htx1 : σ.2.2 1 = 43) (hx1 : 3 ≤ x1.toInt) : Ki l D ids ad ca yX11_hold cX11_hold 2 .boolean 0 0 [.ref (ad 0), .int x1] σ (fun r σ1 => (σ1 = σ) ∧ (0 ≤ r.toInt ∧ r.toInt ≤ 1) ∧ (r.toInt = 0)) := by
  refine Ki.of (by decide) (Nat.le_of_ble_eq_true rfl) 0 (fun Γ C Rt => ?_)
  show AW ids ad ca Γ 0 [some (.ref (ad 0)), some (.int x1)] [] σ
  refine a_iload_n C dX11_hold_0 (i := 1) rfl rfl ?_
  refine s_if_lt C dX11_hold_1 (tgt := 9) rfl (fun c1 => absurd c1 (by omega)) (fun c1 => ?_)
  refine a_iload_n C dX11_hold_4 (i := 1) rfl rfl ?_
  refine s_iconst C dX11_hold_5 (3) (by decide) (fun z2 h3 => ?_)
  refine s_ic_lt C dX11_hold_6 (tgt := 11) rfl (fun c4 => absurd c4 (by omega)) (fun c4 => ?_)
  refine s_iconst C dX11_hold_9 (0) (by decide) (fun z5 h6 => ?_)
  exact a_iret Rt dX11_hold_10 (nar_z (by omega)).1 (⟨rfl, (show 0 ≤ z5.toInt ∧ z5.toInt ≤ 1 by intros; omega), (show z5.toInt = 0 by intros; omega)⟩)
set_option maxHeartbeats 4000000 in
set_option maxRecDepth 100000 in
theorem V_X11_hold_0_t43_v0 {l : Launch} {D : va_G} {ids : List Nat} {ad : Nat → Nat} {ca : Nat → ClassId} {σ : HS} {x1 : Int32} (hid : ∀ i, i < 277 → i ∈ ids) (hG : GIc σ) (htx0 : σ.2.2 0 = 43) (htx1 : σ.2.2 1 = 30) (hx1 : 0 ≤ x1.toInt ∧ x1.toInt ≤ 0) : Ki l D ids ad ca yX11_hold cX11_hold 2 .boolean 2 81 [.ref (ad 0), .int x1] σ (fun r σ1 => (GIc σ1) ∧ (ony [26, 64, 65, 66, 67] σ σ1) ∧ (0 ≤ r.toInt ∧ r.toInt ≤ 1) ∧ (r.toInt = 1)) := by
  refine Ki.of (by decide) (Nat.le_of_ble_eq_true rfl) 0 (fun Γ C Rt => ?_)
  show AW ids ad ca Γ 0 [some (.ref (ad 0)), some (.int x1)] [] σ
  refine a_iload_n C dX11_hold_0 (i := 1) rfl rfl ?_
  refine s_if_lt C dX11_hold_1 (tgt := 9) rfl (fun c1 => absurd c1 (by omega)) (fun c1 => ?_)
  refine a_iload_n C dX11_hold_4 (i := 1) rfl rfl ?_
  refine s_iconst C dX11_hold_5 (3) (by decide) (fun z2 h3 => ?_)
  refine s_ic_lt C dX11_hold_6 (tgt := 11) rfl (fun c4 => ?_) (fun c4 => absurd c4 (by omega))
  refine a_aload_n C dX11_hold_11 (i := 0) rfl rfl ?_
  refine a_get C fl_RX11_61 (i := 0) kd_0 (hid 0 (by decide)) (v := .ref (ad 25)) rfl dX11_hold_12 ?_
  refine a_iload_n C dX11_hold_15 (i := 1) rfl rfl ?_
  refine s_aaldc C (i := 25) (y := 64) 0 (by omega) (Or.inr kd_25) (hid 25 (by decide)) (by rw [al_25]; decide) (by rw [kd_25]; rfl) dX11_hold_16 ?_
  refine a_aload_n C dX11_hold_17 (i := 0) rfl rfl ?_
  refine a_get C fl_RX11_54 (i := 0) kd_0 (hid 0 (by decide)) (v := .ref (ad 56)) rfl dX11_hold_18 ?_
  refine a_callVv C (i := 64) (n0 := 0) kd_64 (hid 64 (by decide)) ⟨_, _, rfl⟩ (by decide) (S_copy 0 2 rfl rfl (by decide) (by decide) hid hG) mi_X0_copy ml_RX11_230 rfl rfl (Nat.le_of_ble_eq_true rfl) (Nat.le_of_ble_eq_true rfl) (Nat.le_of_ble_eq_true rfl) dX11_hold_21 (fun σ5 q6 => ?_)
  obtain ⟨hG7, ho8⟩ := q6
  refine a_aload_n C dX11_hold_24 (i := 0) rfl rfl ?_
  refine a_get C fl_RX11_65 (i := 0) kd_0 (hid 0 (by decide)) (v := .ref (ad 26)) rfl dX11_hold_25 ?_
  refine a_iload_n C dX11_hold_28 (i := 1) rfl rfl ?_
  refine s_iconst C dX11_hold_29 (1) (by decide) (fun z9 h10 => ?_)
  refine s_zast C (i := 26) (nar_v (by omega)) kd_26 (hid 26 (by decide)) al_26 (by omega) (by omega) dX11_hold_30 (fun n11 h12 => ?_)
  have hG13 := wA_26 (v := z9) (j := n11) hG7
  refine s_iconst C dX11_hold_31 (1) (by decide) (fun z14 h15 => ?_)
  exact a_iret Rt dX11_hold_32 (nar_z (by omega)).1 (⟨hG13, (ony.I (ony.tr ony.rf (ony.mono ho8 (by decide))) (by decide)), (show 0 ≤ z14.toInt ∧ z14.toInt ≤ 1 by intros; omega), (show z14.toInt = 1 by intros; omega)⟩)
set_option maxHeartbeats 4000000 in
set_option maxRecDepth 100000 in
theorem V_X11_hold_0_t43_v1 {l : Launch} {D : va_G} {ids : List Nat} {ad : Nat → Nat} {ca : Nat → ClassId} {σ : HS} {x1 : Int32} (hid : ∀ i, i < 277 → i ∈ ids) (hG : GIc σ) (htx0 : σ.2.2 0 = 43) (htx1 : σ.2.2 1 = 30) (hx1 : 1 ≤ x1.toInt ∧ x1.toInt ≤ 1) : Ki l D ids ad ca yX11_hold cX11_hold 2 .boolean 2 81 [.ref (ad 0), .int x1] σ (fun r σ1 => (GIc σ1) ∧ (ony [26, 68, 69, 70, 71] σ σ1) ∧ (0 ≤ r.toInt ∧ r.toInt ≤ 1) ∧ (r.toInt = 1)) := by
  refine Ki.of (by decide) (Nat.le_of_ble_eq_true rfl) 0 (fun Γ C Rt => ?_)
  show AW ids ad ca Γ 0 [some (.ref (ad 0)), some (.int x1)] [] σ
  refine a_iload_n C dX11_hold_0 (i := 1) rfl rfl ?_
  refine s_if_lt C dX11_hold_1 (tgt := 9) rfl (fun c1 => absurd c1 (by omega)) (fun c1 => ?_)
  refine a_iload_n C dX11_hold_4 (i := 1) rfl rfl ?_
  refine s_iconst C dX11_hold_5 (3) (by decide) (fun z2 h3 => ?_)
  refine s_ic_lt C dX11_hold_6 (tgt := 11) rfl (fun c4 => ?_) (fun c4 => absurd c4 (by omega))
  refine a_aload_n C dX11_hold_11 (i := 0) rfl rfl ?_
  refine a_get C fl_RX11_61 (i := 0) kd_0 (hid 0 (by decide)) (v := .ref (ad 25)) rfl dX11_hold_12 ?_
  refine a_iload_n C dX11_hold_15 (i := 1) rfl rfl ?_
  refine s_aaldc C (i := 25) (y := 68) 1 (by omega) (Or.inr kd_25) (hid 25 (by decide)) (by rw [al_25]; decide) (by rw [kd_25]; rfl) dX11_hold_16 ?_
  refine a_aload_n C dX11_hold_17 (i := 0) rfl rfl ?_
  refine a_get C fl_RX11_54 (i := 0) kd_0 (hid 0 (by decide)) (v := .ref (ad 56)) rfl dX11_hold_18 ?_
  refine a_callVv C (i := 68) (n0 := 0) kd_68 (hid 68 (by decide)) ⟨_, _, rfl⟩ (by decide) (S_copy 0 3 rfl rfl (by decide) (by decide) hid hG) mi_X0_copy ml_RX11_230 rfl rfl (Nat.le_of_ble_eq_true rfl) (Nat.le_of_ble_eq_true rfl) (Nat.le_of_ble_eq_true rfl) dX11_hold_21 (fun σ5 q6 => ?_)
  obtain ⟨hG7, ho8⟩ := q6
  refine a_aload_n C dX11_hold_24 (i := 0) rfl rfl ?_
  refine a_get C fl_RX11_65 (i := 0) kd_0 (hid 0 (by decide)) (v := .ref (ad 26)) rfl dX11_hold_25 ?_
  refine a_iload_n C dX11_hold_28 (i := 1) rfl rfl ?_
  refine s_iconst C dX11_hold_29 (1) (by decide) (fun z9 h10 => ?_)
  refine s_zast C (i := 26) (nar_v (by omega)) kd_26 (hid 26 (by decide)) al_26 (by omega) (by omega) dX11_hold_30 (fun n11 h12 => ?_)
  have hG13 := wA_26 (v := z9) (j := n11) hG7
  refine s_iconst C dX11_hold_31 (1) (by decide) (fun z14 h15 => ?_)
  exact a_iret Rt dX11_hold_32 (nar_z (by omega)).1 (⟨hG13, (ony.I (ony.tr ony.rf (ony.mono ho8 (by decide))) (by decide)), (show 0 ≤ z14.toInt ∧ z14.toInt ≤ 1 by intros; omega), (show z14.toInt = 1 by intros; omega)⟩)
set_option maxHeartbeats 4000000 in
set_option maxRecDepth 100000 in
theorem V_X11_hold_0_t43_v2 {l : Launch} {D : va_G} {ids : List Nat} {ad : Nat → Nat} {ca : Nat → ClassId} {σ : HS} {x1 : Int32} (hid : ∀ i, i < 277 → i ∈ ids) (hG : GIc σ) (htx0 : σ.2.2 0 = 43) (htx1 : σ.2.2 1 = 30) (hx1 : 2 ≤ x1.toInt ∧ x1.toInt ≤ 2) : Ki l D ids ad ca yX11_hold cX11_hold 2 .boolean 2 81 [.ref (ad 0), .int x1] σ (fun r σ1 => (GIc σ1) ∧ (ony [26, 72, 73, 74, 75] σ σ1) ∧ (0 ≤ r.toInt ∧ r.toInt ≤ 1) ∧ (r.toInt = 1)) := by
  refine Ki.of (by decide) (Nat.le_of_ble_eq_true rfl) 0 (fun Γ C Rt => ?_)
  show AW ids ad ca Γ 0 [some (.ref (ad 0)), some (.int x1)] [] σ
  refine a_iload_n C dX11_hold_0 (i := 1) rfl rfl ?_
  refine s_if_lt C dX11_hold_1 (tgt := 9) rfl (fun c1 => absurd c1 (by omega)) (fun c1 => ?_)
  refine a_iload_n C dX11_hold_4 (i := 1) rfl rfl ?_
  refine s_iconst C dX11_hold_5 (3) (by decide) (fun z2 h3 => ?_)
  refine s_ic_lt C dX11_hold_6 (tgt := 11) rfl (fun c4 => ?_) (fun c4 => absurd c4 (by omega))
  refine a_aload_n C dX11_hold_11 (i := 0) rfl rfl ?_
  refine a_get C fl_RX11_61 (i := 0) kd_0 (hid 0 (by decide)) (v := .ref (ad 25)) rfl dX11_hold_12 ?_
  refine a_iload_n C dX11_hold_15 (i := 1) rfl rfl ?_
  refine s_aaldc C (i := 25) (y := 72) 2 (by omega) (Or.inr kd_25) (hid 25 (by decide)) (by rw [al_25]; decide) (by rw [kd_25]; rfl) dX11_hold_16 ?_
  refine a_aload_n C dX11_hold_17 (i := 0) rfl rfl ?_
  refine a_get C fl_RX11_54 (i := 0) kd_0 (hid 0 (by decide)) (v := .ref (ad 56)) rfl dX11_hold_18 ?_
  refine a_callVv C (i := 72) (n0 := 0) kd_72 (hid 72 (by decide)) ⟨_, _, rfl⟩ (by decide) (S_copy 0 4 rfl rfl (by decide) (by decide) hid hG) mi_X0_copy ml_RX11_230 rfl rfl (Nat.le_of_ble_eq_true rfl) (Nat.le_of_ble_eq_true rfl) (Nat.le_of_ble_eq_true rfl) dX11_hold_21 (fun σ5 q6 => ?_)
  obtain ⟨hG7, ho8⟩ := q6
  refine a_aload_n C dX11_hold_24 (i := 0) rfl rfl ?_
  refine a_get C fl_RX11_65 (i := 0) kd_0 (hid 0 (by decide)) (v := .ref (ad 26)) rfl dX11_hold_25 ?_
  refine a_iload_n C dX11_hold_28 (i := 1) rfl rfl ?_
  refine s_iconst C dX11_hold_29 (1) (by decide) (fun z9 h10 => ?_)
  refine s_zast C (i := 26) (nar_v (by omega)) kd_26 (hid 26 (by decide)) al_26 (by omega) (by omega) dX11_hold_30 (fun n11 h12 => ?_)
  have hG13 := wA_26 (v := z9) (j := n11) hG7
  refine s_iconst C dX11_hold_31 (1) (by decide) (fun z14 h15 => ?_)
  exact a_iret Rt dX11_hold_32 (nar_z (by omega)).1 (⟨hG13, (ony.I (ony.tr ony.rf (ony.mono ho8 (by decide))) (by decide)), (show 0 ≤ z14.toInt ∧ z14.toInt ≤ 1 by intros; omega), (show z14.toInt = 1 by intros; omega)⟩)
set_option maxHeartbeats 4000000 in
set_option maxRecDepth 100000 in
theorem V_X11_hold_0_t43_lo {l : Launch} {D : va_G} {ids : List Nat} {ad : Nat → Nat} {ca : Nat → ClassId} {σ : HS} {x1 : Int32} (hid : ∀ i, i < 277 → i ∈ ids) (hG : GIc σ) (htx0 : σ.2.2 0 = 43) (htx1 : σ.2.2 1 = 30) (hx1 : x1.toInt ≤ -1) : Ki l D ids ad ca yX11_hold cX11_hold 2 .boolean 0 0 [.ref (ad 0), .int x1] σ (fun r σ1 => (σ1 = σ) ∧ (0 ≤ r.toInt ∧ r.toInt ≤ 1) ∧ (r.toInt = 0)) := by
  refine Ki.of (by decide) (Nat.le_of_ble_eq_true rfl) 0 (fun Γ C Rt => ?_)
  show AW ids ad ca Γ 0 [some (.ref (ad 0)), some (.int x1)] [] σ
  refine a_iload_n C dX11_hold_0 (i := 1) rfl rfl ?_
  refine s_if_lt C dX11_hold_1 (tgt := 9) rfl (fun c1 => ?_) (fun c1 => absurd c1 (by omega))
  refine s_iconst C dX11_hold_9 (0) (by decide) (fun z2 h3 => ?_)
  exact a_iret Rt dX11_hold_10 (nar_z (by omega)).1 (⟨rfl, (show 0 ≤ z2.toInt ∧ z2.toInt ≤ 1 by intros; omega), (show z2.toInt = 0 by intros; omega)⟩)
set_option maxHeartbeats 4000000 in
set_option maxRecDepth 100000 in
theorem V_X11_hold_0_t43_hi {l : Launch} {D : va_G} {ids : List Nat} {ad : Nat → Nat} {ca : Nat → ClassId} {σ : HS} {x1 : Int32} (hid : ∀ i, i < 277 → i ∈ ids) (hG : GIc σ) (htx0 : σ.2.2 0 = 43) (htx1 : σ.2.2 1 = 30) (hx1 : 3 ≤ x1.toInt) : Ki l D ids ad ca yX11_hold cX11_hold 2 .boolean 0 0 [.ref (ad 0), .int x1] σ (fun r σ1 => (σ1 = σ) ∧ (0 ≤ r.toInt ∧ r.toInt ≤ 1) ∧ (r.toInt = 0)) := by
  refine Ki.of (by decide) (Nat.le_of_ble_eq_true rfl) 0 (fun Γ C Rt => ?_)
  show AW ids ad ca Γ 0 [some (.ref (ad 0)), some (.int x1)] [] σ
  refine a_iload_n C dX11_hold_0 (i := 1) rfl rfl ?_
  refine s_if_lt C dX11_hold_1 (tgt := 9) rfl (fun c1 => absurd c1 (by omega)) (fun c1 => ?_)
  refine a_iload_n C dX11_hold_4 (i := 1) rfl rfl ?_
  refine s_iconst C dX11_hold_5 (3) (by decide) (fun z2 h3 => ?_)
  refine s_ic_lt C dX11_hold_6 (tgt := 11) rfl (fun c4 => absurd c4 (by omega)) (fun c4 => ?_)
  refine s_iconst C dX11_hold_9 (0) (by decide) (fun z5 h6 => ?_)
  exact a_iret Rt dX11_hold_10 (nar_z (by omega)).1 (⟨rfl, (show 0 ≤ z5.toInt ∧ z5.toInt ≤ 1 by intros; omega), (show z5.toInt = 0 by intros; omega)⟩)
set_option maxHeartbeats 4000000 in
set_option maxRecDepth 100000 in
theorem V_X12_in {l : Launch} {D : va_G} {ids : List Nat} {ad : Nat → Nat} {ca : Nat → ClassId} {σ : HS} {x1 : Int32} {x2 : Int32} {x3 : Int32} (hid : ∀ i, i < 277 → i ∈ ids) (hG : GIm σ) : Ki l D ids ad ca yX12_in cX12_in 3 .boolean 0 0 [.int x1, .int x2, .int x3] σ (fun r σ1 => (σ1 = σ) ∧ (0 ≤ r.toInt ∧ r.toInt ≤ 1) ∧ (r.toInt = 1 → x2.toInt ≤ x1.toInt ∧ x1.toInt ≤ x3.toInt) ∧ (r.toInt = 0 → x1.toInt < x2.toInt ∨ x3.toInt < x1.toInt)) := by
  refine Ki.of (by decide) (Nat.le_of_ble_eq_true rfl) 0 (fun Γ C Rt => ?_)
  show AW ids ad ca Γ 0 [some (.int x1), some (.int x2), some (.int x3)] [] σ
  refine a_iload_n C dX12_in_0 (i := 0) rfl rfl ?_
  refine a_iload_n C dX12_in_1 (i := 1) rfl rfl ?_
  refine s_ic_lt C dX12_in_2 (tgt := 14) rfl (fun c1 => ?_) (fun c1 => ?_)
  ·
    refine s_iconst C dX12_in_14 (0) (by decide) (fun z2 h3 => ?_)
    exact a_iret Rt dX12_in_15 (nar_z (by omega)).1 (⟨rfl, (show 0 ≤ z2.toInt ∧ z2.toInt ≤ 1 by intros; omega), (show z2.toInt = 1 → x2.toInt ≤ x1.toInt ∧ x1.toInt ≤ x3.toInt by intros; omega), (show z2.toInt = 0 → x1.toInt < x2.toInt ∨ x3.toInt < x1.toInt by intros; omega)⟩)
  ·
    refine a_iload_n C dX12_in_5 (i := 0) rfl rfl ?_
    refine a_iload_n C dX12_in_6 (i := 2) rfl rfl ?_
    refine s_ic_gt C dX12_in_7 (tgt := 14) rfl (fun c4 => ?_) (fun c4 => ?_)
    ·
      refine s_iconst C dX12_in_14 (0) (by decide) (fun z5 h6 => ?_)
      exact a_iret Rt dX12_in_15 (nar_z (by omega)).1 (⟨rfl, (show 0 ≤ z5.toInt ∧ z5.toInt ≤ 1 by intros; omega), (show z5.toInt = 1 → x2.toInt ≤ x1.toInt ∧ x1.toInt ≤ x3.toInt by intros; omega), (show z5.toInt = 0 → x1.toInt < x2.toInt ∨ x3.toInt < x1.toInt by intros; omega)⟩)
    ·
      refine s_iconst C dX12_in_10 (1) (by decide) (fun z7 h8 => ?_)
      refine a_goto C dX12_in_11 (tgt := 15) rfl ?_
      exact a_iret Rt dX12_in_15 (nar_z (by omega)).1 (⟨rfl, (show 0 ≤ z7.toInt ∧ z7.toInt ≤ 1 by intros; omega), (show z7.toInt = 1 → x2.toInt ≤ x1.toInt ∧ x1.toInt ≤ x3.toInt by intros; omega), (show z7.toInt = 0 → x1.toInt < x2.toInt ∨ x3.toInt < x1.toInt by intros; omega)⟩)
set_option maxHeartbeats 4000000 in
set_option maxRecDepth 100000 in
theorem V_X12_hold_236 {l : Launch} {D : va_G} {ids : List Nat} {ad : Nat → Nat} {ca : Nat → ClassId} {σ : HS} {x1 : Int32} (hid : ∀ i, i < 277 → i ∈ ids) (hG : GIm σ) {b : Int} (hR : RKm b σ) : Ki l D ids ad ca yX12_hold cX12_hold 3 .boolean 1 22 [.ref (ad 236), .int x1] σ (fun r σ1 => (GIm σ1) ∧ (onm [275, 276] σ σ1) ∧ (RKm b σ1) ∧ (0 ≤ r.toInt ∧ r.toInt ≤ 1) ∧ (0 ≤ x1.toInt → x1.toInt ≤ 2 → r.toInt = 1) ∧ (x1.toInt < 0 → r.toInt = 0) ∧ (2 < x1.toInt → r.toInt = 0)) := by
  refine Ki.of (by decide) (Nat.le_of_ble_eq_true rfl) 1 (fun Γ C Rt => ?_)
  show AW ids ad ca Γ 0 [some (.ref (ad 236)), some (.int x1), none] [] σ
  have j20 : ∀ (d20 : Nat) (σq20 : HS) (y20_2 : Int32), 31 - y20_2.toInt < d20 → GIm σq20 → onm [275, 276] σ σq20 → 0 ≤ y20_2.toInt ∧ y20_2.toInt ≤ 31 → 0 ≤ x1.toInt ∧ x1.toInt ≤ 2 → (∀ s : Nat, s ≠ x1.toInt.toNat → σq20.1 275 s = σ.1 275 s) → (∀ q : Nat, (q : Int) < y20_2.toInt → σq20.1 276 ((29 * x1.toInt.toNat) + q) = σ.1 266 (0 + q)) → (∀ q : Nat, (q < 29 * x1.toInt.toNat ∨ 29 * x1.toInt.toNat + 29 ≤ q) → σq20.1 276 q = σ.1 276 q) → AW ids ad ca Γ 20 [some (.ref (ad 236)), some (.int x1), some (.int y20_2)] [] σq20 := by
    intro d20
    induction d20 with
    | zero =>
      intro σq20 y20_2 hd20 hGq20 hoq20 hx20_0 hx20_1 hx20_2 hx20_3 hx20_4
      exfalso
      omega
    | succ d20 ih20 =>
      intro σq20 y20_2 hd20 hGq20 hoq20 hx20_0 hx20_1 hx20_2 hx20_3 hx20_4
      refine a_iload_n C dX12_hold_20 (i := 2) rfl rfl ?_
      refine s_bipush C dX12_hold_21 (29) (by decide) (fun z1 h2 => ?_)
      refine s_ic_ge C dX12_hold_23 (tgt := 49) rfl (fun c3 => ?_) (fun c3 => ?_)
      ·
        refine s_iconst C dX12_hold_49 (1) (by decide) (fun z4 h5 => ?_)
        exact a_iret Rt dX12_hold_50 (nar_z (by omega)).1 (⟨hGq20, hoq20, (RKm.ony3 (c := b) hR (hoq20 : onm [275, 276] σ σq20) (by decide) (hR.now).2.2.2.2 (hR.rw.eq ((hoq20 : onm [275, 276] σ σq20).1 267 21 (by decide)) ((hoq20 : onm [275, 276] σ σq20).1 267 26 (by decide)) ((hoq20 : onm [275, 276] σ σq20).1 267 27 (by decide))) (hR.nw.eq (congrFun ((hoq20 : onm [275, 276] σ σq20).a (i := 266) (by decide)) 21) (congrFun ((hoq20 : onm [275, 276] σ σq20).a (i := 266) (by decide)) 26) (congrFun ((hoq20 : onm [275, 276] σ σq20).a (i := 266) (by decide)) 27)) (fun u hu => by rw [((hoq20 : onm [275, 276] σ σq20).a (i := 268) (by decide))]; exact hR.hist u (by rw [(hoq20 : onm [275, 276] σ σq20).1 236 54 (by decide)] at hu; exact hu)) (fun s hs e9 => by
        by_cases e8 : s = x1.toInt.toNat
        · rw [e8]; exact hR.nw.eq (show σq20.1 276 ((29 * x1.toInt.toNat) + 21) = σ.1 266 (0 + 21) from hx20_3 21 (by omega)) (show σq20.1 276 ((29 * x1.toInt.toNat) + 26) = σ.1 266 (0 + 26) from hx20_3 26 (by omega)) (show σq20.1 276 ((29 * x1.toInt.toNat) + 27) = σ.1 266 (0 + 27) from hx20_3 27 (by omega))
        · exact (hR.helds s hs (by rw [← hx20_2 s e8]; exact e9)).eq (hx20_4 _ (by omega)) (hx20_4 _ (by omega)) (hx20_4 _ (by omega)))), (show 0 ≤ z4.toInt ∧ z4.toInt ≤ 1 by intros; omega), (show 0 ≤ x1.toInt → x1.toInt ≤ 2 → z4.toInt = 1 by intros; omega), (show x1.toInt < 0 → z4.toInt = 0 by intros; omega), (show 2 < x1.toInt → z4.toInt = 0 by intros; omega)⟩)
      ·
        refine a_aload_n C dX12_hold_26 (i := 0) rfl rfl ?_
        refine a_get C fl_RX12_137 (i := 236) kd_236 (hid 236 (by decide)) (v := .ref (ad 276)) rfl dX12_hold_27 ?_
        refine s_bipush C dX12_hold_30 (29) (by decide) (fun z6 h7 => ?_)
        refine a_iload_n C dX12_hold_32 (i := 1) rfl rfl ?_
        refine s_imuld C dX12_hold_33 (29) (by omega) (by omega) (fun z8 h9 => ?_)
        refine a_iload_n C dX12_hold_34 (i := 2) rfl rfl ?_
        refine s_iadd C dX12_hold_35 (by omega) (fun z10 h11 => ?_)
        refine a_aload_n C dX12_hold_36 (i := 0) rfl rfl ?_
        refine a_get C fl_RX12_107 (i := 236) kd_236 (hid 236 (by decide)) (v := .ref (ad 266)) rfl dX12_hold_37 ?_
        refine a_iload_n C dX12_hold_40 (i := 2) rfl rfl ?_
        refine s_iald C (i := 266) kd_266 (hid 266 (by decide)) al_266 (by omega) (by omega) dX12_hold_41 (fun n12 h13 => ?_)
        refine s_val (fun z14 e15 => ?_)
        refine s_iast C (i := 276) kd_276 (hid 276 (by decide)) al_276 (by omega) (by omega) dX12_hold_42 (fun n16 h17 => ?_)
        have hG18 := wA_276 (v := z14) (j := n16) hGq20
        refine s_iinc C dX12_hold_43 rfl (1) (by decide) (by omega) (by decide) rfl (fun z19 h20 => ?_)
        show AW ids ad ca Γ 46 [some (.ref (ad 236)), some (.int x1), some (.int z19)] _ _
        refine a_goto C dX12_hold_46 (tgt := 20) rfl ?_
        exact ih20 _ z19 (by omega) hG18 (onm.I hoq20 (by decide)) (by omega) (by omega) hx20_2 (cp_step (i := 276) (a := (29 * x1.toInt.toNat)) (n := n16) (n1 := y20_2.toInt.toNat) (k := y20_2) (f := fun q => σ.1 266 (0 + q)) hx20_3 (by omega) (by omega) (by omega) (show σ.1 266 (0 + y20_2.toInt.toNat) = _ from by rw [show 0 + y20_2.toInt.toNat = n12 by omega]; exact ((congrFun (hoq20.a (i := 266) (by decide)) n12).symm.trans e15))) (fr_step (i := 276) (a := 29 * x1.toInt.toNat) (n := n16) hx20_4 (by omega))
  refine a_iload_n C dX12_hold_0 (i := 1) rfl rfl ?_
  refine s_iconst C dX12_hold_1 (0) (by decide) (fun z21 h22 => ?_)
  refine s_iconst C dX12_hold_2 (2) (by decide) (fun z23 h24 => ?_)
  refine a_callSi C (V_X12_in (x1 := x1) (x2 := z21) (x3 := z23) hid hG) ms_X12_in ml_RX12_301 rfl rfl (Nat.le_of_ble_eq_true rfl) (Nat.le_of_ble_eq_true rfl) (Nat.le_of_ble_eq_true rfl) dX12_hold_3 (fun z25 σ26 q27 => ?_)
  obtain ⟨w28, w29, w30, w31⟩ := q27
  rw [w28]
  refine s_if_ne C dX12_hold_6 (tgt := 11) rfl (fun c32 => ?_) (fun c32 => ?_)
  ·
    refine a_aload_n C dX12_hold_11 (i := 0) rfl rfl ?_
    refine a_get C fl_RX12_134 (i := 236) kd_236 (hid 236 (by decide)) (v := .ref (ad 275)) rfl dX12_hold_12 ?_
    refine a_iload_n C dX12_hold_15 (i := 1) rfl rfl ?_
    refine s_iconst C dX12_hold_16 (1) (by decide) (fun z33 h34 => ?_)
    refine s_zast C (i := 275) (nar_v (by omega)) kd_275 (hid 275 (by decide)) al_275 (by omega) (by omega) dX12_hold_17 (fun n35 h36 => ?_)
    have hG37 := wA_275 (v := z33) (j := n35) hG
    refine s_iconst C dX12_hold_18 (0) (by decide) (fun z38 h39 => ?_)
    refine a_istore_n C dX12_hold_19 (i := 2) rfl (by decide) rfl (vs1 := [some (.ref (ad 236)), some (.int x1), some (.int z38)]) rfl ?_
    exact j20 100000 _ z38 (by omega) hG37 (onm.I onm.rf (by decide)) (by omega) (by omega) (fun s hs => hI_n (by omega)) (fun q hq => absurd hq (by omega)) (fun q hq => rfl)
  ·
    refine s_iconst C dX12_hold_9 (0) (by decide) (fun z40 h41 => ?_)
    exact a_iret Rt dX12_hold_10 (nar_z (by omega)).1 (⟨hG, onm.rf, hR, (show 0 ≤ z40.toInt ∧ z40.toInt ≤ 1 by intros; omega), (show 0 ≤ x1.toInt → x1.toInt ≤ 2 → z40.toInt = 1 by intros; omega), (show x1.toInt < 0 → z40.toInt = 0 by intros; omega), (show 2 < x1.toInt → z40.toInt = 0 by intros; omega)⟩)
