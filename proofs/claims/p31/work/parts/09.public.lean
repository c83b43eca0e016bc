theorem dX11_thing_0 : decode cX11_thing 0 = .ok (.aload_n 0, 1) := by decide +kernel
theorem dX11_thing_1 : decode cX11_thing 1 = .ok (.getfield 82, 3) := by decide +kernel
theorem dX11_thing_4 : decode cX11_thing 4 = .ok (.iload_n 1, 1) := by decide +kernel
theorem dX11_thing_5 : decode cX11_thing 5 = .ok (.invokevirtual 121, 3) := by decide +kernel
theorem dX11_thing_8 : decode cX11_thing 8 = .ok (.ifCond .ne 5, 3) := by decide +kernel
theorem dX11_thing_11 : decode cX11_thing 11 = .ok (.iconst (-1), 1) := by decide +kernel
theorem dX11_thing_12 : decode cX11_thing 12 = .ok (.ireturn, 1) := by decide +kernel
set_option maxHeartbeats 4000000 in
set_option maxRecDepth 100000 in
theorem p_thing {l : Launch} {D : va_G} {ids : List Nat} {ad : Nat → Nat} {ca : Nat → ClassId} {σ : HS} {p0 : Int32} {p1 : Int32} (hid : ∀ i, i < 277 → i ∈ ids) (htx0 : σ.2.2 0 = 30) (h_30_0 : σ.1 30 0 = 0) : Ki l D ids ad ca yX11_thing cX11_thing 3 .int 1 21 [.ref (ad 0), .int p0, .int p1] σ (fun r σ1 => r = (-1) ∧ keepM σ σ1) := by
  refine Ki.of (by decide) (Nat.le_of_ble_eq_true rfl) 0 (fun Γ C Rt => ?_)
  show AW ids ad ca Γ 0 [some (.ref (ad 0)), some (.int p0), some (.int p1)] [] σ
  refine a_aload_n C dX11_thing_0 (i := 0) rfl rfl ?_
  refine a_get C fl_RX11_82 (i := 0) kd_0 (hid 0 (by decide)) (v := .ref (ad 30)) (congrArg (fun z => some (Value.ref (ad z))) htx0) dX11_thing_1 ?_
  refine a_iload_n C dX11_thing_4 (i := 1) rfl rfl ?_
  refine a_callVi C (i := 30) kd_30 (hid 30 (by decide)) ⟨_, _, rfl⟩ (by decide) (k_hasThing hid h_30_0) mi_X10_hasThing ml_RX11_121 rfl rfl (Nat.le_of_ble_eq_true rfl) (Nat.le_of_ble_eq_true rfl) (Nat.le_of_ble_eq_true rfl) dX11_thing_5 (fun r1 σ2 q3 => ?_)
  obtain ⟨rfl, q3⟩ := q3
  rw [q3]
  refine a_if_ne C dX11_thing_8 (tgt := 13) rfl (fun h => absurd h (by decide)) (fun _ => ?_)
  refine a_iconst C dX11_thing_11 (v := (-1)) rfl ?_
  exact a_iret Rt dX11_thing_12 rfl (⟨rfl, keepM.rf⟩)
theorem dX11_pattern_0 : decode cX11_pattern 0 = .ok (.aload_n 0, 1) := by decide +kernel
theorem dX11_pattern_1 : decode cX11_pattern 1 = .ok (.getfield 82, 3) := by decide +kernel
theorem dX11_pattern_4 : decode cX11_pattern 4 = .ok (.iload_n 1, 1) := by decide +kernel
theorem dX11_pattern_5 : decode cX11_pattern 5 = .ok (.invokevirtual 143, 3) := by decide +kernel
theorem dX11_pattern_8 : decode cX11_pattern 8 = .ok (.ifCond .ne 5, 3) := by decide +kernel
theorem dX11_pattern_11 : decode cX11_pattern 11 = .ok (.iconst (-1), 1) := by decide +kernel
theorem dX11_pattern_12 : decode cX11_pattern 12 = .ok (.ireturn, 1) := by decide +kernel
set_option maxHeartbeats 4000000 in
set_option maxRecDepth 100000 in
theorem p_pattern {l : Launch} {D : va_G} {ids : List Nat} {ad : Nat → Nat} {ca : Nat → ClassId} {σ : HS} {p0 : Int32} {p1 : Int32} (hid : ∀ i, i < 277 → i ∈ ids) (htx0 : σ.2.2 0 = 30) (h_30_4 : σ.1 30 4 = 0) : Ki l D ids ad ca yX11_pattern cX11_pattern 3 .int 1 21 [.ref (ad 0), .int p0, .int p1] σ (fun r σ1 => r = (-1) ∧ keepM σ σ1) := by
  refine Ki.of (by decide) (Nat.le_of_ble_eq_true rfl) 0 (fun Γ C Rt => ?_)
  show AW ids ad ca Γ 0 [some (.ref (ad 0)), some (.int p0), some (.int p1)] [] σ
  refine a_aload_n C dX11_pattern_0 (i := 0) rfl rfl ?_
  refine a_get C fl_RX11_82 (i := 0) kd_0 (hid 0 (by decide)) (v := .ref (ad 30)) (congrArg (fun z => some (Value.ref (ad z))) htx0) dX11_pattern_1 ?_
  refine a_iload_n C dX11_pattern_4 (i := 1) rfl rfl ?_
  refine a_callVi C (i := 30) kd_30 (hid 30 (by decide)) ⟨_, _, rfl⟩ (by decide) (k_hasPattern hid h_30_4) mi_X10_hasPattern ml_RX11_143 rfl rfl (Nat.le_of_ble_eq_true rfl) (Nat.le_of_ble_eq_true rfl) (Nat.le_of_ble_eq_true rfl) dX11_pattern_5 (fun r1 σ2 q3 => ?_)
  obtain ⟨rfl, q3⟩ := q3
  rw [q3]
  refine a_if_ne C dX11_pattern_8 (tgt := 13) rfl (fun h => absurd h (by decide)) (fun _ => ?_)
  refine a_iconst C dX11_pattern_11 (v := (-1)) rfl ?_
  exact a_iret Rt dX11_pattern_12 rfl (⟨rfl, keepM.rf⟩)
theorem dX11_tells_0 : decode cX11_tells 0 = .ok (.aload_n 0, 1) := by decide +kernel
theorem dX11_tells_1 : decode cX11_tells 1 = .ok (.getfield 82, 3) := by decide +kernel
theorem dX11_tells_4 : decode cX11_tells 4 = .ok (.iload_n 1, 1) := by decide +kernel
theorem dX11_tells_5 : decode cX11_tells 5 = .ok (.invokevirtual 121, 3) := by decide +kernel
theorem dX11_tells_8 : decode cX11_tells 8 = .ok (.ifCond .eq 12, 3) := by decide +kernel
theorem dX11_tells_20 : decode cX11_tells 20 = .ok (.bipush (-100), 2) := by decide +kernel
theorem dX11_tells_22 : decode cX11_tells 22 = .ok (.ireturn, 1) := by decide +kernel
set_option maxHeartbeats 4000000 in
set_option maxRecDepth 100000 in
theorem p_tells {l : Launch} {D : va_G} {ids : List Nat} {ad : Nat → Nat} {ca : Nat → ClassId} {σ : HS} {p0 : Int32} {p1 : Int32} {p2 : Int32} (hid : ∀ i, i < 277 → i ∈ ids) (htx0 : σ.2.2 0 = 30) (h_30_0 : σ.1 30 0 = 0) : Ki l D ids ad ca yX11_tells cX11_tells 5 .int 1 21 [.ref (ad 0), .int p0, .int p1, .int p2] σ (fun r σ1 => r = (-100) ∧ keepM σ σ1) := by
  refine Ki.of (by decide) (Nat.le_of_ble_eq_true rfl) 1 (fun Γ C Rt => ?_)
  show AW ids ad ca Γ 0 [some (.ref (ad 0)), some (.int p0), some (.int p1), some (.int p2), none] [] σ
  refine a_aload_n C dX11_tells_0 (i := 0) rfl rfl ?_
  refine a_get C fl_RX11_82 (i := 0) kd_0 (hid 0 (by decide)) (v := .ref (ad 30)) (congrArg (fun z => some (Value.ref (ad z))) htx0) dX11_tells_1 ?_
  refine a_iload_n C dX11_tells_4 (i := 1) rfl rfl ?_
  refine a_callVi C (i := 30) kd_30 (hid 30 (by decide)) ⟨_, _, rfl⟩ (by decide) (k_hasThing hid h_30_0) mi_X10_hasThing ml_RX11_121 rfl rfl (Nat.le_of_ble_eq_true rfl) (Nat.le_of_ble_eq_true rfl) (Nat.le_of_ble_eq_true rfl) dX11_tells_5 (fun r1 σ2 q3 => ?_)
  obtain ⟨rfl, q3⟩ := q3
  rw [q3]
  refine a_if_eq C dX11_tells_8 (tgt := 20) rfl (fun _ => ?_) (fun h => absurd h (by decide))
  refine a_bipush C dX11_tells_20 (v := (-100)) rfl ?_
  exact a_iret Rt dX11_tells_22 rfl (⟨rfl, keepM.rf⟩)
theorem dX11_throwIn_0 : decode cX11_throwIn 0 = .ok (.aload_n 0, 1) := by decide +kernel
theorem dX11_throwIn_1 : decode cX11_throwIn 1 = .ok (.getfield 82, 3) := by decide +kernel
theorem dX11_throwIn_4 : decode cX11_throwIn 4 = .ok (.iload_n 1, 1) := by decide +kernel
theorem dX11_throwIn_5 : decode cX11_throwIn 5 = .ok (.invokevirtual 121, 3) := by decide +kernel
theorem dX11_throwIn_8 : decode cX11_throwIn 8 = .ok (.ifCond .eq 21, 3) := by decide +kernel
theorem dX11_throwIn_29 : decode cX11_throwIn 29 = .ok (.iconst 0, 1) := by decide +kernel
theorem dX11_throwIn_30 : decode cX11_throwIn 30 = .ok (.ireturn, 1) := by decide +kernel
set_option maxHeartbeats 4000000 in
set_option maxRecDepth 100000 in
theorem p_throwIn {l : Launch} {D : va_G} {ids : List Nat} {ad : Nat → Nat} {ca : Nat → ClassId} {σ : HS} {p0 : Int32} {p1 : Int32} (hid : ∀ i, i < 277 → i ∈ ids) (htx0 : σ.2.2 0 = 30) (h_30_0 : σ.1 30 0 = 0) : Ki l D ids ad ca yX11_throwIn cX11_throwIn 3 .boolean 1 21 [.ref (ad 0), .int p0, .int p1] σ (fun r σ1 => r = 0 ∧ keepM σ σ1) := by
  refine Ki.of (by decide) (Nat.le_of_ble_eq_true rfl) 0 (fun Γ C Rt => ?_)
  show AW ids ad ca Γ 0 [some (.ref (ad 0)), some (.int p0), some (.int p1)] [] σ
  refine a_aload_n C dX11_throwIn_0 (i := 0) rfl rfl ?_
  refine a_get C fl_RX11_82 (i := 0) kd_0 (hid 0 (by decide)) (v := .ref (ad 30)) (congrArg (fun z => some (Value.ref (ad z))) htx0) dX11_throwIn_1 ?_
  refine a_iload_n C dX11_throwIn_4 (i := 1) rfl rfl ?_
  refine a_callVi C (i := 30) kd_30 (hid 30 (by decide)) ⟨_, _, rfl⟩ (by decide) (k_hasThing hid h_30_0) mi_X10_hasThing ml_RX11_121 rfl rfl (Nat.le_of_ble_eq_true rfl) (Nat.le_of_ble_eq_true rfl) (Nat.le_of_ble_eq_true rfl) dX11_throwIn_5 (fun r1 σ2 q3 => ?_)
  obtain ⟨rfl, q3⟩ := q3
  rw [q3]
  refine a_if_eq C dX11_throwIn_8 (tgt := 29) rfl (fun _ => ?_) (fun h => absurd h (by decide))
  refine a_iconst C dX11_throwIn_29 (v := 0) rfl ?_
  exact a_iret Rt dX11_throwIn_30 rfl (⟨rfl, keepM.rf⟩)
theorem dX11_use_0 : decode cX11_use 0 = .ok (.aload_n 0, 1) := by decide +kernel
theorem dX11_use_1 : decode cX11_use 1 = .ok (.getfield 82, 3) := by decide +kernel
theorem dX11_use_4 : decode cX11_use 4 = .ok (.iload_n 1, 1) := by decide +kernel
theorem dX11_use_5 : decode cX11_use 5 = .ok (.invokevirtual 143, 3) := by decide +kernel
theorem dX11_use_8 : decode cX11_use 8 = .ok (.ifCond .ne 5, 3) := by decide +kernel
theorem dX11_use_11 : decode cX11_use 11 = .ok (.iconst 0, 1) := by decide +kernel
theorem dX11_use_12 : decode cX11_use 12 = .ok (.ireturn, 1) := by decide +kernel
set_option maxHeartbeats 4000000 in
set_option maxRecDepth 100000 in
theorem p_use {l : Launch} {D : va_G} {ids : List Nat} {ad : Nat → Nat} {ca : Nat → ClassId} {σ : HS} {p0 : Int32} (hid : ∀ i, i < 277 → i ∈ ids) (htx0 : σ.2.2 0 = 30) (h_30_4 : σ.1 30 4 = 0) : Ki l D ids ad ca yX11_use cX11_use 2 .boolean 1 21 [.ref (ad 0), .int p0] σ (fun r σ1 => r = 0 ∧ keepM σ σ1) := by
  refine Ki.of (by decide) (Nat.le_of_ble_eq_true rfl) 0 (fun Γ C Rt => ?_)
  show AW ids ad ca Γ 0 [some (.ref (ad 0)), some (.int p0)] [] σ
  refine a_aload_n C dX11_use_0 (i := 0) rfl rfl ?_
  refine a_get C fl_RX11_82 (i := 0) kd_0 (hid 0 (by decide)) (v := .ref (ad 30)) (congrArg (fun z => some (Value.ref (ad z))) htx0) dX11_use_1 ?_
  refine a_iload_n C dX11_use_4 (i := 1) rfl rfl ?_
  refine a_callVi C (i := 30) kd_30 (hid 30 (by decide)) ⟨_, _, rfl⟩ (by decide) (k_hasPattern hid h_30_4) mi_X10_hasPattern ml_RX11_143 rfl rfl (Nat.le_of_ble_eq_true rfl) (Nat.le_of_ble_eq_true rfl) (Nat.le_of_ble_eq_true rfl) dX11_use_5 (fun r1 σ2 q3 => ?_)
  obtain ⟨rfl, q3⟩ := q3
  rw [q3]
  refine a_if_ne C dX11_use_8 (tgt := 13) rfl (fun h => absurd h (by decide)) (fun _ => ?_)
  refine a_iconst C dX11_use_11 (v := 0) rfl ?_
  exact a_iret Rt dX11_use_12 rfl (⟨rfl, keepM.rf⟩)
theorem dX11_closes_0 : decode cX11_closes 0 = .ok (.aload_n 0, 1) := by decide +kernel
theorem dX11_closes_1 : decode cX11_closes 1 = .ok (.getfield 82, 3) := by decide +kernel
theorem dX11_closes_4 : decode cX11_closes 4 = .ok (.iload_n 1, 1) := by decide +kernel
theorem dX11_closes_5 : decode cX11_closes 5 = .ok (.invokevirtual 143, 3) := by decide +kernel
theorem dX11_closes_8 : decode cX11_closes 8 = .ok (.ifCond .eq 12, 3) := by decide +kernel
theorem dX11_closes_20 : decode cX11_closes 20 = .ok (.iconst (-1), 1) := by decide +kernel
theorem dX11_closes_21 : decode cX11_closes 21 = .ok (.ireturn, 1) := by decide +kernel
set_option maxHeartbeats 4000000 in
set_option maxRecDepth 100000 in
theorem p_closes {l : Launch} {D : va_G} {ids : List Nat} {ad : Nat → Nat} {ca : Nat → ClassId} {σ : HS} {p0 : Int32} {p1 : Int32} (hid : ∀ i, i < 277 → i ∈ ids) (htx0 : σ.2.2 0 = 30) (h_30_4 : σ.1 30 4 = 0) : Ki l D ids ad ca yX11_closes cX11_closes 3 .int 1 21 [.ref (ad 0), .int p0, .int p1] σ (fun r σ1 => r = (-1) ∧ keepM σ σ1) := by
  refine Ki.of (by decide) (Nat.le_of_ble_eq_true rfl) 0 (fun Γ C Rt => ?_)
  show AW ids ad ca Γ 0 [some (.ref (ad 0)), some (.int p0), some (.int p1)] [] σ
  refine a_aload_n C dX11_closes_0 (i := 0) rfl rfl ?_
  refine a_get C fl_RX11_82 (i := 0) kd_0 (hid 0 (by decide)) (v := .ref (ad 30)) (congrArg (fun z => some (Value.ref (ad z))) htx0) dX11_closes_1 ?_
  refine a_iload_n C dX11_closes_4 (i := 1) rfl rfl ?_
  refine a_callVi C (i := 30) kd_30 (hid 30 (by decide)) ⟨_, _, rfl⟩ (by decide) (k_hasPattern hid h_30_4) mi_X10_hasPattern ml_RX11_143 rfl rfl (Nat.le_of_ble_eq_true rfl) (Nat.le_of_ble_eq_true rfl) (Nat.le_of_ble_eq_true rfl) dX11_closes_5 (fun r1 σ2 q3 => ?_)
  obtain ⟨rfl, q3⟩ := q3
  rw [q3]
  refine a_if_eq C dX11_closes_8 (tgt := 20) rfl (fun _ => ?_) (fun h => absurd h (by decide))
  refine a_iconst C dX11_closes_20 (v := (-1)) rfl ?_
  exact a_iret Rt dX11_closes_21 rfl (⟨rfl, keepM.rf⟩)
theorem dX11_joined_0 : decode cX11_joined 0 = .ok (.aload_n 0, 1) := by decide +kernel
theorem dX11_joined_1 : decode cX11_joined 1 = .ok (.getfield 82, 3) := by decide +kernel
theorem dX11_joined_4 : decode cX11_joined 4 = .ok (.iload_n 1, 1) := by decide +kernel
theorem dX11_joined_5 : decode cX11_joined 5 = .ok (.invokevirtual 143, 3) := by decide +kernel
theorem dX11_joined_8 : decode cX11_joined 8 = .ok (.ifCond .eq 23, 3) := by decide +kernel
theorem dX11_joined_31 : decode cX11_joined 31 = .ok (.iconst (-1), 1) := by decide +kernel
theorem dX11_joined_32 : decode cX11_joined 32 = .ok (.ireturn, 1) := by decide +kernel
set_option maxHeartbeats 4000000 in
set_option maxRecDepth 100000 in
theorem p_joined {l : Launch} {D : va_G} {ids : List Nat} {ad : Nat → Nat} {ca : Nat → ClassId} {σ : HS} {p0 : Int32} {p1 : Int32} {p2 : Int32} (hid : ∀ i, i < 277 → i ∈ ids) (htx0 : σ.2.2 0 = 30) (h_30_4 : σ.1 30 4 = 0) : Ki l D ids ad ca yX11_joined cX11_joined 5 .int 1 21 [.ref (ad 0), .int p0, .int p1, .int p2] σ (fun r σ1 => r = (-1) ∧ keepM σ σ1) := by
  refine Ki.of (by decide) (Nat.le_of_ble_eq_true rfl) 1 (fun Γ C Rt => ?_)
  show AW ids ad ca Γ 0 [some (.ref (ad 0)), some (.int p0), some (.int p1), some (.int p2), none] [] σ
  refine a_aload_n C dX11_joined_0 (i := 0) rfl rfl ?_
  refine a_get C fl_RX11_82 (i := 0) kd_0 (hid 0 (by decide)) (v := .ref (ad 30)) (congrArg (fun z => some (Value.ref (ad z))) htx0) dX11_joined_1 ?_
  refine a_iload_n C dX11_joined_4 (i := 1) rfl rfl ?_
  refine a_callVi C (i := 30) kd_30 (hid 30 (by decide)) ⟨_, _, rfl⟩ (by decide) (k_hasPattern hid h_30_4) mi_X10_hasPattern ml_RX11_143 rfl rfl (Nat.le_of_ble_eq_true rfl) (Nat.le_of_ble_eq_true rfl) (Nat.le_of_ble_eq_true rfl) dX11_joined_5 (fun r1 σ2 q3 => ?_)
  obtain ⟨rfl, q3⟩ := q3
  rw [q3]
  refine a_if_eq C dX11_joined_8 (tgt := 31) rfl (fun _ => ?_) (fun h => absurd h (by decide))
  refine a_iconst C dX11_joined_31 (v := (-1)) rfl ?_
  exact a_iret Rt dX11_joined_32 rfl (⟨rfl, keepM.rf⟩)
theorem dX11_turned_0 : decode cX11_turned 0 = .ok (.aload_n 0, 1) := by decide +kernel
theorem dX11_turned_1 : decode cX11_turned 1 = .ok (.getfield 82, 3) := by decide +kernel
theorem dX11_turned_4 : decode cX11_turned 4 = .ok (.iload_n 1, 1) := by decide +kernel
theorem dX11_turned_5 : decode cX11_turned 5 = .ok (.invokevirtual 143, 3) := by decide +kernel
theorem dX11_turned_8 : decode cX11_turned 8 = .ok (.ifCond .eq 14, 3) := by decide +kernel
theorem dX11_turned_22 : decode cX11_turned 22 = .ok (.iconst (-1), 1) := by decide +kernel
theorem dX11_turned_23 : decode cX11_turned 23 = .ok (.ireturn, 1) := by decide +kernel
set_option maxHeartbeats 4000000 in
set_option maxRecDepth 100000 in
theorem p_turned {l : Launch} {D : va_G} {ids : List Nat} {ad : Nat → Nat} {ca : Nat → ClassId} {σ : HS} {p0 : Int32} {p1 : Int32} (hid : ∀ i, i < 277 → i ∈ ids) (htx0 : σ.2.2 0 = 30) (h_30_4 : σ.1 30 4 = 0) : Ki l D ids ad ca yX11_turned cX11_turned 4 .int 1 21 [.ref (ad 0), .int p0, .int p1] σ (fun r σ1 => r = (-1) ∧ keepM σ σ1) := by
  refine Ki.of (by decide) (Nat.le_of_ble_eq_true rfl) 1 (fun Γ C Rt => ?_)
  show AW ids ad ca Γ 0 [some (.ref (ad 0)), some (.int p0), some (.int p1), none] [] σ
  refine a_aload_n C dX11_turned_0 (i := 0) rfl rfl ?_
  refine a_get C fl_RX11_82 (i := 0) kd_0 (hid 0 (by decide)) (v := .ref (ad 30)) (congrArg (fun z => some (Value.ref (ad z))) htx0) dX11_turned_1 ?_
  refine a_iload_n C dX11_turned_4 (i := 1) rfl rfl ?_
  refine a_callVi C (i := 30) kd_30 (hid 30 (by decide)) ⟨_, _, rfl⟩ (by decide) (k_hasPattern hid h_30_4) mi_X10_hasPattern ml_RX11_143 rfl rfl (Nat.le_of_ble_eq_true rfl) (Nat.le_of_ble_eq_true rfl) (Nat.le_of_ble_eq_true rfl) dX11_turned_5 (fun r1 σ2 q3 => ?_)
  obtain ⟨rfl, q3⟩ := q3
  rw [q3]
  refine a_if_eq C dX11_turned_8 (tgt := 22) rfl (fun _ => ?_) (fun h => absurd h (by decide))
  refine a_iconst C dX11_turned_22 (v := (-1)) rfl ?_
  exact a_iret Rt dX11_turned_23 rfl (⟨rfl, keepM.rf⟩)
theorem dX11_span_0 : decode cX11_span 0 = .ok (.aload_n 0, 1) := by decide +kernel
theorem dX11_span_1 : decode cX11_span 1 = .ok (.getfield 82, 3) := by decide +kernel
theorem dX11_span_4 : decode cX11_span 4 = .ok (.iload_n 1, 1) := by decide +kernel
theorem dX11_span_5 : decode cX11_span 5 = .ok (.invokevirtual 143, 3) := by decide +kernel
theorem dX11_span_8 : decode cX11_span 8 = .ok (.ifCond .ne 5, 3) := by decide +kernel
theorem dX11_span_11 : decode cX11_span 11 = .ok (.iconst (-1), 1) := by decide +kernel
theorem dX11_span_12 : decode cX11_span 12 = .ok (.ireturn, 1) := by decide +kernel
set_option maxHeartbeats 4000000 in
set_option maxRecDepth 100000 in
theorem p_span {l : Launch} {D : va_G} {ids : List Nat} {ad : Nat → Nat} {ca : Nat → ClassId} {σ : HS} {p0 : Int32} (hid : ∀ i, i < 277 → i ∈ ids) (htx0 : σ.2.2 0 = 30) (h_30_4 : σ.1 30 4 = 0) : Ki l D ids ad ca yX11_span cX11_span 2 .int 1 21 [.ref (ad 0), .int p0] σ (fun r σ1 => r = (-1) ∧ keepM σ σ1) := by
  refine Ki.of (by decide) (Nat.le_of_ble_eq_true rfl) 0 (fun Γ C Rt => ?_)
  show AW ids ad ca Γ 0 [some (.ref (ad 0)), some (.int p0)] [] σ
  refine a_aload_n C dX11_span_0 (i := 0) rfl rfl ?_
  refine a_get C fl_RX11_82 (i := 0) kd_0 (hid 0 (by decide)) (v := .ref (ad 30)) (congrArg (fun z => some (Value.ref (ad z))) htx0) dX11_span_1 ?_
  refine a_iload_n C dX11_span_4 (i := 1) rfl rfl ?_
  refine a_callVi C (i := 30) kd_30 (hid 30 (by decide)) ⟨_, _, rfl⟩ (by decide) (k_hasPattern hid h_30_4) mi_X10_hasPattern ml_RX11_143 rfl rfl (Nat.le_of_ble_eq_true rfl) (Nat.le_of_ble_eq_true rfl) (Nat.le_of_ble_eq_true rfl) dX11_span_5 (fun r1 σ2 q3 => ?_)
  obtain ⟨rfl, q3⟩ := q3
  rw [q3]
  refine a_if_ne C dX11_span_8 (tgt := 13) rfl (fun h => absurd h (by decide)) (fun _ => ?_)
  refine a_iconst C dX11_span_11 (v := (-1)) rfl ?_
  exact a_iret Rt dX11_span_12 rfl (⟨rfl, keepM.rf⟩)
theorem dX11_orbits_0 : decode cX11_orbits 0 = .ok (.aload_n 0, 1) := by decide +kernel
theorem dX11_orbits_1 : decode cX11_orbits 1 = .ok (.getfield 82, 3) := by decide +kernel
theorem dX11_orbits_4 : decode cX11_orbits 4 = .ok (.iload_n 1, 1) := by decide +kernel
theorem dX11_orbits_5 : decode cX11_orbits 5 = .ok (.invokevirtual 143, 3) := by decide +kernel
theorem dX11_orbits_8 : decode cX11_orbits 8 = .ok (.ifCond .ne 5, 3) := by decide +kernel
theorem dX11_orbits_11 : decode cX11_orbits 11 = .ok (.iconst (-1), 1) := by decide +kernel
theorem dX11_orbits_12 : decode cX11_orbits 12 = .ok (.ireturn, 1) := by decide +kernel
set_option maxHeartbeats 4000000 in
set_option maxRecDepth 100000 in
theorem p_orbits {l : Launch} {D : va_G} {ids : List Nat} {ad : Nat → Nat} {ca : Nat → ClassId} {σ : HS} {p0 : Int32} (hid : ∀ i, i < 277 → i ∈ ids) (htx0 : σ.2.2 0 = 30) (h_30_4 : σ.1 30 4 = 0) : Ki l D ids ad ca yX11_orbits cX11_orbits 4 .int 1 21 [.ref (ad 0), .int p0] σ (fun r σ1 => r = (-1) ∧ keepM σ σ1) := by
  refine Ki.of (by decide) (Nat.le_of_ble_eq_true rfl) 2 (fun Γ C Rt => ?_)
  show AW ids ad ca Γ 0 [some (.ref (ad 0)), some (.int p0), none, none] [] σ
  refine a_aload_n C dX11_orbits_0 (i := 0) rfl rfl ?_
  refine a_get C fl_RX11_82 (i := 0) kd_0 (hid 0 (by decide)) (v := .ref (ad 30)) (congrArg (fun z => some (Value.ref (ad z))) htx0) dX11_orbits_1 ?_
  refine a_iload_n C dX11_orbits_4 (i := 1) rfl rfl ?_
  refine a_callVi C (i := 30) kd_30 (hid 30 (by decide)) ⟨_, _, rfl⟩ (by decide) (k_hasPattern hid h_30_4) mi_X10_hasPattern ml_RX11_143 rfl rfl (Nat.le_of_ble_eq_true rfl) (Nat.le_of_ble_eq_true rfl) (Nat.le_of_ble_eq_true rfl) dX11_orbits_5 (fun r1 σ2 q3 => ?_)
  obtain ⟨rfl, q3⟩ := q3
  rw [q3]
  refine a_if_ne C dX11_orbits_8 (tgt := 13) rfl (fun h => absurd h (by decide)) (fun _ => ?_)
  refine a_iconst C dX11_orbits_11 (v := (-1)) rfl ?_
  exact a_iret Rt dX11_orbits_12 rfl (⟨rfl, keepM.rf⟩)
theorem dX11_swaps_0 : decode cX11_swaps 0 = .ok (.aload_n 0, 1) := by decide +kernel
theorem dX11_swaps_1 : decode cX11_swaps 1 = .ok (.getfield 82, 3) := by decide +kernel
theorem dX11_swaps_4 : decode cX11_swaps 4 = .ok (.iload_n 1, 1) := by decide +kernel
theorem dX11_swaps_5 : decode cX11_swaps 5 = .ok (.invokevirtual 143, 3) := by decide +kernel
theorem dX11_swaps_8 : decode cX11_swaps 8 = .ok (.ifCond .ne 5, 3) := by decide +kernel
theorem dX11_swaps_11 : decode cX11_swaps 11 = .ok (.iconst (-1), 1) := by decide +kernel
theorem dX11_swaps_12 : decode cX11_swaps 12 = .ok (.ireturn, 1) := by decide +kernel
set_option maxHeartbeats 4000000 in
set_option maxRecDepth 100000 in
theorem p_swaps {l : Launch} {D : va_G} {ids : List Nat} {ad : Nat → Nat} {ca : Nat → ClassId} {σ : HS} {p0 : Int32} (hid : ∀ i, i < 277 → i ∈ ids) (htx0 : σ.2.2 0 = 30) (h_30_4 : σ.1 30 4 = 0) : Ki l D ids ad ca yX11_swaps cX11_swaps 2 .int 1 21 [.ref (ad 0), .int p0] σ (fun r σ1 => r = (-1) ∧ keepM σ σ1) := by
  refine Ki.of (by decide) (Nat.le_of_ble_eq_true rfl) 0 (fun Γ C Rt => ?_)
  show AW ids ad ca Γ 0 [some (.ref (ad 0)), some (.int p0)] [] σ
  refine a_aload_n C dX11_swaps_0 (i := 0) rfl rfl ?_
  refine a_get C fl_RX11_82 (i := 0) kd_0 (hid 0 (by decide)) (v := .ref (ad 30)) (congrArg (fun z => some (Value.ref (ad z))) htx0) dX11_swaps_1 ?_
  refine a_iload_n C dX11_swaps_4 (i := 1) rfl rfl ?_
  refine a_callVi C (i := 30) kd_30 (hid 30 (by decide)) ⟨_, _, rfl⟩ (by decide) (k_hasPattern hid h_30_4) mi_X10_hasPattern ml_RX11_143 rfl rfl (Nat.le_of_ble_eq_true rfl) (Nat.le_of_ble_eq_true rfl) (Nat.le_of_ble_eq_true rfl) dX11_swaps_5 (fun r1 σ2 q3 => ?_)
  obtain ⟨rfl, q3⟩ := q3
  rw [q3]
  refine a_if_ne C dX11_swaps_8 (tgt := 13) rfl (fun h => absurd h (by decide)) (fun _ => ?_)
  refine a_iconst C dX11_swaps_11 (v := (-1)) rfl ?_
  exact a_iret Rt dX11_swaps_12 rfl (⟨rfl, keepM.rf⟩)
theorem dX11_room_0 : decode cX11_room 0 = .ok (.aload_n 0, 1) := by decide +kernel
theorem dX11_room_1 : decode cX11_room 1 = .ok (.getfield 82, 3) := by decide +kernel
theorem dX11_room_4 : decode cX11_room 4 = .ok (.iload_n 1, 1) := by decide +kernel
theorem dX11_room_5 : decode cX11_room 5 = .ok (.invokevirtual 121, 3) := by decide +kernel
theorem dX11_room_8 : decode cX11_room 8 = .ok (.ifCond .eq 14, 3) := by decide +kernel
theorem dX11_room_22 : decode cX11_room 22 = .ok (.iconst (-1), 1) := by decide +kernel
theorem dX11_room_23 : decode cX11_room 23 = .ok (.ireturn, 1) := by decide +kernel
set_option maxHeartbeats 4000000 in
set_option maxRecDepth 100000 in
theorem p_room {l : Launch} {D : va_G} {ids : List Nat} {ad : Nat → Nat} {ca : Nat → ClassId} {σ : HS} {p0 : Int32} (hid : ∀ i, i < 277 → i ∈ ids) (htx0 : σ.2.2 0 = 30) (h_30_0 : σ.1 30 0 = 0) : Ki l D ids ad ca yX11_room cX11_room 3 .int 1 21 [.ref (ad 0), .int p0] σ (fun r σ1 => r = (-1) ∧ keepM σ σ1) := by
  refine Ki.of (by decide) (Nat.le_of_ble_eq_true rfl) 1 (fun Γ C Rt => ?_)
  show AW ids ad ca Γ 0 [some (.ref (ad 0)), some (.int p0), none] [] σ
  refine a_aload_n C dX11_room_0 (i := 0) rfl rfl ?_
  refine a_get C fl_RX11_82 (i := 0) kd_0 (hid 0 (by decide)) (v := .ref (ad 30)) (congrArg (fun z => some (Value.ref (ad z))) htx0) dX11_room_1 ?_
  refine a_iload_n C dX11_room_4 (i := 1) rfl rfl ?_
  refine a_callVi C (i := 30) kd_30 (hid 30 (by decide)) ⟨_, _, rfl⟩ (by decide) (k_hasThing hid h_30_0) mi_X10_hasThing ml_RX11_121 rfl rfl (Nat.le_of_ble_eq_true rfl) (Nat.le_of_ble_eq_true rfl) (Nat.le_of_ble_eq_true rfl) dX11_room_5 (fun r1 σ2 q3 => ?_)
  obtain ⟨rfl, q3⟩ := q3
  rw [q3]
  refine a_if_eq C dX11_room_8 (tgt := 22) rfl (fun _ => ?_) (fun h => absurd h (by decide))
  refine a_iconst C dX11_room_22 (v := (-1)) rfl ?_
  exact a_iret Rt dX11_room_23 rfl (⟨rfl, keepM.rf⟩)
theorem dX11_into_0 : decode cX11_into 0 = .ok (.aload_n 0, 1) := by decide +kernel
theorem dX11_into_1 : decode cX11_into 1 = .ok (.getfield 82, 3) := by decide +kernel
theorem dX11_into_4 : decode cX11_into 4 = .ok (.iload_n 1, 1) := by decide +kernel
theorem dX11_into_5 : decode cX11_into 5 = .ok (.invokevirtual 143, 3) := by decide +kernel
theorem dX11_into_8 : decode cX11_into 8 = .ok (.ifCond .eq 8, 3) := by decide +kernel
theorem dX11_into_16 : decode cX11_into 16 = .ok (.iconst (-1), 1) := by decide +kernel
theorem dX11_into_17 : decode cX11_into 17 = .ok (.ireturn, 1) := by decide +kernel
set_option maxHeartbeats 4000000 in
set_option maxRecDepth 100000 in
theorem p_into {l : Launch} {D : va_G} {ids : List Nat} {ad : Nat → Nat} {ca : Nat → ClassId} {σ : HS} {p0 : Int32} {p1 : Int32} (hid : ∀ i, i < 277 → i ∈ ids) (htx0 : σ.2.2 0 = 30) (h_30_4 : σ.1 30 4 = 0) : Ki l D ids ad ca yX11_into cX11_into 6 .int 1 21 [.ref (ad 0), .int p0, .int p1] σ (fun r σ1 => r = (-1) ∧ keepM σ σ1) := by
  refine Ki.of (by decide) (Nat.le_of_ble_eq_true rfl) 3 (fun Γ C Rt => ?_)
  show AW ids ad ca Γ 0 [some (.ref (ad 0)), some (.int p0), some (.int p1), none, none, none] [] σ
  refine a_aload_n C dX11_into_0 (i := 0) rfl rfl ?_
  refine a_get C fl_RX11_82 (i := 0) kd_0 (hid 0 (by decide)) (v := .ref (ad 30)) (congrArg (fun z => some (Value.ref (ad z))) htx0) dX11_into_1 ?_
  refine a_iload_n C dX11_into_4 (i := 1) rfl rfl ?_
  refine a_callVi C (i := 30) kd_30 (hid 30 (by decide)) ⟨_, _, rfl⟩ (by decide) (k_hasPattern hid h_30_4) mi_X10_hasPattern ml_RX11_143 rfl rfl (Nat.le_of_ble_eq_true rfl) (Nat.le_of_ble_eq_true rfl) (Nat.le_of_ble_eq_true rfl) dX11_into_5 (fun r1 σ2 q3 => ?_)
  obtain ⟨rfl, q3⟩ := q3
  rw [q3]
  refine a_if_eq C dX11_into_8 (tgt := 16) rfl (fun _ => ?_) (fun h => absurd h (by decide))
  refine a_iconst C dX11_into_16 (v := (-1)) rfl ?_
  exact a_iret Rt dX11_into_17 rfl (⟨rfl, keepM.rf⟩)
theorem dX11_place_0 : decode cX11_place 0 = .ok (.aload_n 0, 1) := by decide +kernel
theorem dX11_place_1 : decode cX11_place 1 = .ok (.getfield 10, 3) := by decide +kernel
theorem dX11_place_4 : decode cX11_place 4 = .ok (.getfield 118, 3) := by decide +kernel
theorem dX11_place_7 : decode cX11_place 7 = .ok (.ireturn, 1) := by decide +kernel
set_option maxHeartbeats 4000000 in
set_option maxRecDepth 100000 in
theorem p_place {l : Launch} {D : va_G} {ids : List Nat} {ad : Nat → Nat} {ca : Nat → ClassId} {σ : HS} (hid : ∀ i, i < 277 → i ∈ ids) (h_1_1 : σ.1 1 1 = (-1)) : Ki l D ids ad ca yX11_place cX11_place 1 .int 0 0 [.ref (ad 0)] σ (fun r σ1 => r = (-1) ∧ keepM σ σ1) := by
  refine Ki.of (by decide) (Nat.le_of_ble_eq_true rfl) 0 (fun Γ C Rt => ?_)
  show AW ids ad ca Γ 0 [some (.ref (ad 0))] [] σ
  refine a_aload_n C dX11_place_0 (i := 0) rfl rfl ?_
  refine a_get C fl_RX11_10 (i := 0) kd_0 (hid 0 (by decide)) (v := .ref (ad 1)) rfl dX11_place_1 ?_
  refine a_get C fl_RX11_118 (i := 1) kd_1 (hid 1 (by decide)) (v := .int (-1)) (congrArg (fun z => some (Value.int z)) h_1_1) dX11_place_4 ?_
  exact a_iret Rt dX11_place_7 rfl (⟨rfl, keepM.rf⟩)
theorem dX11_forget_0 : decode cX11_forget 0 = .ok (.aload_n 0, 1) := by decide +kernel
theorem dX11_forget_1 : decode cX11_forget 1 = .ok (.getfield 33, 3) := by decide +kernel
theorem dX11_forget_4 : decode cX11_forget 4 = .ok (.getfield 117, 3) := by decide +kernel
theorem dX11_forget_7 : decode cX11_forget 7 = .ok (.istore_n 1, 1) := by decide +kernel
theorem dX11_forget_8 : decode cX11_forget 8 = .ok (.aload_n 0, 1) := by decide +kernel
theorem dX11_forget_9 : decode cX11_forget 9 = .ok (.getfield 33, 3) := by decide +kernel
theorem dX11_forget_12 : decode cX11_forget 12 = .ok (.iconst 0, 1) := by decide +kernel
theorem dX11_forget_13 : decode cX11_forget 13 = .ok (.putfield 117, 3) := by decide +kernel
theorem dX11_forget_16 : decode cX11_forget 16 = .ok (.iload_n 1, 1) := by decide +kernel
theorem dX11_forget_17 : decode cX11_forget 17 = .ok (.ireturn, 1) := by decide +kernel
set_option maxHeartbeats 4000000 in
set_option maxRecDepth 100000 in
theorem p_forget {l : Launch} {D : va_G} {ids : List Nat} {ad : Nat → Nat} {ca : Nat → ClassId} {σ : HS} (hid : ∀ i, i < 277 → i ∈ ids) (h_14_2 : σ.1 14 2 = 0) : Ki l D ids ad ca yX11_forget cX11_forget 2 .int 0 0 [.ref (ad 0)] σ (fun r σ1 => r = 0 ∧ keepM σ σ1) := by
  refine Ki.of (by decide) (Nat.le_of_ble_eq_true rfl) 1 (fun Γ C Rt => ?_)
  show AW ids ad ca Γ 0 [some (.ref (ad 0)), none] [] σ
  refine a_aload_n C dX11_forget_0 (i := 0) rfl rfl ?_
  refine a_get C fl_RX11_33 (i := 0) kd_0 (hid 0 (by decide)) (v := .ref (ad 14)) rfl dX11_forget_1 ?_
  refine a_get C fl_RX11_117 (i := 14) kd_14 (hid 14 (by decide)) (v := .int 0) (congrArg (fun z => some (Value.int z)) h_14_2) dX11_forget_4 ?_
  refine a_istore_n C dX11_forget_7 (i := 1) rfl (by decide) rfl (vs1 := [some (.ref (ad 0)), some (.int 0)]) rfl ?_
  refine a_aload_n C dX11_forget_8 (i := 0) rfl rfl ?_
  refine a_get C fl_RX11_33 (i := 0) kd_0 (hid 0 (by decide)) (v := .ref (ad 14)) rfl dX11_forget_9 ?_
  refine a_iconst C dX11_forget_12 (v := 0) rfl ?_
  refine a_put C fp_RX11_117 (i := 14) kd_14 (hid 14 (by decide)) rfl rfl dX11_forget_13 ?_
  refine a_iload_n C dX11_forget_16 (i := 1) rfl rfl ?_
  exact a_iret Rt dX11_forget_17 rfl (⟨rfl, (keepM.I keepM.rf (by decide))⟩)
theorem dX11_lands_0 : decode cX11_lands 0 = .ok (.aload_n 0, 1) := by decide +kernel
theorem dX11_lands_1 : decode cX11_lands 1 = .ok (.getfield 54, 3) := by decide +kernel
theorem dX11_lands_4 : decode cX11_lands 4 = .ok (.invokevirtual 276, 3) := by decide +kernel
theorem dX11_lands_7 : decode cX11_lands 7 = .ok (.ireturn, 1) := by decide +kernel
set_option maxHeartbeats 4000000 in
set_option maxRecDepth 100000 in
theorem p_lands {l : Launch} {D : va_G} {ids : List Nat} {ad : Nat → Nat} {ca : Nat → ClassId} {σ : HS} (hid : ∀ i, i < 277 → i ∈ ids) (h_56_0 : σ.1 56 0 = 0) : Ki l D ids ad ca yX11_lands cX11_lands 1 .int 1 22 [.ref (ad 0)] σ (fun r σ1 => r = 0 ∧ keepM σ σ1) := by
  refine Ki.of (by decide) (Nat.le_of_ble_eq_true rfl) 0 (fun Γ C Rt => ?_)
  show AW ids ad ca Γ 0 [some (.ref (ad 0))] [] σ
  refine a_aload_n C dX11_lands_0 (i := 0) rfl rfl ?_
  refine a_get C fl_RX11_54 (i := 0) kd_0 (hid 0 (by decide)) (v := .ref (ad 56)) rfl dX11_lands_1 ?_
  refine a_callVi C (i := 56) kd_56 (hid 56 (by decide)) ⟨_, _, rfl⟩ (by decide) (k_landingBits_56 hid h_56_0) mi_X0_landingBits ml_RX11_276 rfl rfl (Nat.le_of_ble_eq_true rfl) (Nat.le_of_ble_eq_true rfl) (Nat.le_of_ble_eq_true rfl) dX11_lands_4 (fun r1 σ2 q3 => ?_)
  obtain ⟨rfl, q3⟩ := q3
  rw [q3]
  exact a_iret Rt dX11_lands_7 rfl (⟨rfl, keepM.rf⟩)
theorem dX11_down_0 : decode cX11_down 0 = .ok (.aload_n 0, 1) := by decide +kernel
theorem dX11_down_1 : decode cX11_down 1 = .ok (.getfield 58, 3) := by decide +kernel
theorem dX11_down_4 : decode cX11_down 4 = .ok (.aload_n 0, 1) := by decide +kernel
theorem dX11_down_5 : decode cX11_down 5 = .ok (.getfield 54, 3) := by decide +kernel
theorem dX11_down_8 : decode cX11_down 8 = .ok (.invokevirtual 230, 3) := by decide +kernel
theorem dX11_down_11 : decode cX11_down 11 = .ok (.iconst 0, 1) := by decide +kernel
theorem dX11_down_12 : decode cX11_down 12 = .ok (.istore_n 1, 1) := by decide +kernel
theorem dX11_down_13 : decode cX11_down 13 = .ok (.iload_n 1, 1) := by decide +kernel
theorem dX11_down_14 : decode cX11_down 14 = .ok (.sipush 200, 3) := by decide +kernel
theorem dX11_down_17 : decode cX11_down 17 = .ok (.if_icmp .gt 44, 3) := by decide +kernel
theorem dX11_down_20 : decode cX11_down 20 = .ok (.aload_n 0, 1) := by decide +kernel
theorem dX11_down_21 : decode cX11_down 21 = .ok (.getfield 58, 3) := by decide +kernel
theorem dX11_down_24 : decode cX11_down 24 = .ok (.invokevirtual 156, 3) := by decide +kernel
theorem dX11_down_27 : decode cX11_down 27 = .ok (.ifCond .ne 5, 3) := by decide +kernel
theorem dX11_down_30 : decode cX11_down 30 = .ok (.iload_n 1, 1) := by decide +kernel
theorem dX11_down_31 : decode cX11_down 31 = .ok (.ireturn, 1) := by decide +kernel
set_option maxHeartbeats 4000000 in
set_option maxRecDepth 100000 in
theorem p_down {l : Launch} {D : va_G} {ids : List Nat} {ad : Nat → Nat} {ca : Nat → ClassId} {σ : HS} (hid : ∀ i, i < 277 → i ∈ ids) (h_56_0 : σ.1 56 0 = 0) (h_56_4 : σ.1 56 4 = 0) (h_56_5 : σ.1 56 5 = 0) (h_56_6 : σ.1 56 6 = 0) (h_56_7 : σ.1 56 7 = 0) (h_56_8 : σ.1 56 8 = 0) (h_56_9 : σ.1 56 9 = (-1)) (h_56_10 : σ.1 56 10 = 0) (h_56_11 : σ.1 56 11 = (-1)) : Ki l D ids ad ca yX11_down cX11_down 2 .int 2 81 [.ref (ad 0)] σ (fun r σ1 => r = 0 ∧ keepM σ σ1) := by
  refine Ki.of (by decide) (Nat.le_of_ble_eq_true rfl) 1 (fun Γ C Rt => ?_)
  show AW ids ad ca Γ 0 [some (.ref (ad 0)), none] [] σ
  refine a_aload_n C dX11_down_0 (i := 0) rfl rfl ?_
  refine a_get C fl_RX11_58 (i := 0) kd_0 (hid 0 (by decide)) (v := .ref (ad 60)) rfl dX11_down_1 ?_
  refine a_aload_n C dX11_down_4 (i := 0) rfl rfl ?_
  refine a_get C fl_RX11_54 (i := 0) kd_0 (hid 0 (by decide)) (v := .ref (ad 56)) rfl dX11_down_5 ?_
  refine a_callVv C (i := 60) kd_60 (hid 60 (by decide)) ⟨_, _, rfl⟩ (by decide) (k_copy_60 hid h_56_0 h_56_4 h_56_5 h_56_6 h_56_7 h_56_8 h_56_9 h_56_10 h_56_11) mi_X0_copy ml_RX11_230 rfl rfl (Nat.le_of_ble_eq_true rfl) (Nat.le_of_ble_eq_true rfl) (Nat.le_of_ble_eq_true rfl) dX11_down_8 (fun σ2 q3 => ?_)
  refine a_iconst C dX11_down_11 (v := 0) rfl ?_
  refine a_istore_n C dX11_down_12 (i := 1) rfl (by decide) rfl (vs1 := [some (.ref (ad 0)), some (.int 0)]) rfl ?_
  refine a_iload_n C dX11_down_13 (i := 1) rfl rfl ?_
  refine a_sipush C dX11_down_14 (v := 200) rfl ?_
  refine a_ic_gt C dX11_down_17 (tgt := 61) rfl (fun h => absurd h (by decide)) (fun _ => ?_)
  refine a_aload_n C dX11_down_20 (i := 0) rfl rfl ?_
  refine a_get C fl_RX11_58 (i := 0) kd_0 (hid 0 (by decide)) (v := .ref (ad 60)) rfl dX11_down_21 ?_
  refine a_callVi C (i := 60) kd_60 (hid 60 (by decide)) ⟨_, _, rfl⟩ (by decide) (k_howManyUp_60 hid q3.2.1) mi_X0_howManyUp ml_RX11_156 rfl rfl (Nat.le_of_ble_eq_true rfl) (Nat.le_of_ble_eq_true rfl) (Nat.le_of_ble_eq_true rfl) dX11_down_24 (fun r4 σ5 q6 => ?_)
  obtain ⟨rfl, q6⟩ := q6
  rw [q6]
  refine a_if_ne C dX11_down_27 (tgt := 32) rfl (fun h => absurd h (by decide)) (fun _ => ?_)
  refine a_iload_n C dX11_down_30 (i := 1) rfl rfl ?_
  exact a_iret Rt dX11_down_31 rfl (⟨rfl, (keepM.tr keepM.rf (only.keepM q3.1 (by decide)))⟩)
theorem dX11_gap_0 : decode cX11_gap 0 = .ok (.aload_n 0, 1) := by decide +kernel
theorem dX11_gap_1 : decode cX11_gap 1 = .ok (.getfield 58, 3) := by decide +kernel
theorem dX11_gap_4 : decode cX11_gap 4 = .ok (.aload_n 0, 1) := by decide +kernel
theorem dX11_gap_5 : decode cX11_gap 5 = .ok (.getfield 54, 3) := by decide +kernel
theorem dX11_gap_8 : decode cX11_gap 8 = .ok (.invokevirtual 230, 3) := by decide +kernel
theorem dX11_gap_11 : decode cX11_gap 11 = .ok (.iconst 0, 1) := by decide +kernel
theorem dX11_gap_12 : decode cX11_gap 12 = .ok (.istore_n 1, 1) := by decide +kernel
theorem dX11_gap_13 : decode cX11_gap 13 = .ok (.iload_n 1, 1) := by decide +kernel
theorem dX11_gap_14 : decode cX11_gap 14 = .ok (.bipush 60, 2) := by decide +kernel
theorem dX11_gap_16 : decode cX11_gap 16 = .ok (.if_icmp .gt 36, 3) := by decide +kernel
theorem dX11_gap_19 : decode cX11_gap 19 = .ok (.aload_n 0, 1) := by decide +kernel
theorem dX11_gap_20 : decode cX11_gap 20 = .ok (.getfield 58, 3) := by decide +kernel
theorem dX11_gap_23 : decode cX11_gap 23 = .ok (.invokevirtual 292, 3) := by decide +kernel
theorem dX11_gap_26 : decode cX11_gap 26 = .ok (.ifCond .ne 5, 3) := by decide +kernel
theorem dX11_gap_29 : decode cX11_gap 29 = .ok (.iload_n 1, 1) := by decide +kernel
theorem dX11_gap_30 : decode cX11_gap 30 = .ok (.ireturn, 1) := by decide +kernel
set_option maxHeartbeats 4000000 in
set_option maxRecDepth 100000 in
theorem p_gap {l : Launch} {D : va_G} {ids : List Nat} {ad : Nat → Nat} {ca : Nat → ClassId} {σ : HS} (hid : ∀ i, i < 277 → i ∈ ids) (h_56_0 : σ.1 56 0 = 0) (h_56_4 : σ.1 56 4 = 0) (h_56_5 : σ.1 56 5 = 0) (h_56_6 : σ.1 56 6 = 0) (h_56_7 : σ.1 56 7 = 0) (h_56_8 : σ.1 56 8 = 0) (h_56_9 : σ.1 56 9 = (-1)) (h_56_10 : σ.1 56 10 = 0) (h_56_11 : σ.1 56 11 = (-1)) : Ki l D ids ad ca yX11_gap cX11_gap 2 .int 2 81 [.ref (ad 0)] σ (fun r σ1 => r = 0 ∧ keepM σ σ1) := by
  refine Ki.of (by decide) (Nat.le_of_ble_eq_true rfl) 1 (fun Γ C Rt => ?_)
  show AW ids ad ca Γ 0 [some (.ref (ad 0)), none] [] σ
  refine a_aload_n C dX11_gap_0 (i := 0) rfl rfl ?_
  refine a_get C fl_RX11_58 (i := 0) kd_0 (hid 0 (by decide)) (v := .ref (ad 60)) rfl dX11_gap_1 ?_
  refine a_aload_n C dX11_gap_4 (i := 0) rfl rfl ?_
  refine a_get C fl_RX11_54 (i := 0) kd_0 (hid 0 (by decide)) (v := .ref (ad 56)) rfl dX11_gap_5 ?_
  refine a_callVv C (i := 60) kd_60 (hid 60 (by decide)) ⟨_, _, rfl⟩ (by decide) (k_copy_60 hid h_56_0 h_56_4 h_56_5 h_56_6 h_56_7 h_56_8 h_56_9 h_56_10 h_56_11) mi_X0_copy ml_RX11_230 rfl rfl (Nat.le_of_ble_eq_true rfl) (Nat.le_of_ble_eq_true rfl) (Nat.le_of_ble_eq_true rfl) dX11_gap_8 (fun σ2 q3 => ?_)
  refine a_iconst C dX11_gap_11 (v := 0) rfl ?_
  refine a_istore_n C dX11_gap_12 (i := 1) rfl (by decide) rfl (vs1 := [some (.ref (ad 0)), some (.int 0)]) rfl ?_
  refine a_iload_n C dX11_gap_13 (i := 1) rfl rfl ?_
  refine a_bipush C dX11_gap_14 (v := 60) rfl ?_
  refine a_ic_gt C dX11_gap_16 (tgt := 52) rfl (fun h => absurd h (by decide)) (fun _ => ?_)
  refine a_aload_n C dX11_gap_19 (i := 0) rfl rfl ?_
  refine a_get C fl_RX11_58 (i := 0) kd_0 (hid 0 (by decide)) (v := .ref (ad 60)) rfl dX11_gap_20 ?_
  refine a_callVi C (i := 60) kd_60 (hid 60 (by decide)) ⟨_, _, rfl⟩ (by decide) (k_howManyLand_60 hid q3.2.1) mi_X0_howManyLand ml_RX11_292 rfl rfl (Nat.le_of_ble_eq_true rfl) (Nat.le_of_ble_eq_true rfl) (Nat.le_of_ble_eq_true rfl) dX11_gap_23 (fun r4 σ5 q6 => ?_)
  obtain ⟨rfl, q6⟩ := q6
  rw [q6]
  refine a_if_ne C dX11_gap_26 (tgt := 31) rfl (fun h => absurd h (by decide)) (fun _ => ?_)
  refine a_iload_n C dX11_gap_29 (i := 1) rfl rfl ?_
  exact a_iret Rt dX11_gap_30 rfl (⟨rfl, (keepM.tr keepM.rf (only.keepM q3.1 (by decide)))⟩)
theorem dX11_handover_0 : decode cX11_handover 0 = .ok (.aload_n 0, 1) := by decide +kernel
theorem dX11_handover_1 : decode cX11_handover 1 = .ok (.getfield 58, 3) := by decide +kernel
theorem dX11_handover_4 : decode cX11_handover 4 = .ok (.aload_n 0, 1) := by decide +kernel
theorem dX11_handover_5 : decode cX11_handover 5 = .ok (.getfield 54, 3) := by decide +kernel
theorem dX11_handover_8 : decode cX11_handover 8 = .ok (.invokevirtual 230, 3) := by decide +kernel
theorem dX11_handover_11 : decode cX11_handover 11 = .ok (.aload_n 0, 1) := by decide +kernel
theorem dX11_handover_12 : decode cX11_handover 12 = .ok (.getfield 54, 3) := by decide +kernel
theorem dX11_handover_15 : decode cX11_handover 15 = .ok (.iconst 0, 1) := by decide +kernel
theorem dX11_handover_16 : decode cX11_handover 16 = .ok (.invokevirtual 180, 3) := by decide +kernel
theorem dX11_handover_19 : decode cX11_handover 19 = .ok (.istore_n 1, 1) := by decide +kernel
theorem dX11_handover_20 : decode cX11_handover 20 = .ok (.iconst 0, 1) := by decide +kernel
theorem dX11_handover_21 : decode cX11_handover 21 = .ok (.istore_n 2, 1) := by decide +kernel
theorem dX11_handover_22 : decode cX11_handover 22 = .ok (.iload_n 2, 1) := by decide +kernel
theorem dX11_handover_23 : decode cX11_handover 23 = .ok (.bipush 60, 2) := by decide +kernel
theorem dX11_handover_25 : decode cX11_handover 25 = .ok (.if_icmp .gt 59, 3) := by decide +kernel
theorem dX11_handover_28 : decode cX11_handover 28 = .ok (.iload_n 1, 1) := by decide +kernel
theorem dX11_handover_29 : decode cX11_handover 29 = .ok (.ifCond .ne 5, 3) := by decide +kernel
theorem dX11_handover_32 : decode cX11_handover 32 = .ok (.iload_n 2, 1) := by decide +kernel
theorem dX11_handover_33 : decode cX11_handover 33 = .ok (.ireturn, 1) := by decide +kernel
set_option maxHeartbeats 4000000 in
set_option maxRecDepth 100000 in
theorem p_handover {l : Launch} {D : va_G} {ids : List Nat} {ad : Nat → Nat} {ca : Nat → ClassId} {σ : HS} (hid : ∀ i, i < 277 → i ∈ ids) (h_56_0 : σ.1 56 0 = 0) (h_56_4 : σ.1 56 4 = 0) (h_56_5 : σ.1 56 5 = 0) (h_56_6 : σ.1 56 6 = 0) (h_56_7 : σ.1 56 7 = 0) (h_56_8 : σ.1 56 8 = 0) (h_56_9 : σ.1 56 9 = (-1)) (h_56_10 : σ.1 56 10 = 0) (h_56_11 : σ.1 56 11 = (-1)) : Ki l D ids ad ca yX11_handover cX11_handover 4 .int 2 81 [.ref (ad 0)] σ (fun r σ1 => r = 0 ∧ keepM σ σ1) := by
  refine Ki.of (by decide) (Nat.le_of_ble_eq_true rfl) 3 (fun Γ C Rt => ?_)
  show AW ids ad ca Γ 0 [some (.ref (ad 0)), none, none, none] [] σ
  refine a_aload_n C dX11_handover_0 (i := 0) rfl rfl ?_
  refine a_get C fl_RX11_58 (i := 0) kd_0 (hid 0 (by decide)) (v := .ref (ad 60)) rfl dX11_handover_1 ?_
  refine a_aload_n C dX11_handover_4 (i := 0) rfl rfl ?_
  refine a_get C fl_RX11_54 (i := 0) kd_0 (hid 0 (by decide)) (v := .ref (ad 56)) rfl dX11_handover_5 ?_
  refine a_callVv C (i := 60) kd_60 (hid 60 (by decide)) ⟨_, _, rfl⟩ (by decide) (k_copy_60 hid h_56_0 h_56_4 h_56_5 h_56_6 h_56_7 h_56_8 h_56_9 h_56_10 h_56_11) mi_X0_copy ml_RX11_230 rfl rfl (Nat.le_of_ble_eq_true rfl) (Nat.le_of_ble_eq_true rfl) (Nat.le_of_ble_eq_true rfl) dX11_handover_8 (fun σ2 q3 => ?_)
  refine a_aload_n C dX11_handover_11 (i := 0) rfl rfl ?_
  refine a_get C fl_RX11_54 (i := 0) kd_0 (hid 0 (by decide)) (v := .ref (ad 56)) rfl dX11_handover_12 ?_
  refine a_iconst C dX11_handover_15 (v := 0) rfl ?_
  refine a_callVi C (i := 56) kd_56 (hid 56 (by decide)) ⟨_, _, rfl⟩ (by decide) (k_bitsOf_56 hid ((congrFun (q3.1.1 56 (by decide)) 0).trans h_56_0)) mi_X0_bitsOf ml_RX11_180 rfl rfl (Nat.le_of_ble_eq_true rfl) (Nat.le_of_ble_eq_true rfl) (Nat.le_of_ble_eq_true rfl) dX11_handover_16 (fun r4 σ5 q6 => ?_)
  obtain ⟨rfl, q6⟩ := q6
  rw [q6]
  refine a_istore_n C dX11_handover_19 (i := 1) rfl (by decide) rfl (vs1 := [some (.ref (ad 0)), some (.int 0), none, none]) rfl ?_
  refine a_iconst C dX11_handover_20 (v := 0) rfl ?_
  refine a_istore_n C dX11_handover_21 (i := 2) rfl (by decide) rfl (vs1 := [some (.ref (ad 0)), some (.int 0), some (.int 0), none]) rfl ?_
  refine a_iload_n C dX11_handover_22 (i := 2) rfl rfl ?_
  refine a_bipush C dX11_handover_23 (v := 60) rfl ?_
  refine a_ic_gt C dX11_handover_25 (tgt := 84) rfl (fun h => absurd h (by decide)) (fun _ => ?_)
  refine a_iload_n C dX11_handover_28 (i := 1) rfl rfl ?_
  refine a_if_ne C dX11_handover_29 (tgt := 34) rfl (fun h => absurd h (by decide)) (fun _ => ?_)
  refine a_iload_n C dX11_handover_32 (i := 2) rfl rfl ?_
  exact a_iret Rt dX11_handover_33 rfl (⟨rfl, (keepM.tr keepM.rf (only.keepM q3.1 (by decide)))⟩)
theorem dX5_giveBack_0 : decode cX5_giveBack 0 = .ok (.aload_n 0, 1) := by decide +kernel
theorem dX5_giveBack_1 : decode cX5_giveBack 1 = .ok (.getfield 18, 3) := by decide +kernel
theorem dX5_giveBack_4 : decode cX5_giveBack 4 = .ok (.ifCond .ne 5, 3) := by decide +kernel
theorem dX5_giveBack_7 : decode cX5_giveBack 7 = .ok (.iconst 0, 1) := by decide +kernel
theorem dX5_giveBack_8 : decode cX5_giveBack 8 = .ok (.ireturn, 1) := by decide +kernel
set_option maxHeartbeats 4000000 in
set_option maxRecDepth 100000 in
theorem k_giveBack {l : Launch} {D : va_G} {ids : List Nat} {ad : Nat → Nat} {ca : Nat → ClassId} {σ : HS} (hid : ∀ i, i < 277 → i ∈ ids) (h_12_2 : σ.1 12 2 = 0) : Ki l D ids ad ca yX5_giveBack cX5_giveBack 2 .boolean 0 0 [.ref (ad 12), .ref (ad 56)] σ (fun r σ1 => r = 0 ∧ σ1 = σ) := by
  refine Ki.of (by decide) (Nat.le_of_ble_eq_true rfl) 0 (fun Γ C Rt => ?_)
  show AW ids ad ca Γ 0 [some (.ref (ad 12)), some (.ref (ad 56))] [] σ
  refine a_aload_n C dX5_giveBack_0 (i := 0) rfl rfl ?_
  refine a_get C fl_RX5_18 (i := 12) kd_12 (hid 12 (by decide)) (v := .int 0) (congrArg (fun z => some (Value.int z)) h_12_2) dX5_giveBack_1 ?_
  refine a_if_ne C dX5_giveBack_4 (tgt := 9) rfl (fun h => absurd h (by decide)) (fun _ => ?_)
  refine a_iconst C dX5_giveBack_7 (v := 0) rfl ?_
  exact a_iret Rt dX5_giveBack_8 rfl (⟨rfl, rfl⟩)
theorem dX11_undo_0 : decode cX11_undo 0 = .ok (.aload_n 0, 1) := by decide +kernel
theorem dX11_undo_1 : decode cX11_undo 1 = .ok (.getfield 26, 3) := by decide +kernel
theorem dX11_undo_4 : decode cX11_undo 4 = .ok (.aload_n 0, 1) := by decide +kernel
theorem dX11_undo_5 : decode cX11_undo 5 = .ok (.getfield 54, 3) := by decide +kernel
theorem dX11_undo_8 : decode cX11_undo 8 = .ok (.invokevirtual 226, 3) := by decide +kernel
theorem dX11_undo_11 : decode cX11_undo 11 = .ok (.ireturn, 1) := by decide +kernel
set_option maxHeartbeats 4000000 in
set_option maxRecDepth 100000 in
theorem p_undo {l : Launch} {D : va_G} {ids : List Nat} {ad : Nat → Nat} {ca : Nat → ClassId} {σ : HS} (hid : ∀ i, i < 277 → i ∈ ids) (h_12_2 : σ.1 12 2 = 0) : Ki l D ids ad ca yX11_undo cX11_undo 1 .boolean 1 21 [.ref (ad 0)] σ (fun r σ1 => r = 0 ∧ keepM σ σ1) := by
  refine Ki.of (by decide) (Nat.le_of_ble_eq_true rfl) 0 (fun Γ C Rt => ?_)
  show AW ids ad ca Γ 0 [some (.ref (ad 0))] [] σ
  refine a_aload_n C dX11_undo_0 (i := 0) rfl rfl ?_
  refine a_get C fl_RX11_26 (i := 0) kd_0 (hid 0 (by decide)) (v := .ref (ad 12)) rfl dX11_undo_1 ?_
  refine a_aload_n C dX11_undo_4 (i := 0) rfl rfl ?_
  refine a_get C fl_RX11_54 (i := 0) kd_0 (hid 0 (by decide)) (v := .ref (ad 56)) rfl dX11_undo_5 ?_
  refine a_callVi C (i := 12) kd_12 (hid 12 (by decide)) ⟨_, _, rfl⟩ (by decide) (k_giveBack hid h_12_2) mi_X5_giveBack ml_RX11_226 rfl rfl (Nat.le_of_ble_eq_true rfl) (Nat.le_of_ble_eq_true rfl) (Nat.le_of_ble_eq_true rfl) dX11_undo_8 (fun r1 σ2 q3 => ?_)
  obtain ⟨rfl, q3⟩ := q3
  rw [q3]
  exact a_iret Rt dX11_undo_11 rfl (⟨rfl, keepM.rf⟩)
theorem dX9_append_0 : decode cX9_append 0 = .ok (.bipush 24, 2) := by decide +kernel
theorem dX9_append_2 : decode cX9_append 2 = .ok (.istore_n 2, 1) := by decide +kernel
theorem dX9_append_3 : decode cX9_append 3 = .ok (.iload_n 2, 1) := by decide +kernel
theorem dX9_append_4 : decode cX9_append 4 = .ok (.ifCond .lt 45, 3) := by decide +kernel
theorem dX9_append_7 : decode cX9_append 7 = .ok (.aload_n 0, 1) := by decide +kernel
theorem dX9_append_8 : decode cX9_append 8 = .ok (.getfield 25, 3) := by decide +kernel
theorem dX9_append_11 : decode cX9_append 11 = .ok (.sipush 2000, 3) := by decide +kernel
theorem dX9_append_14 : decode cX9_append 14 = .ok (.if_icmp .ge 29, 3) := by decide +kernel
theorem dX9_append_17 : decode cX9_append 17 = .ok (.aload_n 0, 1) := by decide +kernel
theorem dX9_append_18 : decode cX9_append 18 = .ok (.getfield 9, 3) := by decide +kernel
theorem dX9_append_21 : decode cX9_append 21 = .ok (.aload_n 0, 1) := by decide +kernel
theorem dX9_append_22 : decode cX9_append 22 = .ok (.getfield 25, 3) := by decide +kernel
theorem dX9_append_25 : decode cX9_append 25 = .ok (.iload_n 1, 1) := by decide +kernel
theorem dX9_append_26 : decode cX9_append 26 = .ok (.iload_n 2, 1) := by decide +kernel
theorem dX9_append_27 : decode cX9_append 27 = .ok (.iushr, 1) := by decide +kernel
theorem dX9_append_28 : decode cX9_append 28 = .ok (.sipush 255, 3) := by decide +kernel
theorem dX9_append_31 : decode cX9_append 31 = .ok (.iand, 1) := by decide +kernel
theorem dX9_append_32 : decode cX9_append 32 = .ok (.iastore, 1) := by decide +kernel
theorem dX9_append_33 : decode cX9_append 33 = .ok (.aload_n 0, 1) := by decide +kernel
theorem dX9_append_34 : decode cX9_append 34 = .ok (.dup, 1) := by decide +kernel
theorem dX9_append_35 : decode cX9_append 35 = .ok (.getfield 25, 3) := by decide +kernel
theorem dX9_append_38 : decode cX9_append 38 = .ok (.iconst 1, 1) := by decide +kernel
theorem dX9_append_39 : decode cX9_append 39 = .ok (.iadd, 1) := by decide +kernel
theorem dX9_append_40 : decode cX9_append 40 = .ok (.putfield 25, 3) := by decide +kernel
theorem dX9_append_43 : decode cX9_append 43 = .ok (.iinc 2 (-8), 3) := by decide +kernel
theorem dX9_append_46 : decode cX9_append 46 = .ok (.goto (-43), 3) := by decide +kernel
theorem dX9_append_49 : decode cX9_append 49 = .ok (.return_, 1) := by decide +kernel
set_option maxHeartbeats 4000000 in
set_option maxRecDepth 100000 in
theorem k_append_0 {l : Launch} {D : va_G} {ids : List Nat} {ad : Nat → Nat} {ca : Nat → ClassId} {σ : HS} {p0 : Int32} (hid : ∀ i, i < 277 → i ∈ ids) (h_2_1 : σ.1 2 1 = 0) : Kv l D ids ad ca yX9_append cX9_append 3 0 0 [.ref (ad 2), .int p0] σ (fun σ1 => only [2, 3] σ σ1 ∧ σ1.1 2 1 = 4) := by
  refine Kv.of (by decide) (Nat.le_of_ble_eq_true rfl) 1 (fun Γ C Rt => ?_)
  show AW ids ad ca Γ 0 [some (.ref (ad 2)), some (.int p0), none] [] σ
  refine a_bipush C dX9_append_0 (v := 24) rfl ?_
  refine a_istore_n C dX9_append_2 (i := 2) rfl (by decide) rfl (vs1 := [some (.ref (ad 2)), some (.int p0), some (.int 24)]) rfl ?_
  refine a_iload_n C dX9_append_3 (i := 2) rfl rfl ?_
  refine a_if_lt C dX9_append_4 (tgt := 49) rfl (fun h => absurd h (by decide)) (fun _ => ?_)
  refine a_aload_n C dX9_append_7 (i := 0) rfl rfl ?_
  refine a_get C fl_RX9_25 (i := 2) kd_2 (hid 2 (by decide)) (v := .int 0) (congrArg (fun z => some (Value.int z)) h_2_1) dX9_append_8 ?_
  refine a_sipush C dX9_append_11 (v := 2000) rfl ?_
  refine a_ic_ge C dX9_append_14 (tgt := 43) rfl (fun h => absurd h (by decide)) (fun _ => ?_)
  refine a_aload_n C dX9_append_17 (i := 0) rfl rfl ?_
  refine a_get C fl_RX9_9 (i := 2) kd_2 (hid 2 (by decide)) (v := .ref (ad 3)) rfl dX9_append_18 ?_
  refine a_aload_n C dX9_append_21 (i := 0) rfl rfl ?_
  refine a_get C fl_RX9_25 (i := 2) kd_2 (hid 2 (by decide)) (v := .int 0) (congrArg (fun z => some (Value.int z)) h_2_1) dX9_append_22 ?_
  refine a_iload_n C dX9_append_25 (i := 1) rfl rfl ?_
  refine a_iload_n C dX9_append_26 (i := 2) rfl rfl ?_
  refine a_iushr C dX9_append_27 ?_
  refine a_sipush C dX9_append_28 (v := 255) rfl ?_
  refine a_iand C dX9_append_31 ?_
  refine a_iast C (i := 3) 0 kd_3 (hid 3 (by decide)) (by decide) rfl (by rw [al_3]; decide) dX9_append_32 ?_
  refine a_aload_n C dX9_append_33 (i := 0) rfl rfl ?_
  refine a_dup C dX9_append_34 rfl ?_
  refine a_get C fl_RX9_25 (i := 2) kd_2 (hid 2 (by decide)) (v := .int 0) (congrArg (fun z => some (Value.int z)) h_2_1) dX9_append_35 ?_
  refine a_iconst C dX9_append_38 (v := 1) rfl ?_
  refine a_iadd C dX9_append_39 ?_
  refine a_put C fp_RX9_25 (i := 2) kd_2 (hid 2 (by decide)) rfl rfl dX9_append_40 ?_
  refine a_iinc C dX9_append_43 rfl (v := 16) rfl (by decide) rfl (vs1 := [some (.ref (ad 2)), some (.int p0), some (.int 16)]) rfl ?_
  refine a_goto C dX9_append_46 (tgt := 3) rfl ?_
  refine a_iload_n C dX9_append_3 (i := 2) rfl rfl ?_
  refine a_if_lt C dX9_append_4 (tgt := 49) rfl (fun h => absurd h (by decide)) (fun _ => ?_)
  refine a_aload_n C dX9_append_7 (i := 0) rfl rfl ?_
  refine a_get C fl_RX9_25 (i := 2) kd_2 (hid 2 (by decide)) (v := .int 1) rfl dX9_append_8 ?_
  refine a_sipush C dX9_append_11 (v := 2000) rfl ?_
  refine a_ic_ge C dX9_append_14 (tgt := 43) rfl (fun h => absurd h (by decide)) (fun _ => ?_)
  refine a_aload_n C dX9_append_17 (i := 0) rfl rfl ?_
  refine a_get C fl_RX9_9 (i := 2) kd_2 (hid 2 (by decide)) (v := .ref (ad 3)) rfl dX9_append_18 ?_
  refine a_aload_n C dX9_append_21 (i := 0) rfl rfl ?_
  refine a_get C fl_RX9_25 (i := 2) kd_2 (hid 2 (by decide)) (v := .int 1) rfl dX9_append_22 ?_
  refine a_iload_n C dX9_append_25 (i := 1) rfl rfl ?_
  refine a_iload_n C dX9_append_26 (i := 2) rfl rfl ?_
  refine a_iushr C dX9_append_27 ?_
  refine a_sipush C dX9_append_28 (v := 255) rfl ?_
  refine a_iand C dX9_append_31 ?_
  refine a_iast C (i := 3) 1 kd_3 (hid 3 (by decide)) (by decide) rfl (by rw [al_3]; decide) dX9_append_32 ?_
  refine a_aload_n C dX9_append_33 (i := 0) rfl rfl ?_
  refine a_dup C dX9_append_34 rfl ?_
  refine a_get C fl_RX9_25 (i := 2) kd_2 (hid 2 (by decide)) (v := .int 1) rfl dX9_append_35 ?_
  refine a_iconst C dX9_append_38 (v := 1) rfl ?_
  refine a_iadd C dX9_append_39 ?_
  refine a_put C fp_RX9_25 (i := 2) kd_2 (hid 2 (by decide)) rfl rfl dX9_append_40 ?_
  refine a_iinc C dX9_append_43 rfl (v := 8) rfl (by decide) rfl (vs1 := [some (.ref (ad 2)), some (.int p0), some (.int 8)]) rfl ?_
  refine a_goto C dX9_append_46 (tgt := 3) rfl ?_
  refine a_iload_n C dX9_append_3 (i := 2) rfl rfl ?_
  refine a_if_lt C dX9_append_4 (tgt := 49) rfl (fun h => absurd h (by decide)) (fun _ => ?_)
  refine a_aload_n C dX9_append_7 (i := 0) rfl rfl ?_
  refine a_get C fl_RX9_25 (i := 2) kd_2 (hid 2 (by decide)) (v := .int 2) rfl dX9_append_8 ?_
  refine a_sipush C dX9_append_11 (v := 2000) rfl ?_
  refine a_ic_ge C dX9_append_14 (tgt := 43) rfl (fun h => absurd h (by decide)) (fun _ => ?_)
  refine a_aload_n C dX9_append_17 (i := 0) rfl rfl ?_
  refine a_get C fl_RX9_9 (i := 2) kd_2 (hid 2 (by decide)) (v := .ref (ad 3)) rfl dX9_append_18 ?_
  refine a_aload_n C dX9_append_21 (i := 0) rfl rfl ?_
  refine a_get C fl_RX9_25 (i := 2) kd_2 (hid 2 (by decide)) (v := .int 2) rfl dX9_append_22 ?_
  refine a_iload_n C dX9_append_25 (i := 1) rfl rfl ?_
  refine a_iload_n C dX9_append_26 (i := 2) rfl rfl ?_
  refine a_iushr C dX9_append_27 ?_
  refine a_sipush C dX9_append_28 (v := 255) rfl ?_
  refine a_iand C dX9_append_31 ?_
  refine a_iast C (i := 3) 2 kd_3 (hid 3 (by decide)) (by decide) rfl (by rw [al_3]; decide) dX9_append_32 ?_
  refine a_aload_n C dX9_append_33 (i := 0) rfl rfl ?_
  refine a_dup C dX9_append_34 rfl ?_
  refine a_get C fl_RX9_25 (i := 2) kd_2 (hid 2 (by decide)) (v := .int 2) rfl dX9_append_35 ?_
  refine a_iconst C dX9_append_38 (v := 1) rfl ?_
  refine a_iadd C dX9_append_39 ?_
  refine a_put C fp_RX9_25 (i := 2) kd_2 (hid 2 (by decide)) rfl rfl dX9_append_40 ?_
  refine a_iinc C dX9_append_43 rfl (v := 0) rfl (by decide) rfl (vs1 := [some (.ref (ad 2)), some (.int p0), some (.int 0)]) rfl ?_
  refine a_goto C dX9_append_46 (tgt := 3) rfl ?_
  refine a_iload_n C dX9_append_3 (i := 2) rfl rfl ?_
  refine a_if_lt C dX9_append_4 (tgt := 49) rfl (fun h => absurd h (by decide)) (fun _ => ?_)
  refine a_aload_n C dX9_append_7 (i := 0) rfl rfl ?_
  refine a_get C fl_RX9_25 (i := 2) kd_2 (hid 2 (by decide)) (v := .int 3) rfl dX9_append_8 ?_
  refine a_sipush C dX9_append_11 (v := 2000) rfl ?_
  refine a_ic_ge C dX9_append_14 (tgt := 43) rfl (fun h => absurd h (by decide)) (fun _ => ?_)
  refine a_aload_n C dX9_append_17 (i := 0) rfl rfl ?_
  refine a_get C fl_RX9_9 (i := 2) kd_2 (hid 2 (by decide)) (v := .ref (ad 3)) rfl dX9_append_18 ?_
  refine a_aload_n C dX9_append_21 (i := 0) rfl rfl ?_
  refine a_get C fl_RX9_25 (i := 2) kd_2 (hid 2 (by decide)) (v := .int 3) rfl dX9_append_22 ?_
  refine a_iload_n C dX9_append_25 (i := 1) rfl rfl ?_
  refine a_iload_n C dX9_append_26 (i := 2) rfl rfl ?_
  refine a_iushr C dX9_append_27 ?_
  refine a_sipush C dX9_append_28 (v := 255) rfl ?_
  refine a_iand C dX9_append_31 ?_
  refine a_iast C (i := 3) 3 kd_3 (hid 3 (by decide)) (by decide) rfl (by rw [al_3]; decide) dX9_append_32 ?_
  refine a_aload_n C dX9_append_33 (i := 0) rfl rfl ?_
  refine a_dup C dX9_append_34 rfl ?_
  refine a_get C fl_RX9_25 (i := 2) kd_2 (hid 2 (by decide)) (v := .int 3) rfl dX9_append_35 ?_
  refine a_iconst C dX9_append_38 (v := 1) rfl ?_
  refine a_iadd C dX9_append_39 ?_
  refine a_put C fp_RX9_25 (i := 2) kd_2 (hid 2 (by decide)) rfl rfl dX9_append_40 ?_
  refine a_iinc C dX9_append_43 rfl (v := (-8)) rfl (by decide) rfl (vs1 := [some (.ref (ad 2)), some (.int p0), some (.int (-8))]) rfl ?_
  refine a_goto C dX9_append_46 (tgt := 3) rfl ?_
  refine a_iload_n C dX9_append_3 (i := 2) rfl rfl ?_
  refine a_if_lt C dX9_append_4 (tgt := 49) rfl (fun _ => ?_) (fun h => absurd h (by decide))
  exact a_vret Rt dX9_append_49 (⟨(only.I (only.I (only.I (only.I (only.I (only.I (only.I (only.I only.rf (by decide)) (by decide)) (by decide)) (by decide)) (by decide)) (by decide)) (by decide)) (by decide)), rfl⟩)
set_option maxHeartbeats 4000000 in
set_option maxRecDepth 100000 in
theorem k_append_4 {l : Launch} {D : va_G} {ids : List Nat} {ad : Nat → Nat} {ca : Nat → ClassId} {σ : HS} {p0 : Int32} (hid : ∀ i, i < 277 → i ∈ ids) (h_2_1 : σ.1 2 1 = 4) : Kv l D ids ad ca yX9_append cX9_append 3 0 0 [.ref (ad 2), .int p0] σ (fun σ1 => only [2, 3] σ σ1 ∧ σ1.1 2 1 = 8) := by
  refine Kv.of (by decide) (Nat.le_of_ble_eq_true rfl) 1 (fun Γ C Rt => ?_)
  show AW ids ad ca Γ 0 [some (.ref (ad 2)), some (.int p0), none] [] σ
  refine a_bipush C dX9_append_0 (v := 24) rfl ?_
  refine a_istore_n C dX9_append_2 (i := 2) rfl (by decide) rfl (vs1 := [some (.ref (ad 2)), some (.int p0), some (.int 24)]) rfl ?_
  refine a_iload_n C dX9_append_3 (i := 2) rfl rfl ?_
  refine a_if_lt C dX9_append_4 (tgt := 49) rfl (fun h => absurd h (by decide)) (fun _ => ?_)
  refine a_aload_n C dX9_append_7 (i := 0) rfl rfl ?_
  refine a_get C fl_RX9_25 (i := 2) kd_2 (hid 2 (by decide)) (v := .int 4) (congrArg (fun z => some (Value.int z)) h_2_1) dX9_append_8 ?_
  refine a_sipush C dX9_append_11 (v := 2000) rfl ?_
  refine a_ic_ge C dX9_append_14 (tgt := 43) rfl (fun h => absurd h (by decide)) (fun _ => ?_)
  refine a_aload_n C dX9_append_17 (i := 0) rfl rfl ?_
  refine a_get C fl_RX9_9 (i := 2) kd_2 (hid 2 (by decide)) (v := .ref (ad 3)) rfl dX9_append_18 ?_
  refine a_aload_n C dX9_append_21 (i := 0) rfl rfl ?_
  refine a_get C fl_RX9_25 (i := 2) kd_2 (hid 2 (by decide)) (v := .int 4) (congrArg (fun z => some (Value.int z)) h_2_1) dX9_append_22 ?_
  refine a_iload_n C dX9_append_25 (i := 1) rfl rfl ?_
  refine a_iload_n C dX9_append_26 (i := 2) rfl rfl ?_
  refine a_iushr C dX9_append_27 ?_
  refine a_sipush C dX9_append_28 (v := 255) rfl ?_
  refine a_iand C dX9_append_31 ?_
  refine a_iast C (i := 3) 4 kd_3 (hid 3 (by decide)) (by decide) rfl (by rw [al_3]; decide) dX9_append_32 ?_
  refine a_aload_n C dX9_append_33 (i := 0) rfl rfl ?_
  refine a_dup C dX9_append_34 rfl ?_
  refine a_get C fl_RX9_25 (i := 2) kd_2 (hid 2 (by decide)) (v := .int 4) (congrArg (fun z => some (Value.int z)) h_2_1) dX9_append_35 ?_
  refine a_iconst C dX9_append_38 (v := 1) rfl ?_
  refine a_iadd C dX9_append_39 ?_
  refine a_put C fp_RX9_25 (i := 2) kd_2 (hid 2 (by decide)) rfl rfl dX9_append_40 ?_
  refine a_iinc C dX9_append_43 rfl (v := 16) rfl (by decide) rfl (vs1 := [some (.ref (ad 2)), some (.int p0), some (.int 16)]) rfl ?_
  refine a_goto C dX9_append_46 (tgt := 3) rfl ?_
  refine a_iload_n C dX9_append_3 (i := 2) rfl rfl ?_
  refine a_if_lt C dX9_append_4 (tgt := 49) rfl (fun h => absurd h (by decide)) (fun _ => ?_)
  refine a_aload_n C dX9_append_7 (i := 0) rfl rfl ?_
  refine a_get C fl_RX9_25 (i := 2) kd_2 (hid 2 (by decide)) (v := .int 5) rfl dX9_append_8 ?_
  refine a_sipush C dX9_append_11 (v := 2000) rfl ?_
  refine a_ic_ge C dX9_append_14 (tgt := 43) rfl (fun h => absurd h (by decide)) (fun _ => ?_)
  refine a_aload_n C dX9_append_17 (i := 0) rfl rfl ?_
  refine a_get C fl_RX9_9 (i := 2) kd_2 (hid 2 (by decide)) (v := .ref (ad 3)) rfl dX9_append_18 ?_
  refine a_aload_n C dX9_append_21 (i := 0) rfl rfl ?_
  refine a_get C fl_RX9_25 (i := 2) kd_2 (hid 2 (by decide)) (v := .int 5) rfl dX9_append_22 ?_
  refine a_iload_n C dX9_append_25 (i := 1) rfl rfl ?_
  refine a_iload_n C dX9_append_26 (i := 2) rfl rfl ?_
  refine a_iushr C dX9_append_27 ?_
  refine a_sipush C dX9_append_28 (v := 255) rfl ?_
  refine a_iand C dX9_append_31 ?_
  refine a_iast C (i := 3) 5 kd_3 (hid 3 (by decide)) (by decide) rfl (by rw [al_3]; decide) dX9_append_32 ?_
  refine a_aload_n C dX9_append_33 (i := 0) rfl rfl ?_
  refine a_dup C dX9_append_34 rfl ?_
  refine a_get C fl_RX9_25 (i := 2) kd_2 (hid 2 (by decide)) (v := .int 5) rfl dX9_append_35 ?_
  refine a_iconst C dX9_append_38 (v := 1) rfl ?_
  refine a_iadd C dX9_append_39 ?_
  refine a_put C fp_RX9_25 (i := 2) kd_2 (hid 2 (by decide)) rfl rfl dX9_append_40 ?_
  refine a_iinc C dX9_append_43 rfl (v := 8) rfl (by decide) rfl (vs1 := [some (.ref (ad 2)), some (.int p0), some (.int 8)]) rfl ?_
  refine a_goto C dX9_append_46 (tgt := 3) rfl ?_
  refine a_iload_n C dX9_append_3 (i := 2) rfl rfl ?_
  refine a_if_lt C dX9_append_4 (tgt := 49) rfl (fun h => absurd h (by decide)) (fun _ => ?_)
  refine a_aload_n C dX9_append_7 (i := 0) rfl rfl ?_
  refine a_get C fl_RX9_25 (i := 2) kd_2 (hid 2 (by decide)) (v := .int 6) rfl dX9_append_8 ?_
  refine a_sipush C dX9_append_11 (v := 2000) rfl ?_
  refine a_ic_ge C dX9_append_14 (tgt := 43) rfl (fun h => absurd h (by decide)) (fun _ => ?_)
  refine a_aload_n C dX9_append_17 (i := 0) rfl rfl ?_
  refine a_get C fl_RX9_9 (i := 2) kd_2 (hid 2 (by decide)) (v := .ref (ad 3)) rfl dX9_append_18 ?_
  refine a_aload_n C dX9_append_21 (i := 0) rfl rfl ?_
  refine a_get C fl_RX9_25 (i := 2) kd_2 (hid 2 (by decide)) (v := .int 6) rfl dX9_append_22 ?_
  refine a_iload_n C dX9_append_25 (i := 1) rfl rfl ?_
  refine a_iload_n C dX9_append_26 (i := 2) rfl rfl ?_
  refine a_iushr C dX9_append_27 ?_
  refine a_sipush C dX9_append_28 (v := 255) rfl ?_
  refine a_iand C dX9_append_31 ?_
  refine a_iast C (i := 3) 6 kd_3 (hid 3 (by decide)) (by decide) rfl (by rw [al_3]; decide) dX9_append_32 ?_
  refine a_aload_n C dX9_append_33 (i := 0) rfl rfl ?_
  refine a_dup C dX9_append_34 rfl ?_
  refine a_get C fl_RX9_25 (i := 2) kd_2 (hid 2 (by decide)) (v := .int 6) rfl dX9_append_35 ?_
  refine a_iconst C dX9_append_38 (v := 1) rfl ?_
  refine a_iadd C dX9_append_39 ?_
  refine a_put C fp_RX9_25 (i := 2) kd_2 (hid 2 (by decide)) rfl rfl dX9_append_40 ?_
  refine a_iinc C dX9_append_43 rfl (v := 0) rfl (by decide) rfl (vs1 := [some (.ref (ad 2)), some (.int p0), some (.int 0)]) rfl ?_
  refine a_goto C dX9_append_46 (tgt := 3) rfl ?_
  refine a_iload_n C dX9_append_3 (i := 2) rfl rfl ?_
  refine a_if_lt C dX9_append_4 (tgt := 49) rfl (fun h => absurd h (by decide)) (fun _ => ?_)
  refine a_aload_n C dX9_append_7 (i := 0) rfl rfl ?_
  refine a_get C fl_RX9_25 (i := 2) kd_2 (hid 2 (by decide)) (v := .int 7) rfl dX9_append_8 ?_
  refine a_sipush C dX9_append_11 (v := 2000) rfl ?_
  refine a_ic_ge C dX9_append_14 (tgt := 43) rfl (fun h => absurd h (by decide)) (fun _ => ?_)
  refine a_aload_n C dX9_append_17 (i := 0) rfl rfl ?_
  refine a_get C fl_RX9_9 (i := 2) kd_2 (hid 2 (by decide)) (v := .ref (ad 3)) rfl dX9_append_18 ?_
  refine a_aload_n C dX9_append_21 (i := 0) rfl rfl ?_
  refine a_get C fl_RX9_25 (i := 2) kd_2 (hid 2 (by decide)) (v := .int 7) rfl dX9_append_22 ?_
  refine a_iload_n C dX9_append_25 (i := 1) rfl rfl ?_
  refine a_iload_n C dX9_append_26 (i := 2) rfl rfl ?_
  refine a_iushr C dX9_append_27 ?_
  refine a_sipush C dX9_append_28 (v := 255) rfl ?_
  refine a_iand C dX9_append_31 ?_
  refine a_iast C (i := 3) 7 kd_3 (hid 3 (by decide)) (by decide) rfl (by rw [al_3]; decide) dX9_append_32 ?_
  refine a_aload_n C dX9_append_33 (i := 0) rfl rfl ?_
  refine a_dup C dX9_append_34 rfl ?_
  refine a_get C fl_RX9_25 (i := 2) kd_2 (hid 2 (by decide)) (v := .int 7) rfl dX9_append_35 ?_
  refine a_iconst C dX9_append_38 (v := 1) rfl ?_
  refine a_iadd C dX9_append_39 ?_
  refine a_put C fp_RX9_25 (i := 2) kd_2 (hid 2 (by decide)) rfl rfl dX9_append_40 ?_
  refine a_iinc C dX9_append_43 rfl (v := (-8)) rfl (by decide) rfl (vs1 := [some (.ref (ad 2)), some (.int p0), some (.int (-8))]) rfl ?_
  refine a_goto C dX9_append_46 (tgt := 3) rfl ?_
  refine a_iload_n C dX9_append_3 (i := 2) rfl rfl ?_
  refine a_if_lt C dX9_append_4 (tgt := 49) rfl (fun _ => ?_) (fun h => absurd h (by decide))
  exact a_vret Rt dX9_append_49 (⟨(only.I (only.I (only.I (only.I (only.I (only.I (only.I (only.I only.rf (by decide)) (by decide)) (by decide)) (by decide)) (by decide)) (by decide)) (by decide)) (by decide)), rfl⟩)
set_option maxHeartbeats 4000000 in
set_option maxRecDepth 100000 in
theorem k_append_8 {l : Launch} {D : va_G} {ids : List Nat} {ad : Nat → Nat} {ca : Nat → ClassId} {σ : HS} {p0 : Int32} (hid : ∀ i, i < 277 → i ∈ ids) (h_2_1 : σ.1 2 1 = 8) : Kv l D ids ad ca yX9_append cX9_append 3 0 0 [.ref (ad 2), .int p0] σ (fun σ1 => only [2, 3] σ σ1 ∧ σ1.1 2 1 = 12) := by
  refine Kv.of (by decide) (Nat.le_of_ble_eq_true rfl) 1 (fun Γ C Rt => ?_)
  show AW ids ad ca Γ 0 [some (.ref (ad 2)), some (.int p0), none] [] σ
  refine a_bipush C dX9_append_0 (v := 24) rfl ?_
  refine a_istore_n C dX9_append_2 (i := 2) rfl (by decide) rfl (vs1 := [some (.ref (ad 2)), some (.int p0), some (.int 24)]) rfl ?_
  refine a_iload_n C dX9_append_3 (i := 2) rfl rfl ?_
  refine a_if_lt C dX9_append_4 (tgt := 49) rfl (fun h => absurd h (by decide)) (fun _ => ?_)
  refine a_aload_n C dX9_append_7 (i := 0) rfl rfl ?_
  refine a_get C fl_RX9_25 (i := 2) kd_2 (hid 2 (by decide)) (v := .int 8) (congrArg (fun z => some (Value.int z)) h_2_1) dX9_append_8 ?_
  refine a_sipush C dX9_append_11 (v := 2000) rfl ?_
  refine a_ic_ge C dX9_append_14 (tgt := 43) rfl (fun h => absurd h (by decide)) (fun _ => ?_)
  refine a_aload_n C dX9_append_17 (i := 0) rfl rfl ?_
  refine a_get C fl_RX9_9 (i := 2) kd_2 (hid 2 (by decide)) (v := .ref (ad 3)) rfl dX9_append_18 ?_
  refine a_aload_n C dX9_append_21 (i := 0) rfl rfl ?_
  refine a_get C fl_RX9_25 (i := 2) kd_2 (hid 2 (by decide)) (v := .int 8) (congrArg (fun z => some (Value.int z)) h_2_1) dX9_append_22 ?_
  refine a_iload_n C dX9_append_25 (i := 1) rfl rfl ?_
  refine a_iload_n C dX9_append_26 (i := 2) rfl rfl ?_
  refine a_iushr C dX9_append_27 ?_
  refine a_sipush C dX9_append_28 (v := 255) rfl ?_
  refine a_iand C dX9_append_31 ?_
  refine a_iast C (i := 3) 8 kd_3 (hid 3 (by decide)) (by decide) rfl (by rw [al_3]; decide) dX9_append_32 ?_
  refine a_aload_n C dX9_append_33 (i := 0) rfl rfl ?_
  refine a_dup C dX9_append_34 rfl ?_
  refine a_get C fl_RX9_25 (i := 2) kd_2 (hid 2 (by decide)) (v := .int 8) (congrArg (fun z => some (Value.int z)) h_2_1) dX9_append_35 ?_
  refine a_iconst C dX9_append_38 (v := 1) rfl ?_
  refine a_iadd C dX9_append_39 ?_
  refine a_put C fp_RX9_25 (i := 2) kd_2 (hid 2 (by decide)) rfl rfl dX9_append_40 ?_
  refine a_iinc C dX9_append_43 rfl (v := 16) rfl (by decide) rfl (vs1 := [some (.ref (ad 2)), some (.int p0), some (.int 16)]) rfl ?_
  refine a_goto C dX9_append_46 (tgt := 3) rfl ?_
  refine a_iload_n C dX9_append_3 (i := 2) rfl rfl ?_
  refine a_if_lt C dX9_append_4 (tgt := 49) rfl (fun h => absurd h (by decide)) (fun _ => ?_)
  refine a_aload_n C dX9_append_7 (i := 0) rfl rfl ?_
  refine a_get C fl_RX9_25 (i := 2) kd_2 (hid 2 (by decide)) (v := .int 9) rfl dX9_append_8 ?_
  refine a_sipush C dX9_append_11 (v := 2000) rfl ?_
  refine a_ic_ge C dX9_append_14 (tgt := 43) rfl (fun h => absurd h (by decide)) (fun _ => ?_)
  refine a_aload_n C dX9_append_17 (i := 0) rfl rfl ?_
  refine a_get C fl_RX9_9 (i := 2) kd_2 (hid 2 (by decide)) (v := .ref (ad 3)) rfl dX9_append_18 ?_
  refine a_aload_n C dX9_append_21 (i := 0) rfl rfl ?_
  refine a_get C fl_RX9_25 (i := 2) kd_2 (hid 2 (by decide)) (v := .int 9) rfl dX9_append_22 ?_
  refine a_iload_n C dX9_append_25 (i := 1) rfl rfl ?_
  refine a_iload_n C dX9_append_26 (i := 2) rfl rfl ?_
  refine a_iushr C dX9_append_27 ?_
  refine a_sipush C dX9_append_28 (v := 255) rfl ?_
  refine a_iand C dX9_append_31 ?_
  refine a_iast C (i := 3) 9 kd_3 (hid 3 (by decide)) (by decide) rfl (by rw [al_3]; decide) dX9_append_32 ?_
  refine a_aload_n C dX9_append_33 (i := 0) rfl rfl ?_
  refine a_dup C dX9_append_34 rfl ?_
  refine a_get C fl_RX9_25 (i := 2) kd_2 (hid 2 (by decide)) (v := .int 9) rfl dX9_append_35 ?_
  refine a_iconst C dX9_append_38 (v := 1) rfl ?_
  refine a_iadd C dX9_append_39 ?_
  refine a_put C fp_RX9_25 (i := 2) kd_2 (hid 2 (by decide)) rfl rfl dX9_append_40 ?_
  refine a_iinc C dX9_append_43 rfl (v := 8) rfl (by decide) rfl (vs1 := [some (.ref (ad 2)), some (.int p0), some (.int 8)]) rfl ?_
  refine a_goto C dX9_append_46 (tgt := 3) rfl ?_
  refine a_iload_n C dX9_append_3 (i := 2) rfl rfl ?_
  refine a_if_lt C dX9_append_4 (tgt := 49) rfl (fun h => absurd h (by decide)) (fun _ => ?_)
  refine a_aload_n C dX9_append_7 (i := 0) rfl rfl ?_
  refine a_get C fl_RX9_25 (i := 2) kd_2 (hid 2 (by decide)) (v := .int 10) rfl dX9_append_8 ?_
  refine a_sipush C dX9_append_11 (v := 2000) rfl ?_
  refine a_ic_ge C dX9_append_14 (tgt := 43) rfl (fun h => absurd h (by decide)) (fun _ => ?_)
  refine a_aload_n C dX9_append_17 (i := 0) rfl rfl ?_
  refine a_get C fl_RX9_9 (i := 2) kd_2 (hid 2 (by decide)) (v := .ref (ad 3)) rfl dX9_append_18 ?_
  refine a_aload_n C dX9_append_21 (i := 0) rfl rfl ?_
  refine a_get C fl_RX9_25 (i := 2) kd_2 (hid 2 (by decide)) (v := .int 10) rfl dX9_append_22 ?_
  refine a_iload_n C dX9_append_25 (i := 1) rfl rfl ?_
  refine a_iload_n C dX9_append_26 (i := 2) rfl rfl ?_
  refine a_iushr C dX9_append_27 ?_
  refine a_sipush C dX9_append_28 (v := 255) rfl ?_
  refine a_iand C dX9_append_31 ?_
  refine a_iast C (i := 3) 10 kd_3 (hid 3 (by decide)) (by decide) rfl (by rw [al_3]; decide) dX9_append_32 ?_
  refine a_aload_n C dX9_append_33 (i := 0) rfl rfl ?_
  refine a_dup C dX9_append_34 rfl ?_
  refine a_get C fl_RX9_25 (i := 2) kd_2 (hid 2 (by decide)) (v := .int 10) rfl dX9_append_35 ?_
  refine a_iconst C dX9_append_38 (v := 1) rfl ?_
  refine a_iadd C dX9_append_39 ?_
  refine a_put C fp_RX9_25 (i := 2) kd_2 (hid 2 (by decide)) rfl rfl dX9_append_40 ?_
  refine a_iinc C dX9_append_43 rfl (v := 0) rfl (by decide) rfl (vs1 := [some (.ref (ad 2)), some (.int p0), some (.int 0)]) rfl ?_
  refine a_goto C dX9_append_46 (tgt := 3) rfl ?_
  refine a_iload_n C dX9_append_3 (i := 2) rfl rfl ?_
  refine a_if_lt C dX9_append_4 (tgt := 49) rfl (fun h => absurd h (by decide)) (fun _ => ?_)
  refine a_aload_n C dX9_append_7 (i := 0) rfl rfl ?_
  refine a_get C fl_RX9_25 (i := 2) kd_2 (hid 2 (by decide)) (v := .int 11) rfl dX9_append_8 ?_
  refine a_sipush C dX9_append_11 (v := 2000) rfl ?_
  refine a_ic_ge C dX9_append_14 (tgt := 43) rfl (fun h => absurd h (by decide)) (fun _ => ?_)
  refine a_aload_n C dX9_append_17 (i := 0) rfl rfl ?_
  refine a_get C fl_RX9_9 (i := 2) kd_2 (hid 2 (by decide)) (v := .ref (ad 3)) rfl dX9_append_18 ?_
  refine a_aload_n C dX9_append_21 (i := 0) rfl rfl ?_
  refine a_get C fl_RX9_25 (i := 2) kd_2 (hid 2 (by decide)) (v := .int 11) rfl dX9_append_22 ?_
  refine a_iload_n C dX9_append_25 (i := 1) rfl rfl ?_
  refine a_iload_n C dX9_append_26 (i := 2) rfl rfl ?_
  refine a_iushr C dX9_append_27 ?_
  refine a_sipush C dX9_append_28 (v := 255) rfl ?_
  refine a_iand C dX9_append_31 ?_
  refine a_iast C (i := 3) 11 kd_3 (hid 3 (by decide)) (by decide) rfl (by rw [al_3]; decide) dX9_append_32 ?_
  refine a_aload_n C dX9_append_33 (i := 0) rfl rfl ?_
  refine a_dup C dX9_append_34 rfl ?_
  refine a_get C fl_RX9_25 (i := 2) kd_2 (hid 2 (by decide)) (v := .int 11) rfl dX9_append_35 ?_
  refine a_iconst C dX9_append_38 (v := 1) rfl ?_
  refine a_iadd C dX9_append_39 ?_
  refine a_put C fp_RX9_25 (i := 2) kd_2 (hid 2 (by decide)) rfl rfl dX9_append_40 ?_
  refine a_iinc C dX9_append_43 rfl (v := (-8)) rfl (by decide) rfl (vs1 := [some (.ref (ad 2)), some (.int p0), some (.int (-8))]) rfl ?_
  refine a_goto C dX9_append_46 (tgt := 3) rfl ?_
  refine a_iload_n C dX9_append_3 (i := 2) rfl rfl ?_
  refine a_if_lt C dX9_append_4 (tgt := 49) rfl (fun _ => ?_) (fun h => absurd h (by decide))
  exact a_vret Rt dX9_append_49 (⟨(only.I (only.I (only.I (only.I (only.I (only.I (only.I (only.I only.rf (by decide)) (by decide)) (by decide)) (by decide)) (by decide)) (by decide)) (by decide)) (by decide)), rfl⟩)
set_option maxHeartbeats 4000000 in
set_option maxRecDepth 100000 in
theorem k_append_12 {l : Launch} {D : va_G} {ids : List Nat} {ad : Nat → Nat} {ca : Nat → ClassId} {σ : HS} {p0 : Int32} (hid : ∀ i, i < 277 → i ∈ ids) (h_2_1 : σ.1 2 1 = 12) : Kv l D ids ad ca yX9_append cX9_append 3 0 0 [.ref (ad 2), .int p0] σ (fun σ1 => only [2, 3] σ σ1 ∧ σ1.1 2 1 = 16) := by
  refine Kv.of (by decide) (Nat.le_of_ble_eq_true rfl) 1 (fun Γ C Rt => ?_)
  show AW ids ad ca Γ 0 [some (.ref (ad 2)), some (.int p0), none] [] σ
  refine a_bipush C dX9_append_0 (v := 24) rfl ?_
  refine a_istore_n C dX9_append_2 (i := 2) rfl (by decide) rfl (vs1 := [some (.ref (ad 2)), some (.int p0), some (.int 24)]) rfl ?_
  refine a_iload_n C dX9_append_3 (i := 2) rfl rfl ?_
  refine a_if_lt C dX9_append_4 (tgt := 49) rfl (fun h => absurd h (by decide)) (fun _ => ?_)
  refine a_aload_n C dX9_append_7 (i := 0) rfl rfl ?_
  refine a_get C fl_RX9_25 (i := 2) kd_2 (hid 2 (by decide)) (v := .int 12) (congrArg (fun z => some (Value.int z)) h_2_1) dX9_append_8 ?_
  refine a_sipush C dX9_append_11 (v := 2000) rfl ?_
  refine a_ic_ge C dX9_append_14 (tgt := 43) rfl (fun h => absurd h (by decide)) (fun _ => ?_)
  refine a_aload_n C dX9_append_17 (i := 0) rfl rfl ?_
  refine a_get C fl_RX9_9 (i := 2) kd_2 (hid 2 (by decide)) (v := .ref (ad 3)) rfl dX9_append_18 ?_
  refine a_aload_n C dX9_append_21 (i := 0) rfl rfl ?_
  refine a_get C fl_RX9_25 (i := 2) kd_2 (hid 2 (by decide)) (v := .int 12) (congrArg (fun z => some (Value.int z)) h_2_1) dX9_append_22 ?_
  refine a_iload_n C dX9_append_25 (i := 1) rfl rfl ?_
  refine a_iload_n C dX9_append_26 (i := 2) rfl rfl ?_
  refine a_iushr C dX9_append_27 ?_
  refine a_sipush C dX9_append_28 (v := 255) rfl ?_
  refine a_iand C dX9_append_31 ?_
  refine a_iast C (i := 3) 12 kd_3 (hid 3 (by decide)) (by decide) rfl (by rw [al_3]; decide) dX9_append_32 ?_
  refine a_aload_n C dX9_append_33 (i := 0) rfl rfl ?_
  refine a_dup C dX9_append_34 rfl ?_
  refine a_get C fl_RX9_25 (i := 2) kd_2 (hid 2 (by decide)) (v := .int 12) (congrArg (fun z => some (Value.int z)) h_2_1) dX9_append_35 ?_
  refine a_iconst C dX9_append_38 (v := 1) rfl ?_
  refine a_iadd C dX9_append_39 ?_
  refine a_put C fp_RX9_25 (i := 2) kd_2 (hid 2 (by decide)) rfl rfl dX9_append_40 ?_
  refine a_iinc C dX9_append_43 rfl (v := 16) rfl (by decide) rfl (vs1 := [some (.ref (ad 2)), some (.int p0), some (.int 16)]) rfl ?_
  refine a_goto C dX9_append_46 (tgt := 3) rfl ?_
  refine a_iload_n C dX9_append_3 (i := 2) rfl rfl ?_
  refine a_if_lt C dX9_append_4 (tgt := 49) rfl (fun h => absurd h (by decide)) (fun _ => ?_)
  refine a_aload_n C dX9_append_7 (i := 0) rfl rfl ?_
  refine a_get C fl_RX9_25 (i := 2) kd_2 (hid 2 (by decide)) (v := .int 13) rfl dX9_append_8 ?_
  refine a_sipush C dX9_append_11 (v := 2000) rfl ?_
  refine a_ic_ge C dX9_append_14 (tgt := 43) rfl (fun h => absurd h (by decide)) (fun _ => ?_)
  refine a_aload_n C dX9_append_17 (i := 0) rfl rfl ?_
  refine a_get C fl_RX9_9 (i := 2) kd_2 (hid 2 (by decide)) (v := .ref (ad 3)) rfl dX9_append_18 ?_
  refine a_aload_n C dX9_append_21 (i := 0) rfl rfl ?_
  refine a_get C fl_RX9_25 (i := 2) kd_2 (hid 2 (by decide)) (v := .int 13) rfl dX9_append_22 ?_
  refine a_iload_n C dX9_append_25 (i := 1) rfl rfl ?_
  refine a_iload_n C dX9_append_26 (i := 2) rfl rfl ?_
  refine a_iushr C dX9_append_27 ?_
  refine a_sipush C dX9_append_28 (v := 255) rfl ?_
  refine a_iand C dX9_append_31 ?_
  refine a_iast C (i := 3) 13 kd_3 (hid 3 (by decide)) (by decide) rfl (by rw [al_3]; decide) dX9_append_32 ?_
  refine a_aload_n C dX9_append_33 (i := 0) rfl rfl ?_
  refine a_dup C dX9_append_34 rfl ?_
  refine a_get C fl_RX9_25 (i := 2) kd_2 (hid 2 (by decide)) (v := .int 13) rfl dX9_append_35 ?_
  refine a_iconst C dX9_append_38 (v := 1) rfl ?_
  refine a_iadd C dX9_append_39 ?_
  refine a_put C fp_RX9_25 (i := 2) kd_2 (hid 2 (by decide)) rfl rfl dX9_append_40 ?_
  refine a_iinc C dX9_append_43 rfl (v := 8) rfl (by decide) rfl (vs1 := [some (.ref (ad 2)), some (.int p0), some (.int 8)]) rfl ?_
  refine a_goto C dX9_append_46 (tgt := 3) rfl ?_
  refine a_iload_n C dX9_append_3 (i := 2) rfl rfl ?_
  refine a_if_lt C dX9_append_4 (tgt := 49) rfl (fun h => absurd h (by decide)) (fun _ => ?_)
  refine a_aload_n C dX9_append_7 (i := 0) rfl rfl ?_
  refine a_get C fl_RX9_25 (i := 2) kd_2 (hid 2 (by decide)) (v := .int 14) rfl dX9_append_8 ?_
  refine a_sipush C dX9_append_11 (v := 2000) rfl ?_
  refine a_ic_ge C dX9_append_14 (tgt := 43) rfl (fun h => absurd h (by decide)) (fun _ => ?_)
  refine a_aload_n C dX9_append_17 (i := 0) rfl rfl ?_
  refine a_get C fl_RX9_9 (i := 2) kd_2 (hid 2 (by decide)) (v := .ref (ad 3)) rfl dX9_append_18 ?_
  refine a_aload_n C dX9_append_21 (i := 0) rfl rfl ?_
  refine a_get C fl_RX9_25 (i := 2) kd_2 (hid 2 (by decide)) (v := .int 14) rfl dX9_append_22 ?_
  refine a_iload_n C dX9_append_25 (i := 1) rfl rfl ?_
  refine a_iload_n C dX9_append_26 (i := 2) rfl rfl ?_
  refine a_iushr C dX9_append_27 ?_
  refine a_sipush C dX9_append_28 (v := 255) rfl ?_
  refine a_iand C dX9_append_31 ?_
  refine a_iast C (i := 3) 14 kd_3 (hid 3 (by decide)) (by decide) rfl (by rw [al_3]; decide) dX9_append_32 ?_
  refine a_aload_n C dX9_append_33 (i := 0) rfl rfl ?_
  refine a_dup C dX9_append_34 rfl ?_
  refine a_get C fl_RX9_25 (i := 2) kd_2 (hid 2 (by decide)) (v := .int 14) rfl dX9_append_35 ?_
  refine a_iconst C dX9_append_38 (v := 1) rfl ?_
  refine a_iadd C dX9_append_39 ?_
  refine a_put C fp_RX9_25 (i := 2) kd_2 (hid 2 (by decide)) rfl rfl dX9_append_40 ?_
  refine a_iinc C dX9_append_43 rfl (v := 0) rfl (by decide) rfl (vs1 := [some (.ref (ad 2)), some (.int p0), some (.int 0)]) rfl ?_
  refine a_goto C dX9_append_46 (tgt := 3) rfl ?_
  refine a_iload_n C dX9_append_3 (i := 2) rfl rfl ?_
  refine a_if_lt C dX9_append_4 (tgt := 49) rfl (fun h => absurd h (by decide)) (fun _ => ?_)
  refine a_aload_n C dX9_append_7 (i := 0) rfl rfl ?_
  refine a_get C fl_RX9_25 (i := 2) kd_2 (hid 2 (by decide)) (v := .int 15) rfl dX9_append_8 ?_
  refine a_sipush C dX9_append_11 (v := 2000) rfl ?_
  refine a_ic_ge C dX9_append_14 (tgt := 43) rfl (fun h => absurd h (by decide)) (fun _ => ?_)
  refine a_aload_n C dX9_append_17 (i := 0) rfl rfl ?_
  refine a_get C fl_RX9_9 (i := 2) kd_2 (hid 2 (by decide)) (v := .ref (ad 3)) rfl dX9_append_18 ?_
  refine a_aload_n C dX9_append_21 (i := 0) rfl rfl ?_
  refine a_get C fl_RX9_25 (i := 2) kd_2 (hid 2 (by decide)) (v := .int 15) rfl dX9_append_22 ?_
  refine a_iload_n C dX9_append_25 (i := 1) rfl rfl ?_
  refine a_iload_n C dX9_append_26 (i := 2) rfl rfl ?_
  refine a_iushr C dX9_append_27 ?_
  refine a_sipush C dX9_append_28 (v := 255) rfl ?_
  refine a_iand C dX9_append_31 ?_
  refine a_iast C (i := 3) 15 kd_3 (hid 3 (by decide)) (by decide) rfl (by rw [al_3]; decide) dX9_append_32 ?_
  refine a_aload_n C dX9_append_33 (i := 0) rfl rfl ?_
  refine a_dup C dX9_append_34 rfl ?_
  refine a_get C fl_RX9_25 (i := 2) kd_2 (hid 2 (by decide)) (v := .int 15) rfl dX9_append_35 ?_
  refine a_iconst C dX9_append_38 (v := 1) rfl ?_
  refine a_iadd C dX9_append_39 ?_
  refine a_put C fp_RX9_25 (i := 2) kd_2 (hid 2 (by decide)) rfl rfl dX9_append_40 ?_
  refine a_iinc C dX9_append_43 rfl (v := (-8)) rfl (by decide) rfl (vs1 := [some (.ref (ad 2)), some (.int p0), some (.int (-8))]) rfl ?_
  refine a_goto C dX9_append_46 (tgt := 3) rfl ?_
  refine a_iload_n C dX9_append_3 (i := 2) rfl rfl ?_
  refine a_if_lt C dX9_append_4 (tgt := 49) rfl (fun _ => ?_) (fun h => absurd h (by decide))
  exact a_vret Rt dX9_append_49 (⟨(only.I (only.I (only.I (only.I (only.I (only.I (only.I (only.I only.rf (by decide)) (by decide)) (by decide)) (by decide)) (by decide)) (by decide)) (by decide)) (by decide)), rfl⟩)
set_option maxHeartbeats 4000000 in
set_option maxRecDepth 100000 in
theorem k_append_16 {l : Launch} {D : va_G} {ids : List Nat} {ad : Nat → Nat} {ca : Nat → ClassId} {σ : HS} {p0 : Int32} (hid : ∀ i, i < 277 → i ∈ ids) (h_2_1 : σ.1 2 1 = 16) : Kv l D ids ad ca yX9_append cX9_append 3 0 0 [.ref (ad 2), .int p0] σ (fun σ1 => only [2, 3] σ σ1 ∧ σ1.1 2 1 = 20) := by
  refine Kv.of (by decide) (Nat.le_of_ble_eq_true rfl) 1 (fun Γ C Rt => ?_)
  show AW ids ad ca Γ 0 [some (.ref (ad 2)), some (.int p0), none] [] σ
  refine a_bipush C dX9_append_0 (v := 24) rfl ?_
  refine a_istore_n C dX9_append_2 (i := 2) rfl (by decide) rfl (vs1 := [some (.ref (ad 2)), some (.int p0), some (.int 24)]) rfl ?_
  refine a_iload_n C dX9_append_3 (i := 2) rfl rfl ?_
  refine a_if_lt C dX9_append_4 (tgt := 49) rfl (fun h => absurd h (by decide)) (fun _ => ?_)
  refine a_aload_n C dX9_append_7 (i := 0) rfl rfl ?_
  refine a_get C fl_RX9_25 (i := 2) kd_2 (hid 2 (by decide)) (v := .int 16) (congrArg (fun z => some (Value.int z)) h_2_1) dX9_append_8 ?_
  refine a_sipush C dX9_append_11 (v := 2000) rfl ?_
  refine a_ic_ge C dX9_append_14 (tgt := 43) rfl (fun h => absurd h (by decide)) (fun _ => ?_)
  refine a_aload_n C dX9_append_17 (i := 0) rfl rfl ?_
  refine a_get C fl_RX9_9 (i := 2) kd_2 (hid 2 (by decide)) (v := .ref (ad 3)) rfl dX9_append_18 ?_
  refine a_aload_n C dX9_append_21 (i := 0) rfl rfl ?_
  refine a_get C fl_RX9_25 (i := 2) kd_2 (hid 2 (by decide)) (v := .int 16) (congrArg (fun z => some (Value.int z)) h_2_1) dX9_append_22 ?_
  refine a_iload_n C dX9_append_25 (i := 1) rfl rfl ?_
  refine a_iload_n C dX9_append_26 (i := 2) rfl rfl ?_
  refine a_iushr C dX9_append_27 ?_
  refine a_sipush C dX9_append_28 (v := 255) rfl ?_
  refine a_iand C dX9_append_31 ?_
  refine a_iast C (i := 3) 16 kd_3 (hid 3 (by decide)) (by decide) rfl (by rw [al_3]; decide) dX9_append_32 ?_
  refine a_aload_n C dX9_append_33 (i := 0) rfl rfl ?_
  refine a_dup C dX9_append_34 rfl ?_
  refine a_get C fl_RX9_25 (i := 2) kd_2 (hid 2 (by decide)) (v := .int 16) (congrArg (fun z => some (Value.int z)) h_2_1) dX9_append_35 ?_
  refine a_iconst C dX9_append_38 (v := 1) rfl ?_
  refine a_iadd C dX9_append_39 ?_
  refine a_put C fp_RX9_25 (i := 2) kd_2 (hid 2 (by decide)) rfl rfl dX9_append_40 ?_
  refine a_iinc C dX9_append_43 rfl (v := 16) rfl (by decide) rfl (vs1 := [some (.ref (ad 2)), some (.int p0), some (.int 16)]) rfl ?_
  refine a_goto C dX9_append_46 (tgt := 3) rfl ?_
  refine a_iload_n C dX9_append_3 (i := 2) rfl rfl ?_
  refine a_if_lt C dX9_append_4 (tgt := 49) rfl (fun h => absurd h (by decide)) (fun _ => ?_)
  refine a_aload_n C dX9_append_7 (i := 0) rfl rfl ?_
  refine a_get C fl_RX9_25 (i := 2) kd_2 (hid 2 (by decide)) (v := .int 17) rfl dX9_append_8 ?_
  refine a_sipush C dX9_append_11 (v := 2000) rfl ?_
  refine a_ic_ge C dX9_append_14 (tgt := 43) rfl (fun h => absurd h (by decide)) (fun _ => ?_)
  refine a_aload_n C dX9_append_17 (i := 0) rfl rfl ?_
  refine a_get C fl_RX9_9 (i := 2) kd_2 (hid 2 (by decide)) (v := .ref (ad 3)) rfl dX9_append_18 ?_
  refine a_aload_n C dX9_append_21 (i := 0) rfl rfl ?_
  refine a_get C fl_RX9_25 (i := 2) kd_2 (hid 2 (by decide)) (v := .int 17) rfl dX9_append_22 ?_
  refine a_iload_n C dX9_append_25 (i := 1) rfl rfl ?_
  refine a_iload_n C dX9_append_26 (i := 2) rfl rfl ?_
  refine a_iushr C dX9_append_27 ?_
  refine a_sipush C dX9_append_28 (v := 255) rfl ?_
  refine a_iand C dX9_append_31 ?_
  refine a_iast C (i := 3) 17 kd_3 (hid 3 (by decide)) (by decide) rfl (by rw [al_3]; decide) dX9_append_32 ?_
  refine a_aload_n C dX9_append_33 (i := 0) rfl rfl ?_
  refine a_dup C dX9_append_34 rfl ?_
  refine a_get C fl_RX9_25 (i := 2) kd_2 (hid 2 (by decide)) (v := .int 17) rfl dX9_append_35 ?_
  refine a_iconst C dX9_append_38 (v := 1) rfl ?_
  refine a_iadd C dX9_append_39 ?_
  refine a_put C fp_RX9_25 (i := 2) kd_2 (hid 2 (by decide)) rfl rfl dX9_append_40 ?_
  refine a_iinc C dX9_append_43 rfl (v := 8) rfl (by decide) rfl (vs1 := [some (.ref (ad 2)), some (.int p0), some (.int 8)]) rfl ?_
  refine a_goto C dX9_append_46 (tgt := 3) rfl ?_
  refine a_iload_n C dX9_append_3 (i := 2) rfl rfl ?_
  refine a_if_lt C dX9_append_4 (tgt := 49) rfl (fun h => absurd h (by decide)) (fun _ => ?_)
  refine a_aload_n C dX9_append_7 (i := 0) rfl rfl ?_
  refine a_get C fl_RX9_25 (i := 2) kd_2 (hid 2 (by decide)) (v := .int 18) rfl dX9_append_8 ?_
  refine a_sipush C dX9_append_11 (v := 2000) rfl ?_
  refine a_ic_ge C dX9_append_14 (tgt := 43) rfl (fun h => absurd h (by decide)) (fun _ => ?_)
  refine a_aload_n C dX9_append_17 (i := 0) rfl rfl ?_
  refine a_get C fl_RX9_9 (i := 2) kd_2 (hid 2 (by decide)) (v := .ref (ad 3)) rfl dX9_append_18 ?_
  refine a_aload_n C dX9_append_21 (i := 0) rfl rfl ?_
  refine a_get C fl_RX9_25 (i := 2) kd_2 (hid 2 (by decide)) (v := .int 18) rfl dX9_append_22 ?_
  refine a_iload_n C dX9_append_25 (i := 1) rfl rfl ?_
  refine a_iload_n C dX9_append_26 (i := 2) rfl rfl ?_
  refine a_iushr C dX9_append_27 ?_
  refine a_sipush C dX9_append_28 (v := 255) rfl ?_
  refine a_iand C dX9_append_31 ?_
  refine a_iast C (i := 3) 18 kd_3 (hid 3 (by decide)) (by decide) rfl (by rw [al_3]; decide) dX9_append_32 ?_
  refine a_aload_n C dX9_append_33 (i := 0) rfl rfl ?_
  refine a_dup C dX9_append_34 rfl ?_
  refine a_get C fl_RX9_25 (i := 2) kd_2 (hid 2 (by decide)) (v := .int 18) rfl dX9_append_35 ?_
  refine a_iconst C dX9_append_38 (v := 1) rfl ?_
  refine a_iadd C dX9_append_39 ?_
  refine a_put C fp_RX9_25 (i := 2) kd_2 (hid 2 (by decide)) rfl rfl dX9_append_40 ?_
  refine a_iinc C dX9_append_43 rfl (v := 0) rfl (by decide) rfl (vs1 := [some (.ref (ad 2)), some (.int p0), some (.int 0)]) rfl ?_
  refine a_goto C dX9_append_46 (tgt := 3) rfl ?_
  refine a_iload_n C dX9_append_3 (i := 2) rfl rfl ?_
  refine a_if_lt C dX9_append_4 (tgt := 49) rfl (fun h => absurd h (by decide)) (fun _ => ?_)
  refine a_aload_n C dX9_append_7 (i := 0) rfl rfl ?_
  refine a_get C fl_RX9_25 (i := 2) kd_2 (hid 2 (by decide)) (v := .int 19) rfl dX9_append_8 ?_
  refine a_sipush C dX9_append_11 (v := 2000) rfl ?_
  refine a_ic_ge C dX9_append_14 (tgt := 43) rfl (fun h => absurd h (by decide)) (fun _ => ?_)
  refine a_aload_n C dX9_append_17 (i := 0) rfl rfl ?_
  refine a_get C fl_RX9_9 (i := 2) kd_2 (hid 2 (by decide)) (v := .ref (ad 3)) rfl dX9_append_18 ?_
  refine a_aload_n C dX9_append_21 (i := 0) rfl rfl ?_
  refine a_get C fl_RX9_25 (i := 2) kd_2 (hid 2 (by decide)) (v := .int 19) rfl dX9_append_22 ?_
  refine a_iload_n C dX9_append_25 (i := 1) rfl rfl ?_
  refine a_iload_n C dX9_append_26 (i := 2) rfl rfl ?_
  refine a_iushr C dX9_append_27 ?_
  refine a_sipush C dX9_append_28 (v := 255) rfl ?_
  refine a_iand C dX9_append_31 ?_
  refine a_iast C (i := 3) 19 kd_3 (hid 3 (by decide)) (by decide) rfl (by rw [al_3]; decide) dX9_append_32 ?_
  refine a_aload_n C dX9_append_33 (i := 0) rfl rfl ?_
  refine a_dup C dX9_append_34 rfl ?_
  refine a_get C fl_RX9_25 (i := 2) kd_2 (hid 2 (by decide)) (v := .int 19) rfl dX9_append_35 ?_
  refine a_iconst C dX9_append_38 (v := 1) rfl ?_
  refine a_iadd C dX9_append_39 ?_
  refine a_put C fp_RX9_25 (i := 2) kd_2 (hid 2 (by decide)) rfl rfl dX9_append_40 ?_
  refine a_iinc C dX9_append_43 rfl (v := (-8)) rfl (by decide) rfl (vs1 := [some (.ref (ad 2)), some (.int p0), some (.int (-8))]) rfl ?_
  refine a_goto C dX9_append_46 (tgt := 3) rfl ?_
  refine a_iload_n C dX9_append_3 (i := 2) rfl rfl ?_
  refine a_if_lt C dX9_append_4 (tgt := 49) rfl (fun _ => ?_) (fun h => absurd h (by decide))
  exact a_vret Rt dX9_append_49 (⟨(only.I (only.I (only.I (only.I (only.I (only.I (only.I (only.I only.rf (by decide)) (by decide)) (by decide)) (by decide)) (by decide)) (by decide)) (by decide)) (by decide)), rfl⟩)
theorem dX11_feed_0 : decode cX11_feed 0 = .ok (.aload_n 0, 1) := by decide +kernel
theorem dX11_feed_1 : decode cX11_feed 1 = .ok (.getfield 10, 3) := by decide +kernel
theorem dX11_feed_4 : decode cX11_feed 4 = .ok (.getfield 89, 3) := by decide +kernel
theorem dX11_feed_7 : decode cX11_feed 7 = .ok (.getfield 93, 3) := by decide +kernel
theorem dX11_feed_10 : decode cX11_feed 10 = .ok (.bipush 20, 2) := by decide +kernel
theorem dX11_feed_12 : decode cX11_feed 12 = .ok (.iadd, 1) := by decide +kernel
theorem dX11_feed_13 : decode cX11_feed 13 = .ok (.sipush 2000, 3) := by decide +kernel
theorem dX11_feed_16 : decode cX11_feed 16 = .ok (.if_icmp .le 5, 3) := by decide +kernel
theorem dX11_feed_21 : decode cX11_feed 21 = .ok (.aload_n 0, 1) := by decide +kernel
theorem dX11_feed_22 : decode cX11_feed 22 = .ok (.getfield 10, 3) := by decide +kernel
theorem dX11_feed_25 : decode cX11_feed 25 = .ok (.getfield 89, 3) := by decide +kernel
theorem dX11_feed_28 : decode cX11_feed 28 = .ok (.iload_n 1, 1) := by decide +kernel
theorem dX11_feed_29 : decode cX11_feed 29 = .ok (.invokevirtual 99, 3) := by decide +kernel
theorem dX11_feed_32 : decode cX11_feed 32 = .ok (.aload_n 0, 1) := by decide +kernel
theorem dX11_feed_33 : decode cX11_feed 33 = .ok (.getfield 10, 3) := by decide +kernel
theorem dX11_feed_36 : decode cX11_feed 36 = .ok (.getfield 89, 3) := by decide +kernel
theorem dX11_feed_39 : decode cX11_feed 39 = .ok (.iload_n 2, 1) := by decide +kernel
theorem dX11_feed_40 : decode cX11_feed 40 = .ok (.invokevirtual 99, 3) := by decide +kernel
theorem dX11_feed_43 : decode cX11_feed 43 = .ok (.aload_n 0, 1) := by decide +kernel
theorem dX11_feed_44 : decode cX11_feed 44 = .ok (.getfield 10, 3) := by decide +kernel
theorem dX11_feed_47 : decode cX11_feed 47 = .ok (.getfield 89, 3) := by decide +kernel
theorem dX11_feed_50 : decode cX11_feed 50 = .ok (.iload_n 3, 1) := by decide +kernel
theorem dX11_feed_51 : decode cX11_feed 51 = .ok (.invokevirtual 99, 3) := by decide +kernel
theorem dX11_feed_54 : decode cX11_feed 54 = .ok (.aload_n 0, 1) := by decide +kernel
theorem dX11_feed_55 : decode cX11_feed 55 = .ok (.getfield 10, 3) := by decide +kernel
theorem dX11_feed_58 : decode cX11_feed 58 = .ok (.getfield 89, 3) := by decide +kernel
theorem dX11_feed_61 : decode cX11_feed 61 = .ok (.iload 4, 2) := by decide +kernel
theorem dX11_feed_63 : decode cX11_feed 63 = .ok (.invokevirtual 99, 3) := by decide +kernel
theorem dX11_feed_66 : decode cX11_feed 66 = .ok (.aload_n 0, 1) := by decide +kernel
theorem dX11_feed_67 : decode cX11_feed 67 = .ok (.getfield 10, 3) := by decide +kernel
theorem dX11_feed_70 : decode cX11_feed 70 = .ok (.getfield 89, 3) := by decide +kernel
theorem dX11_feed_73 : decode cX11_feed 73 = .ok (.iload 5, 2) := by decide +kernel
theorem dX11_feed_75 : decode cX11_feed 75 = .ok (.invokevirtual 99, 3) := by decide +kernel
theorem dX11_feed_78 : decode cX11_feed 78 = .ok (.aload_n 0, 1) := by decide +kernel
theorem dX11_feed_79 : decode cX11_feed 79 = .ok (.getfield 10, 3) := by decide +kernel
theorem dX11_feed_82 : decode cX11_feed 82 = .ok (.getfield 89, 3) := by decide +kernel
theorem dX11_feed_85 : decode cX11_feed 85 = .ok (.getfield 93, 3) := by decide +kernel
theorem dX11_feed_88 : decode cX11_feed 88 = .ok (.ireturn, 1) := by decide +kernel
set_option maxHeartbeats 4000000 in
set_option maxRecDepth 100000 in
theorem p_feed {l : Launch} {D : va_G} {ids : List Nat} {ad : Nat → Nat} {ca : Nat → ClassId} {σ : HS} {p0 : Int32} {p1 : Int32} {p2 : Int32} {p3 : Int32} {p4 : Int32} (hid : ∀ i, i < 277 → i ∈ ids) (h_2_1 : σ.1 2 1 = 0) : Ki l D ids ad ca yX11_feed cX11_feed 6 .int 1 22 [.ref (ad 0), .int p0, .int p1, .int p2, .int p3, .int p4] σ (fun r σ1 => r = 20 ∧ keepM σ σ1) := by
  refine Ki.of (by decide) (Nat.le_of_ble_eq_true rfl) 0 (fun Γ C Rt => ?_)
  show AW ids ad ca Γ 0 [some (.ref (ad 0)), some (.int p0), some (.int p1), some (.int p2), some (.int p3), some (.int p4)] [] σ
  refine a_aload_n C dX11_feed_0 (i := 0) rfl rfl ?_
  refine a_get C fl_RX11_10 (i := 0) kd_0 (hid 0 (by decide)) (v := .ref (ad 1)) rfl dX11_feed_1 ?_
  refine a_get C fl_RX11_89 (i := 1) kd_1 (hid 1 (by decide)) (v := .ref (ad 2)) rfl dX11_feed_4 ?_
  refine a_get C fl_RX11_93 (i := 2) kd_2 (hid 2 (by decide)) (v := .int 0) (congrArg (fun z => some (Value.int z)) h_2_1) dX11_feed_7 ?_
  refine a_bipush C dX11_feed_10 (v := 20) rfl ?_
  refine a_iadd C dX11_feed_12 ?_
  refine a_sipush C dX11_feed_13 (v := 2000) rfl ?_
  refine a_ic_le C dX11_feed_16 (tgt := 21) rfl (fun _ => ?_) (fun h => absurd h (by decide))
  refine a_aload_n C dX11_feed_21 (i := 0) rfl rfl ?_
  refine a_get C fl_RX11_10 (i := 0) kd_0 (hid 0 (by decide)) (v := .ref (ad 1)) rfl dX11_feed_22 ?_
  refine a_get C fl_RX11_89 (i := 1) kd_1 (hid 1 (by decide)) (v := .ref (ad 2)) rfl dX11_feed_25 ?_
  refine a_iload_n C dX11_feed_28 (i := 1) rfl rfl ?_
  refine a_callVv C (i := 2) kd_2 (hid 2 (by decide)) ⟨_, _, rfl⟩ (by decide) (k_append_0 hid h_2_1) mi_X9_append ml_RX11_99 rfl rfl (Nat.le_of_ble_eq_true rfl) (Nat.le_of_ble_eq_true rfl) (Nat.le_of_ble_eq_true rfl) dX11_feed_29 (fun σ2 q3 => ?_)
  refine a_aload_n C dX11_feed_32 (i := 0) rfl rfl ?_
  refine a_get C fl_RX11_10 (i := 0) kd_0 (hid 0 (by decide)) (v := .ref (ad 1)) rfl dX11_feed_33 ?_
  refine a_get C fl_RX11_89 (i := 1) kd_1 (hid 1 (by decide)) (v := .ref (ad 2)) rfl dX11_feed_36 ?_
  refine a_iload_n C dX11_feed_39 (i := 2) rfl rfl ?_
  refine a_callVv C (i := 2) kd_2 (hid 2 (by decide)) ⟨_, _, rfl⟩ (by decide) (k_append_4 hid q3.2) mi_X9_append ml_RX11_99 rfl rfl (Nat.le_of_ble_eq_true rfl) (Nat.le_of_ble_eq_true rfl) (Nat.le_of_ble_eq_true rfl) dX11_feed_40 (fun σ5 q6 => ?_)
  refine a_aload_n C dX11_feed_43 (i := 0) rfl rfl ?_
  refine a_get C fl_RX11_10 (i := 0) kd_0 (hid 0 (by decide)) (v := .ref (ad 1)) rfl dX11_feed_44 ?_
  refine a_get C fl_RX11_89 (i := 1) kd_1 (hid 1 (by decide)) (v := .ref (ad 2)) rfl dX11_feed_47 ?_
  refine a_iload_n C dX11_feed_50 (i := 3) rfl rfl ?_
  refine a_callVv C (i := 2) kd_2 (hid 2 (by decide)) ⟨_, _, rfl⟩ (by decide) (k_append_8 hid q6.2) mi_X9_append ml_RX11_99 rfl rfl (Nat.le_of_ble_eq_true rfl) (Nat.le_of_ble_eq_true rfl) (Nat.le_of_ble_eq_true rfl) dX11_feed_51 (fun σ8 q9 => ?_)
  refine a_aload_n C dX11_feed_54 (i := 0) rfl rfl ?_
  refine a_get C fl_RX11_10 (i := 0) kd_0 (hid 0 (by decide)) (v := .ref (ad 1)) rfl dX11_feed_55 ?_
  refine a_get C fl_RX11_89 (i := 1) kd_1 (hid 1 (by decide)) (v := .ref (ad 2)) rfl dX11_feed_58 ?_
  refine a_iload C dX11_feed_61 rfl ?_
  refine a_callVv C (i := 2) kd_2 (hid 2 (by decide)) ⟨_, _, rfl⟩ (by decide) (k_append_12 hid q9.2) mi_X9_append ml_RX11_99 rfl rfl (Nat.le_of_ble_eq_true rfl) (Nat.le_of_ble_eq_true rfl) (Nat.le_of_ble_eq_true rfl) dX11_feed_63 (fun σ11 q12 => ?_)
  refine a_aload_n C dX11_feed_66 (i := 0) rfl rfl ?_
  refine a_get C fl_RX11_10 (i := 0) kd_0 (hid 0 (by decide)) (v := .ref (ad 1)) rfl dX11_feed_67 ?_
  refine a_get C fl_RX11_89 (i := 1) kd_1 (hid 1 (by decide)) (v := .ref (ad 2)) rfl dX11_feed_70 ?_
  refine a_iload C dX11_feed_73 rfl ?_
  refine a_callVv C (i := 2) kd_2 (hid 2 (by decide)) ⟨_, _, rfl⟩ (by decide) (k_append_16 hid q12.2) mi_X9_append ml_RX11_99 rfl rfl (Nat.le_of_ble_eq_true rfl) (Nat.le_of_ble_eq_true rfl) (Nat.le_of_ble_eq_true rfl) dX11_feed_75 (fun σ14 q15 => ?_)
  refine a_aload_n C dX11_feed_78 (i := 0) rfl rfl ?_
  refine a_get C fl_RX11_10 (i := 0) kd_0 (hid 0 (by decide)) (v := .ref (ad 1)) rfl dX11_feed_79 ?_
  refine a_get C fl_RX11_89 (i := 1) kd_1 (hid 1 (by decide)) (v := .ref (ad 2)) rfl dX11_feed_82 ?_
  refine a_get C fl_RX11_93 (i := 2) kd_2 (hid 2 (by decide)) (v := .int 20) (congrArg (fun z => some (Value.int z)) q15.2) dX11_feed_85 ?_
  exact a_iret Rt dX11_feed_88 rfl (⟨rfl, (keepM.tr (keepM.tr (keepM.tr (keepM.tr (keepM.tr keepM.rf (only.keepM q3.1 (by decide))) (only.keepM q6.1 (by decide))) (only.keepM q9.1 (by decide))) (only.keepM q12.1 (by decide))) (only.keepM q15.1 (by decide)))⟩)
theorem dX11_back_0 : decode cX11_back 0 = .ok (.iload_n 1, 1) := by decide +kernel
theorem dX11_back_1 : decode cX11_back 1 = .ok (.ifCond .lt 17, 3) := by decide +kernel
theorem dX11_back_4 : decode cX11_back 4 = .ok (.iload_n 1, 1) := by decide +kernel
theorem dX11_back_5 : decode cX11_back 5 = .ok (.aload_n 0, 1) := by decide +kernel
theorem dX11_back_6 : decode cX11_back 6 = .ok (.getfield 10, 3) := by decide +kernel
theorem dX11_back_9 : decode cX11_back 9 = .ok (.getfield 89, 3) := by decide +kernel
theorem dX11_back_12 : decode cX11_back 12 = .ok (.getfield 93, 3) := by decide +kernel
theorem dX11_back_15 : decode cX11_back 15 = .ok (.if_icmp .le 5, 3) := by decide +kernel
theorem dX11_back_20 : decode cX11_back 20 = .ok (.aload_n 0, 1) := by decide +kernel
theorem dX11_back_21 : decode cX11_back 21 = .ok (.getfield 10, 3) := by decide +kernel
theorem dX11_back_24 : decode cX11_back 24 = .ok (.getfield 89, 3) := by decide +kernel
theorem dX11_back_27 : decode cX11_back 27 = .ok (.dup, 1) := by decide +kernel
theorem dX11_back_28 : decode cX11_back 28 = .ok (.getfield 93, 3) := by decide +kernel
theorem dX11_back_31 : decode cX11_back 31 = .ok (.iload_n 1, 1) := by decide +kernel
theorem dX11_back_32 : decode cX11_back 32 = .ok (.isub, 1) := by decide +kernel
theorem dX11_back_33 : decode cX11_back 33 = .ok (.putfield 93, 3) := by decide +kernel
theorem dX11_back_36 : decode cX11_back 36 = .ok (.aload_n 0, 1) := by decide +kernel
theorem dX11_back_37 : decode cX11_back 37 = .ok (.getfield 10, 3) := by decide +kernel
theorem dX11_back_40 : decode cX11_back 40 = .ok (.getfield 89, 3) := by decide +kernel
theorem dX11_back_43 : decode cX11_back 43 = .ok (.getfield 93, 3) := by decide +kernel
theorem dX11_back_46 : decode cX11_back 46 = .ok (.ireturn, 1) := by decide +kernel
set_option maxHeartbeats 4000000 in
set_option maxRecDepth 100000 in
theorem p_back0 {l : Launch} {D : va_G} {ids : List Nat} {ad : Nat → Nat} {ca : Nat → ClassId} {σ : HS} (hid : ∀ i, i < 277 → i ∈ ids) (h_2_1 : σ.1 2 1 = 0) : Ki l D ids ad ca yX11_back cX11_back 2 .int 0 0 [.ref (ad 0), .int 0] σ (fun r σ1 => r = 0 ∧ keepM σ σ1) := by
  refine Ki.of (by decide) (Nat.le_of_ble_eq_true rfl) 0 (fun Γ C Rt => ?_)
  show AW ids ad ca Γ 0 [some (.ref (ad 0)), some (.int 0)] [] σ
  refine a_iload_n C dX11_back_0 (i := 1) rfl rfl ?_
  refine a_if_lt C dX11_back_1 (tgt := 18) rfl (fun h => absurd h (by decide)) (fun _ => ?_)
  refine a_iload_n C dX11_back_4 (i := 1) rfl rfl ?_
  refine a_aload_n C dX11_back_5 (i := 0) rfl rfl ?_
  refine a_get C fl_RX11_10 (i := 0) kd_0 (hid 0 (by decide)) (v := .ref (ad 1)) rfl dX11_back_6 ?_
  refine a_get C fl_RX11_89 (i := 1) kd_1 (hid 1 (by decide)) (v := .ref (ad 2)) rfl dX11_back_9 ?_
  refine a_get C fl_RX11_93 (i := 2) kd_2 (hid 2 (by decide)) (v := .int 0) (congrArg (fun z => some (Value.int z)) h_2_1) dX11_back_12 ?_
  refine a_ic_le C dX11_back_15 (tgt := 20) rfl (fun _ => ?_) (fun h => absurd h (by decide))
  refine a_aload_n C dX11_back_20 (i := 0) rfl rfl ?_
  refine a_get C fl_RX11_10 (i := 0) kd_0 (hid 0 (by decide)) (v := .ref (ad 1)) rfl dX11_back_21 ?_
  refine a_get C fl_RX11_89 (i := 1) kd_1 (hid 1 (by decide)) (v := .ref (ad 2)) rfl dX11_back_24 ?_
  refine a_dup C dX11_back_27 rfl ?_
  refine a_get C fl_RX11_93 (i := 2) kd_2 (hid 2 (by decide)) (v := .int 0) (congrArg (fun z => some (Value.int z)) h_2_1) dX11_back_28 ?_
  refine a_iload_n C dX11_back_31 (i := 1) rfl rfl ?_
  refine a_isub C dX11_back_32 ?_
  refine a_put C fp_RX11_93 (i := 2) kd_2 (hid 2 (by decide)) rfl rfl dX11_back_33 ?_
  refine a_aload_n C dX11_back_36 (i := 0) rfl rfl ?_
  refine a_get C fl_RX11_10 (i := 0) kd_0 (hid 0 (by decide)) (v := .ref (ad 1)) rfl dX11_back_37 ?_
  refine a_get C fl_RX11_89 (i := 1) kd_1 (hid 1 (by decide)) (v := .ref (ad 2)) rfl dX11_back_40 ?_
  refine a_get C fl_RX11_93 (i := 2) kd_2 (hid 2 (by decide)) (v := .int 0) rfl dX11_back_43 ?_
  exact a_iret Rt dX11_back_46 rfl (⟨rfl, (keepM.I keepM.rf (by decide))⟩)
theorem dX11_back_18 : decode cX11_back 18 = .ok (.iconst (-1), 1) := by decide +kernel
theorem dX11_back_19 : decode cX11_back 19 = .ok (.ireturn, 1) := by decide +kernel
set_option maxHeartbeats 4000000 in
set_option maxRecDepth 100000 in
theorem p_back1 {l : Launch} {D : va_G} {ids : List Nat} {ad : Nat → Nat} {ca : Nat → ClassId} {σ : HS} {p0 : Int32} (hid : ∀ i, i < 277 → i ∈ ids) (ho : p0 < 0 ∨ 0 < p0) (h_2_1 : σ.1 2 1 = 0) : Ki l D ids ad ca yX11_back cX11_back 2 .int 0 0 [.ref (ad 0), .int p0] σ (fun r σ1 => r = (-1) ∧ keepM σ σ1) := by
  refine Ki.of (by decide) (Nat.le_of_ble_eq_true rfl) 0 (fun Γ C Rt => ?_)
  show AW ids ad ca Γ 0 [some (.ref (ad 0)), some (.int p0)] [] σ
  refine a_iload_n C dX11_back_0 (i := 1) rfl rfl ?_
  refine a_if_lt C dX11_back_1 (tgt := 18) rfl (fun c1 => ?_) (fun c1 => ?_)
  ·
    refine a_iconst C dX11_back_18 (v := (-1)) rfl ?_
    exact a_iret Rt dX11_back_19 rfl (⟨rfl, keepM.rf⟩)
  ·
    refine a_iload_n C dX11_back_4 (i := 1) rfl rfl ?_
    refine a_aload_n C dX11_back_5 (i := 0) rfl rfl ?_
    refine a_get C fl_RX11_10 (i := 0) kd_0 (hid 0 (by decide)) (v := .ref (ad 1)) rfl dX11_back_6 ?_
    refine a_get C fl_RX11_89 (i := 1) kd_1 (hid 1 (by decide)) (v := .ref (ad 2)) rfl dX11_back_9 ?_
    refine a_get C fl_RX11_93 (i := 2) kd_2 (hid 2 (by decide)) (v := .int 0) (congrArg (fun z => some (Value.int z)) h_2_1) dX11_back_12 ?_
    refine a_ic_le C dX11_back_15 (tgt := 20) rfl (fun c2 => absurd c2 (Int32.not_le.mpr (ho.resolve_left c1))) (fun c2 => ?_)
    refine a_iconst C dX11_back_18 (v := (-1)) rfl ?_
    exact a_iret Rt dX11_back_19 rfl (⟨rfl, keepM.rf⟩)
theorem dX2_add_0 : decode cX2_add 0 = .ok (.aload_n 0, 1) := by decide +kernel
theorem dX2_add_1 : decode cX2_add 1 = .ok (.getfield 19, 3) := by decide +kernel
theorem dX2_add_4 : decode cX2_add 4 = .ok (.bipush 20, 2) := by decide +kernel
theorem dX2_add_6 : decode cX2_add 6 = .ok (.if_icmp .lt 5, 3) := by decide +kernel
theorem dX2_add_11 : decode cX2_add 11 = .ok (.aload_n 0, 1) := by decide +kernel
theorem dX2_add_12 : decode cX2_add 12 = .ok (.getfield 9, 3) := by decide +kernel
theorem dX2_add_15 : decode cX2_add 15 = .ok (.aload_n 0, 1) := by decide +kernel
theorem dX2_add_16 : decode cX2_add 16 = .ok (.getfield 19, 3) := by decide +kernel
theorem dX2_add_19 : decode cX2_add 19 = .ok (.iload_n 1, 1) := by decide +kernel
theorem dX2_add_20 : decode cX2_add 20 = .ok (.iastore, 1) := by decide +kernel
theorem dX2_add_21 : decode cX2_add 21 = .ok (.aload_n 0, 1) := by decide +kernel
theorem dX2_add_22 : decode cX2_add 22 = .ok (.getfield 15, 3) := by decide +kernel
theorem dX2_add_25 : decode cX2_add 25 = .ok (.aload_n 0, 1) := by decide +kernel
theorem dX2_add_26 : decode cX2_add 26 = .ok (.getfield 19, 3) := by decide +kernel
theorem dX2_add_29 : decode cX2_add 29 = .ok (.iload_n 2, 1) := by decide +kernel
theorem dX2_add_30 : decode cX2_add 30 = .ok (.bastore, 1) := by decide +kernel
theorem dX2_add_31 : decode cX2_add 31 = .ok (.aload_n 0, 1) := by decide +kernel
theorem dX2_add_32 : decode cX2_add 32 = .ok (.dup, 1) := by decide +kernel
theorem dX2_add_33 : decode cX2_add 33 = .ok (.getfield 19, 3) := by decide +kernel
theorem dX2_add_36 : decode cX2_add 36 = .ok (.iconst 1, 1) := by decide +kernel
theorem dX2_add_37 : decode cX2_add 37 = .ok (.iadd, 1) := by decide +kernel
theorem dX2_add_38 : decode cX2_add 38 = .ok (.putfield 19, 3) := by decide +kernel
theorem dX2_add_41 : decode cX2_add 41 = .ok (.aload_n 0, 1) := by decide +kernel
theorem dX2_add_42 : decode cX2_add 42 = .ok (.getfield 19, 3) := by decide +kernel
theorem dX2_add_45 : decode cX2_add 45 = .ok (.iconst 1, 1) := by decide +kernel
theorem dX2_add_46 : decode cX2_add 46 = .ok (.isub, 1) := by decide +kernel
theorem dX2_add_47 : decode cX2_add 47 = .ok (.ireturn, 1) := by decide +kernel
set_option maxHeartbeats 4000000 in
set_option maxRecDepth 100000 in
theorem k_add {l : Launch} {D : va_G} {ids : List Nat} {ad : Nat → Nat} {ca : Nat → ClassId} {σ : HS} {p0 : Int32} {p1 : Int32} (hid : ∀ i, i < 277 → i ∈ ids) (hz : vp_nar .boolean p1 = p1) (h_14_2 : σ.1 14 2 = 0) : Ki l D ids ad ca yX2_add cX2_add 3 .int 0 0 [.ref (ad 14), .int p0, .int p1] σ (fun r σ1 => r = 0 ∧ only [14, 15, 16] σ σ1) := by
  refine Ki.of (by decide) (Nat.le_of_ble_eq_true rfl) 0 (fun Γ C Rt => ?_)
  show AW ids ad ca Γ 0 [some (.ref (ad 14)), some (.int p0), some (.int p1)] [] σ
  refine a_aload_n C dX2_add_0 (i := 0) rfl rfl ?_
  refine a_get C fl_RX2_19 (i := 14) kd_14 (hid 14 (by decide)) (v := .int 0) (congrArg (fun z => some (Value.int z)) h_14_2) dX2_add_1 ?_
  refine a_bipush C dX2_add_4 (v := 20) rfl ?_
  refine a_ic_lt C dX2_add_6 (tgt := 11) rfl (fun _ => ?_) (fun h => absurd h (by decide))
  refine a_aload_n C dX2_add_11 (i := 0) rfl rfl ?_
  refine a_get C fl_RX2_9 (i := 14) kd_14 (hid 14 (by decide)) (v := .ref (ad 15)) rfl dX2_add_12 ?_
  refine a_aload_n C dX2_add_15 (i := 0) rfl rfl ?_
  refine a_get C fl_RX2_19 (i := 14) kd_14 (hid 14 (by decide)) (v := .int 0) (congrArg (fun z => some (Value.int z)) h_14_2) dX2_add_16 ?_
  refine a_iload_n C dX2_add_19 (i := 1) rfl rfl ?_
  refine a_iast C (i := 15) 0 kd_15 (hid 15 (by decide)) (by decide) rfl (by rw [al_15]; decide) dX2_add_20 ?_
  refine a_aload_n C dX2_add_21 (i := 0) rfl rfl ?_
  refine a_get C fl_RX2_15 (i := 14) kd_14 (hid 14 (by decide)) (v := .ref (ad 16)) rfl dX2_add_22 ?_
  refine a_aload_n C dX2_add_25 (i := 0) rfl rfl ?_
  refine a_get C fl_RX2_19 (i := 14) kd_14 (hid 14 (by decide)) (v := .int 0) (congrArg (fun z => some (Value.int z)) h_14_2) dX2_add_26 ?_
  refine a_iload_n C dX2_add_29 (i := 2) rfl rfl ?_
  refine a_zast C (i := 16) 0 hz kd_16 (hid 16 (by decide)) (by decide) rfl (by rw [al_16]; decide) dX2_add_30 ?_
  refine a_aload_n C dX2_add_31 (i := 0) rfl rfl ?_
  refine a_dup C dX2_add_32 rfl ?_
  refine a_get C fl_RX2_19 (i := 14) kd_14 (hid 14 (by decide)) (v := .int 0) (congrArg (fun z => some (Value.int z)) h_14_2) dX2_add_33 ?_
  refine a_iconst C dX2_add_36 (v := 1) rfl ?_
  refine a_iadd C dX2_add_37 ?_
  refine a_put C fp_RX2_19 (i := 14) kd_14 (hid 14 (by decide)) rfl rfl dX2_add_38 ?_
  refine a_aload_n C dX2_add_41 (i := 0) rfl rfl ?_
  refine a_get C fl_RX2_19 (i := 14) kd_14 (hid 14 (by decide)) (v := .int 1) rfl dX2_add_42 ?_
  refine a_iconst C dX2_add_45 (v := 1) rfl ?_
  refine a_isub C dX2_add_46 ?_
  exact a_iret Rt dX2_add_47 rfl (⟨rfl, (only.I (only.I (only.I only.rf (by decide)) (by decide)) (by decide))⟩)
theorem dX11_tell_0 : decode cX11_tell 0 = .ok (.iload_n 1, 1) := by decide +kernel
theorem dX11_tell_1 : decode cX11_tell 1 = .ok (.ifCond .lt 9, 3) := by decide +kernel
theorem dX11_tell_4 : decode cX11_tell 4 = .ok (.iload_n 1, 1) := by decide +kernel
theorem dX11_tell_5 : decode cX11_tell 5 = .ok (.bipush 40, 2) := by decide +kernel
theorem dX11_tell_7 : decode cX11_tell 7 = .ok (.if_icmp .le 5, 3) := by decide +kernel
theorem dX11_tell_12 : decode cX11_tell 12 = .ok (.aload_n 0, 1) := by decide +kernel
theorem dX11_tell_13 : decode cX11_tell 13 = .ok (.getfield 33, 3) := by decide +kernel
theorem dX11_tell_16 : decode cX11_tell 16 = .ok (.iload_n 1, 1) := by decide +kernel
theorem dX11_tell_17 : decode cX11_tell 17 = .ok (.iload_n 2, 1) := by decide +kernel
theorem dX11_tell_18 : decode cX11_tell 18 = .ok (.invokevirtual 322, 3) := by decide +kernel
theorem dX11_tell_21 : decode cX11_tell 21 = .ok (.ireturn, 1) := by decide +kernel
set_option maxHeartbeats 4000000 in
set_option maxRecDepth 100000 in
theorem p_tell_in {l : Launch} {D : va_G} {ids : List Nat} {ad : Nat → Nat} {ca : Nat → ClassId} {σ : HS} {p0 : Int32} {p1 : Int32} (hid : ∀ i, i < 277 → i ∈ ids) (h1 : ¬ p0 < 0) (h2 : p0 ≤ 40) (hz : vp_nar .boolean p1 = p1) (h_14_2 : σ.1 14 2 = 0) : Ki l D ids ad ca yX11_tell cX11_tell 3 .int 1 22 [.ref (ad 0), .int p0, .int p1] σ (fun r σ1 => r = 0 ∧ keepM σ σ1) := by
  refine Ki.of (by decide) (Nat.le_of_ble_eq_true rfl) 0 (fun Γ C Rt => ?_)
  show AW ids ad ca Γ 0 [some (.ref (ad 0)), some (.int p0), some (.int p1)] [] σ
  refine a_iload_n C dX11_tell_0 (i := 1) rfl rfl ?_
  refine a_if_lt C dX11_tell_1 (tgt := 10) rfl (fun c1 => absurd c1 (h1)) (fun c1 => ?_)
  refine a_iload_n C dX11_tell_4 (i := 1) rfl rfl ?_
  refine a_bipush C dX11_tell_5 (v := 40) rfl ?_
  refine a_ic_le C dX11_tell_7 (tgt := 12) rfl (fun c2 => ?_) (fun c2 => absurd c2 (fun q => q h2))
  refine a_aload_n C dX11_tell_12 (i := 0) rfl rfl ?_
  refine a_get C fl_RX11_33 (i := 0) kd_0 (hid 0 (by decide)) (v := .ref (ad 14)) rfl dX11_tell_13 ?_
  refine a_iload_n C dX11_tell_16 (i := 1) rfl rfl ?_
  refine a_iload_n C dX11_tell_17 (i := 2) rfl rfl ?_
  refine a_callVi C (i := 14) kd_14 (hid 14 (by decide)) ⟨_, _, rfl⟩ (by decide) (k_add hid hz h_14_2) mi_X2_add ml_RX11_322 rfl rfl (Nat.le_of_ble_eq_true rfl) (Nat.le_of_ble_eq_true rfl) (Nat.le_of_ble_eq_true rfl) dX11_tell_18 (fun r3 σ4 q5 => ?_)
  obtain ⟨rfl, q5⟩ := q5
  exact a_iret Rt dX11_tell_21 rfl (⟨rfl, (keepM.tr keepM.rf (only.keepM q5 (by decide)))⟩)
theorem dX11_tell_10 : decode cX11_tell 10 = .ok (.iconst (-1), 1) := by decide +kernel
theorem dX11_tell_11 : decode cX11_tell 11 = .ok (.ireturn, 1) := by decide +kernel
set_option maxHeartbeats 4000000 in
set_option maxRecDepth 100000 in
theorem p_tell_out {l : Launch} {D : va_G} {ids : List Nat} {ad : Nat → Nat} {ca : Nat → ClassId} {σ : HS} {p0 : Int32} {p1 : Int32} (hid : ∀ i, i < 277 → i ∈ ids) (ho : p0 < 0 ∨ 40 < p0) : Ki l D ids ad ca yX11_tell cX11_tell 3 .int 0 0 [.ref (ad 0), .int p0, .int p1] σ (fun r σ1 => r = (-1) ∧ keepM σ σ1) := by
  refine Ki.of (by decide) (Nat.le_of_ble_eq_true rfl) 0 (fun Γ C Rt => ?_)
  show AW ids ad ca Γ 0 [some (.ref (ad 0)), some (.int p0), some (.int p1)] [] σ
  refine a_iload_n C dX11_tell_0 (i := 1) rfl rfl ?_
  refine a_if_lt C dX11_tell_1 (tgt := 10) rfl (fun c1 => ?_) (fun c1 => ?_)
  ·
    refine a_iconst C dX11_tell_10 (v := (-1)) rfl ?_
    exact a_iret Rt dX11_tell_11 rfl (⟨rfl, keepM.rf⟩)
  ·
    refine a_iload_n C dX11_tell_4 (i := 1) rfl rfl ?_
    refine a_bipush C dX11_tell_5 (v := 40) rfl ?_
    refine a_ic_le C dX11_tell_7 (tgt := 12) rfl (fun c2 => absurd c2 (Int32.not_le.mpr (ho.resolve_left c1))) (fun c2 => ?_)
    refine a_iconst C dX11_tell_10 (v := (-1)) rfl ?_
    exact a_iret Rt dX11_tell_11 rfl (⟨rfl, keepM.rf⟩)
theorem dX11_slotsHeld_0 : decode cX11_slotsHeld 0 = .ok (.iconst 0, 1) := by decide +kernel
theorem dX11_slotsHeld_1 : decode cX11_slotsHeld 1 = .ok (.istore_n 1, 1) := by decide +kernel
theorem dX11_slotsHeld_2 : decode cX11_slotsHeld 2 = .ok (.iconst 0, 1) := by decide +kernel
theorem dX11_slotsHeld_3 : decode cX11_slotsHeld 3 = .ok (.istore_n 2, 1) := by decide +kernel
theorem dX11_slotsHeld_4 : decode cX11_slotsHeld 4 = .ok (.iload_n 2, 1) := by decide +kernel
theorem dX11_slotsHeld_5 : decode cX11_slotsHeld 5 = .ok (.iconst 3, 1) := by decide +kernel
theorem dX11_slotsHeld_6 : decode cX11_slotsHeld 6 = .ok (.if_icmp .ge 21, 3) := by decide +kernel
theorem dX11_slotsHeld_9 : decode cX11_slotsHeld 9 = .ok (.aload_n 0, 1) := by decide +kernel
theorem dX11_slotsHeld_10 : decode cX11_slotsHeld 10 = .ok (.getfield 65, 3) := by decide +kernel
theorem dX11_slotsHeld_13 : decode cX11_slotsHeld 13 = .ok (.iload_n 2, 1) := by decide +kernel
theorem dX11_slotsHeld_14 : decode cX11_slotsHeld 14 = .ok (.baload, 1) := by decide +kernel
theorem dX11_slotsHeld_15 : decode cX11_slotsHeld 15 = .ok (.ifCond .eq 6, 3) := by decide +kernel
theorem dX11_slotsHeld_21 : decode cX11_slotsHeld 21 = .ok (.iinc 2 1, 3) := by decide +kernel
theorem dX11_slotsHeld_24 : decode cX11_slotsHeld 24 = .ok (.goto (-20), 3) := by decide +kernel
theorem dX11_slotsHeld_27 : decode cX11_slotsHeld 27 = .ok (.iload_n 1, 1) := by decide +kernel
theorem dX11_slotsHeld_28 : decode cX11_slotsHeld 28 = .ok (.ireturn, 1) := by decide +kernel
set_option maxHeartbeats 4000000 in
set_option maxRecDepth 100000 in
theorem k_slotsHeld {l : Launch} {D : va_G} {ids : List Nat} {ad : Nat → Nat} {ca : Nat → ClassId} {σ : HS} (hid : ∀ i, i < 277 → i ∈ ids) (h_26_0 : σ.1 26 0 = 0) (h_26_1 : σ.1 26 1 = 0) (h_26_2 : σ.1 26 2 = 0) : Ki l D ids ad ca yX11_slotsHeld cX11_slotsHeld 3 .int 0 0 [.ref (ad 0)] σ (fun r σ1 => r = 0 ∧ σ1 = σ) := by
  refine Ki.of (by decide) (Nat.le_of_ble_eq_true rfl) 2 (fun Γ C Rt => ?_)
  show AW ids ad ca Γ 0 [some (.ref (ad 0)), none, none] [] σ
  refine a_iconst C dX11_slotsHeld_0 (v := 0) rfl ?_
  refine a_istore_n C dX11_slotsHeld_1 (i := 1) rfl (by decide) rfl (vs1 := [some (.ref (ad 0)), some (.int 0), none]) rfl ?_
  refine a_iconst C dX11_slotsHeld_2 (v := 0) rfl ?_
  refine a_istore_n C dX11_slotsHeld_3 (i := 2) rfl (by decide) rfl (vs1 := [some (.ref (ad 0)), some (.int 0), some (.int 0)]) rfl ?_
  refine a_iload_n C dX11_slotsHeld_4 (i := 2) rfl rfl ?_
  refine a_iconst C dX11_slotsHeld_5 (v := 3) rfl ?_
  refine a_ic_ge C dX11_slotsHeld_6 (tgt := 27) rfl (fun h => absurd h (by decide)) (fun _ => ?_)
  refine a_aload_n C dX11_slotsHeld_9 (i := 0) rfl rfl ?_
  refine a_get C fl_RX11_65 (i := 0) kd_0 (hid 0 (by decide)) (v := .ref (ad 26)) rfl dX11_slotsHeld_10 ?_
  refine a_iload_n C dX11_slotsHeld_13 (i := 2) rfl rfl ?_
  refine a_zald C (i := 26) 0 kd_26 (hid 26 (by decide)) (by decide) rfl (by rw [al_26]; decide) dX11_slotsHeld_14 (v := 0) h_26_0 ?_
  refine a_if_eq C dX11_slotsHeld_15 (tgt := 21) rfl (fun _ => ?_) (fun h => absurd h (by decide))
  refine a_iinc C dX11_slotsHeld_21 rfl (v := 1) rfl (by decide) rfl (vs1 := [some (.ref (ad 0)), some (.int 0), some (.int 1)]) rfl ?_
  refine a_goto C dX11_slotsHeld_24 (tgt := 4) rfl ?_
  refine a_iload_n C dX11_slotsHeld_4 (i := 2) rfl rfl ?_
  refine a_iconst C dX11_slotsHeld_5 (v := 3) rfl ?_
  refine a_ic_ge C dX11_slotsHeld_6 (tgt := 27) rfl (fun h => absurd h (by decide)) (fun _ => ?_)
  refine a_aload_n C dX11_slotsHeld_9 (i := 0) rfl rfl ?_
  refine a_get C fl_RX11_65 (i := 0) kd_0 (hid 0 (by decide)) (v := .ref (ad 26)) rfl dX11_slotsHeld_10 ?_
  refine a_iload_n C dX11_slotsHeld_13 (i := 2) rfl rfl ?_
  refine a_zald C (i := 26) 1 kd_26 (hid 26 (by decide)) (by decide) rfl (by rw [al_26]; decide) dX11_slotsHeld_14 (v := 0) h_26_1 ?_
  refine a_if_eq C dX11_slotsHeld_15 (tgt := 21) rfl (fun _ => ?_) (fun h => absurd h (by decide))
  refine a_iinc C dX11_slotsHeld_21 rfl (v := 2) rfl (by decide) rfl (vs1 := [some (.ref (ad 0)), some (.int 0), some (.int 2)]) rfl ?_
  refine a_goto C dX11_slotsHeld_24 (tgt := 4) rfl ?_
  refine a_iload_n C dX11_slotsHeld_4 (i := 2) rfl rfl ?_
  refine a_iconst C dX11_slotsHeld_5 (v := 3) rfl ?_
  refine a_ic_ge C dX11_slotsHeld_6 (tgt := 27) rfl (fun h => absurd h (by decide)) (fun _ => ?_)
  refine a_aload_n C dX11_slotsHeld_9 (i := 0) rfl rfl ?_
  refine a_get C fl_RX11_65 (i := 0) kd_0 (hid 0 (by decide)) (v := .ref (ad 26)) rfl dX11_slotsHeld_10 ?_
  refine a_iload_n C dX11_slotsHeld_13 (i := 2) rfl rfl ?_
  refine a_zald C (i := 26) 2 kd_26 (hid 26 (by decide)) (by decide) rfl (by rw [al_26]; decide) dX11_slotsHeld_14 (v := 0) h_26_2 ?_
  refine a_if_eq C dX11_slotsHeld_15 (tgt := 21) rfl (fun _ => ?_) (fun h => absurd h (by decide))
  refine a_iinc C dX11_slotsHeld_21 rfl (v := 3) rfl (by decide) rfl (vs1 := [some (.ref (ad 0)), some (.int 0), some (.int 3)]) rfl ?_
  refine a_goto C dX11_slotsHeld_24 (tgt := 4) rfl ?_
  refine a_iload_n C dX11_slotsHeld_4 (i := 2) rfl rfl ?_
  refine a_iconst C dX11_slotsHeld_5 (v := 3) rfl ?_
  refine a_ic_ge C dX11_slotsHeld_6 (tgt := 27) rfl (fun _ => ?_) (fun h => absurd h (by decide))
  refine a_iload_n C dX11_slotsHeld_27 (i := 1) rfl rfl ?_
  exact a_iret Rt dX11_slotsHeld_28 rfl (⟨rfl, rfl⟩)
theorem dX11_weightsOf_0 : decode cX11_weightsOf 0 = .ok (.iconst 0, 1) := by decide +kernel
theorem dX11_weightsOf_1 : decode cX11_weightsOf 1 = .ok (.istore_n 2, 1) := by decide +kernel
theorem dX11_weightsOf_2 : decode cX11_weightsOf 2 = .ok (.iconst 0, 1) := by decide +kernel
theorem dX11_weightsOf_3 : decode cX11_weightsOf 3 = .ok (.istore_n 3, 1) := by decide +kernel
theorem dX11_weightsOf_4 : decode cX11_weightsOf 4 = .ok (.iload_n 3, 1) := by decide +kernel
theorem dX11_weightsOf_5 : decode cX11_weightsOf 5 = .ok (.aload_n 0, 1) := by decide +kernel
theorem dX11_weightsOf_6 : decode cX11_weightsOf 6 = .ok (.getfield 82, 3) := by decide +kernel
theorem dX11_weightsOf_9 : decode cX11_weightsOf 9 = .ok (.getfield 168, 3) := by decide +kernel
theorem dX11_weightsOf_12 : decode cX11_weightsOf 12 = .ok (.if_icmp .ge 30, 3) := by decide +kernel
theorem dX11_weightsOf_42 : decode cX11_weightsOf 42 = .ok (.iload_n 2, 1) := by decide +kernel
theorem dX11_weightsOf_43 : decode cX11_weightsOf 43 = .ok (.ireturn, 1) := by decide +kernel
set_option maxHeartbeats 4000000 in
set_option maxRecDepth 100000 in
theorem k_weightsOf {l : Launch} {D : va_G} {ids : List Nat} {ad : Nat → Nat} {ca : Nat → ClassId} {σ : HS} {p0 : Int32} (hid : ∀ i, i < 277 → i ∈ ids) (htx0 : σ.2.2 0 = 30) (h_30_0 : σ.1 30 0 = 0) : Ki l D ids ad ca yX11_weightsOf cX11_weightsOf 4 .int 0 0 [.ref (ad 0), .int p0] σ (fun r σ1 => r = 0 ∧ σ1 = σ) := by
  refine Ki.of (by decide) (Nat.le_of_ble_eq_true rfl) 2 (fun Γ C Rt => ?_)
  show AW ids ad ca Γ 0 [some (.ref (ad 0)), some (.int p0), none, none] [] σ
  refine a_iconst C dX11_weightsOf_0 (v := 0) rfl ?_
  refine a_istore_n C dX11_weightsOf_1 (i := 2) rfl (by decide) rfl (vs1 := [some (.ref (ad 0)), some (.int p0), some (.int 0), none]) rfl ?_
  refine a_iconst C dX11_weightsOf_2 (v := 0) rfl ?_
  refine a_istore_n C dX11_weightsOf_3 (i := 3) rfl (by decide) rfl (vs1 := [some (.ref (ad 0)), some (.int p0), some (.int 0), some (.int 0)]) rfl ?_
  refine a_iload_n C dX11_weightsOf_4 (i := 3) rfl rfl ?_
  refine a_aload_n C dX11_weightsOf_5 (i := 0) rfl rfl ?_
  refine a_get C fl_RX11_82 (i := 0) kd_0 (hid 0 (by decide)) (v := .ref (ad 30)) (congrArg (fun z => some (Value.ref (ad z))) htx0) dX11_weightsOf_6 ?_
  refine a_get C fl_RX11_168 (i := 30) kd_30 (hid 30 (by decide)) (v := .int 0) (congrArg (fun z => some (Value.int z)) h_30_0) dX11_weightsOf_9 ?_
  refine a_ic_ge C dX11_weightsOf_12 (tgt := 42) rfl (fun _ => ?_) (fun h => absurd h (by decide))
  refine a_iload_n C dX11_weightsOf_42 (i := 2) rfl rfl ?_
  exact a_iret Rt dX11_weightsOf_43 rfl (⟨rfl, rfl⟩)
theorem dX11_count_0 : decode cX11_count 0 = .ok (.iload_n 1, 1) := by decide +kernel
theorem dX11_count_1 : decode cX11_count 1 = .ok (.tableswitch 264 0 17 #[87, 95, 103, 111, 119, 128, 137, 145, 153, 161, 185, 197, 208, 216, 224, 229, 242, 255], 87) := by decide +kernel
theorem dX11_count_88 : decode cX11_count 88 = .ok (.aload_n 0, 1) := by decide +kernel
theorem dX11_count_89 : decode cX11_count 89 = .ok (.getfield 82, 3) := by decide +kernel
theorem dX11_count_92 : decode cX11_count 92 = .ok (.getfield 168, 3) := by decide +kernel
theorem dX11_count_95 : decode cX11_count 95 = .ok (.ireturn, 1) := by decide +kernel
set_option maxHeartbeats 4000000 in
set_option maxRecDepth 100000 in
theorem p_count_0 {l : Launch} {D : va_G} {ids : List Nat} {ad : Nat → Nat} {ca : Nat → ClassId} {σ : HS} (hid : ∀ i, i < 277 → i ∈ ids) (htx0 : σ.2.2 0 = 30) (h_30_0 : σ.1 30 0 = 0) : Ki l D ids ad ca yX11_count cX11_count 2 .int 0 0 [.ref (ad 0), .int 0] σ (fun r σ1 => r = 0 ∧ keepM σ σ1) := by
  refine Ki.of (by decide) (Nat.le_of_ble_eq_true rfl) 0 (fun Γ C Rt => ?_)
  show AW ids ad ca Γ 0 [some (.ref (ad 0)), some (.int 0)] [] σ
  refine a_iload_n C dX11_count_0 (i := 1) rfl rfl ?_
  refine a_tableIn C dX11_count_1 (by decide) (by decide) rfl (tgt := 88) rfl ?_
  refine a_aload_n C dX11_count_88 (i := 0) rfl rfl ?_
  refine a_get C fl_RX11_82 (i := 0) kd_0 (hid 0 (by decide)) (v := .ref (ad 30)) (congrArg (fun z => some (Value.ref (ad z))) htx0) dX11_count_89 ?_
  refine a_get C fl_RX11_168 (i := 30) kd_30 (hid 30 (by decide)) (v := .int 0) (congrArg (fun z => some (Value.int z)) h_30_0) dX11_count_92 ?_
  exact a_iret Rt dX11_count_95 rfl (⟨rfl, keepM.rf⟩)
theorem dX11_count_96 : decode cX11_count 96 = .ok (.aload_n 0, 1) := by decide +kernel
theorem dX11_count_97 : decode cX11_count 97 = .ok (.getfield 82, 3) := by decide +kernel
theorem dX11_count_100 : decode cX11_count 100 = .ok (.getfield 171, 3) := by decide +kernel
theorem dX11_count_103 : decode cX11_count 103 = .ok (.ireturn, 1) := by decide +kernel
set_option maxHeartbeats 4000000 in
set_option maxRecDepth 100000 in
theorem p_count_1 {l : Launch} {D : va_G} {ids : List Nat} {ad : Nat → Nat} {ca : Nat → ClassId} {σ : HS} (hid : ∀ i, i < 277 → i ∈ ids) (htx0 : σ.2.2 0 = 30) (h_30_4 : σ.1 30 4 = 0) : Ki l D ids ad ca yX11_count cX11_count 2 .int 0 0 [.ref (ad 0), .int 1] σ (fun r σ1 => r = 0 ∧ keepM σ σ1) := by
  refine Ki.of (by decide) (Nat.le_of_ble_eq_true rfl) 0 (fun Γ C Rt => ?_)
  show AW ids ad ca Γ 0 [some (.ref (ad 0)), some (.int 1)] [] σ
  refine a_iload_n C dX11_count_0 (i := 1) rfl rfl ?_
  refine a_tableIn C dX11_count_1 (by decide) (by decide) rfl (tgt := 96) rfl ?_
  refine a_aload_n C dX11_count_96 (i := 0) rfl rfl ?_
  refine a_get C fl_RX11_82 (i := 0) kd_0 (hid 0 (by decide)) (v := .ref (ad 30)) (congrArg (fun z => some (Value.ref (ad z))) htx0) dX11_count_97 ?_
  refine a_get C fl_RX11_171 (i := 30) kd_30 (hid 30 (by decide)) (v := .int 0) (congrArg (fun z => some (Value.int z)) h_30_4) dX11_count_100 ?_
  exact a_iret Rt dX11_count_103 rfl (⟨rfl, keepM.rf⟩)
theorem dX11_count_104 : decode cX11_count 104 = .ok (.aload_n 0, 1) := by decide +kernel
theorem dX11_count_105 : decode cX11_count 105 = .ok (.getfield 54, 3) := by decide +kernel
theorem dX11_count_108 : decode cX11_count 108 = .ok (.getfield 174, 3) := by decide +kernel
theorem dX11_count_111 : decode cX11_count 111 = .ok (.ireturn, 1) := by decide +kernel
set_option maxHeartbeats 4000000 in
set_option maxRecDepth 100000 in
theorem p_count_2 {l : Launch} {D : va_G} {ids : List Nat} {ad : Nat → Nat} {ca : Nat → ClassId} {σ : HS} (hid : ∀ i, i < 277 → i ∈ ids) (h_56_4 : σ.1 56 4 = 0) : Ki l D ids ad ca yX11_count cX11_count 2 .int 0 0 [.ref (ad 0), .int 2] σ (fun r σ1 => r = 0 ∧ keepM σ σ1) := by
  refine Ki.of (by decide) (Nat.le_of_ble_eq_true rfl) 0 (fun Γ C Rt => ?_)
  show AW ids ad ca Γ 0 [some (.ref (ad 0)), some (.int 2)] [] σ
  refine a_iload_n C dX11_count_0 (i := 1) rfl rfl ?_
  refine a_tableIn C dX11_count_1 (by decide) (by decide) rfl (tgt := 104) rfl ?_
  refine a_aload_n C dX11_count_104 (i := 0) rfl rfl ?_
  refine a_get C fl_RX11_54 (i := 0) kd_0 (hid 0 (by decide)) (v := .ref (ad 56)) rfl dX11_count_105 ?_
  refine a_get C fl_RX11_174 (i := 56) kd_56 (hid 56 (by decide)) (v := .int 0) (congrArg (fun z => some (Value.int z)) h_56_4) dX11_count_108 ?_
  exact a_iret Rt dX11_count_111 rfl (⟨rfl, keepM.rf⟩)
theorem dX11_count_112 : decode cX11_count 112 = .ok (.aload_n 0, 1) := by decide +kernel
theorem dX11_count_113 : decode cX11_count 113 = .ok (.getfield 54, 3) := by decide +kernel
theorem dX11_count_116 : decode cX11_count 116 = .ok (.getfield 177, 3) := by decide +kernel
theorem dX11_count_119 : decode cX11_count 119 = .ok (.ireturn, 1) := by decide +kernel
set_option maxHeartbeats 4000000 in
set_option maxRecDepth 100000 in
theorem p_count_3 {l : Launch} {D : va_G} {ids : List Nat} {ad : Nat → Nat} {ca : Nat → ClassId} {σ : HS} (hid : ∀ i, i < 277 → i ∈ ids) (h_56_5 : σ.1 56 5 = 0) : Ki l D ids ad ca yX11_count cX11_count 2 .int 0 0 [.ref (ad 0), .int 3] σ (fun r σ1 => r = 0 ∧ keepM σ σ1) := by
  refine Ki.of (by decide) (Nat.le_of_ble_eq_true rfl) 0 (fun Γ C Rt => ?_)
  show AW ids ad ca Γ 0 [some (.ref (ad 0)), some (.int 3)] [] σ
  refine a_iload_n C dX11_count_0 (i := 1) rfl rfl ?_
  refine a_tableIn C dX11_count_1 (by decide) (by decide) rfl (tgt := 112) rfl ?_
  refine a_aload_n C dX11_count_112 (i := 0) rfl rfl ?_
  refine a_get C fl_RX11_54 (i := 0) kd_0 (hid 0 (by decide)) (v := .ref (ad 56)) rfl dX11_count_113 ?_
  refine a_get C fl_RX11_177 (i := 56) kd_56 (hid 56 (by decide)) (v := .int 0) (congrArg (fun z => some (Value.int z)) h_56_5) dX11_count_116 ?_
  exact a_iret Rt dX11_count_119 rfl (⟨rfl, keepM.rf⟩)
theorem dX11_count_120 : decode cX11_count 120 = .ok (.aload_n 0, 1) := by decide +kernel
theorem dX11_count_121 : decode cX11_count 121 = .ok (.getfield 54, 3) := by decide +kernel
theorem dX11_count_124 : decode cX11_count 124 = .ok (.iconst 0, 1) := by decide +kernel
theorem dX11_count_125 : decode cX11_count 125 = .ok (.invokevirtual 180, 3) := by decide +kernel
theorem dX11_count_128 : decode cX11_count 128 = .ok (.ireturn, 1) := by decide +kernel
set_option maxHeartbeats 4000000 in
set_option maxRecDepth 100000 in
theorem p_count_4 {l : Launch} {D : va_G} {ids : List Nat} {ad : Nat → Nat} {ca : Nat → ClassId} {σ : HS} (hid : ∀ i, i < 277 → i ∈ ids) (h_56_0 : σ.1 56 0 = 0) : Ki l D ids ad ca yX11_count cX11_count 2 .int 1 23 [.ref (ad 0), .int 4] σ (fun r σ1 => r = 0 ∧ keepM σ σ1) := by
  refine Ki.of (by decide) (Nat.le_of_ble_eq_true rfl) 0 (fun Γ C Rt => ?_)
  show AW ids ad ca Γ 0 [some (.ref (ad 0)), some (.int 4)] [] σ
  refine a_iload_n C dX11_count_0 (i := 1) rfl rfl ?_
  refine a_tableIn C dX11_count_1 (by decide) (by decide) rfl (tgt := 120) rfl ?_
  refine a_aload_n C dX11_count_120 (i := 0) rfl rfl ?_
  refine a_get C fl_RX11_54 (i := 0) kd_0 (hid 0 (by decide)) (v := .ref (ad 56)) rfl dX11_count_121 ?_
  refine a_iconst C dX11_count_124 (v := 0) rfl ?_
  refine a_callVi C (i := 56) kd_56 (hid 56 (by decide)) ⟨_, _, rfl⟩ (by decide) (k_bitsOf_56 hid h_56_0) mi_X0_bitsOf ml_RX11_180 rfl rfl (Nat.le_of_ble_eq_true rfl) (Nat.le_of_ble_eq_true rfl) (Nat.le_of_ble_eq_true rfl) dX11_count_125 (fun r1 σ2 q3 => ?_)
  obtain ⟨rfl, q3⟩ := q3
  rw [q3]
  exact a_iret Rt dX11_count_128 rfl (⟨rfl, keepM.rf⟩)
theorem dX11_count_129 : decode cX11_count 129 = .ok (.aload_n 0, 1) := by decide +kernel
theorem dX11_count_130 : decode cX11_count 130 = .ok (.getfield 54, 3) := by decide +kernel
theorem dX11_count_133 : decode cX11_count 133 = .ok (.iconst 2, 1) := by decide +kernel
theorem dX11_count_134 : decode cX11_count 134 = .ok (.invokevirtual 180, 3) := by decide +kernel
theorem dX11_count_137 : decode cX11_count 137 = .ok (.ireturn, 1) := by decide +kernel
set_option maxHeartbeats 4000000 in
set_option maxRecDepth 100000 in
theorem p_count_5 {l : Launch} {D : va_G} {ids : List Nat} {ad : Nat → Nat} {ca : Nat → ClassId} {σ : HS} (hid : ∀ i, i < 277 → i ∈ ids) (h_56_0 : σ.1 56 0 = 0) : Ki l D ids ad ca yX11_count cX11_count 2 .int 1 23 [.ref (ad 0), .int 5] σ (fun r σ1 => r = 0 ∧ keepM σ σ1) := by
  refine Ki.of (by decide) (Nat.le_of_ble_eq_true rfl) 0 (fun Γ C Rt => ?_)
  show AW ids ad ca Γ 0 [some (.ref (ad 0)), some (.int 5)] [] σ
  refine a_iload_n C dX11_count_0 (i := 1) rfl rfl ?_
  refine a_tableIn C dX11_count_1 (by decide) (by decide) rfl (tgt := 129) rfl ?_
  refine a_aload_n C dX11_count_129 (i := 0) rfl rfl ?_
  refine a_get C fl_RX11_54 (i := 0) kd_0 (hid 0 (by decide)) (v := .ref (ad 56)) rfl dX11_count_130 ?_
  refine a_iconst C dX11_count_133 (v := 2) rfl ?_
  refine a_callVi C (i := 56) kd_56 (hid 56 (by decide)) ⟨_, _, rfl⟩ (by decide) (k_bitsOf_56 hid h_56_0) mi_X0_bitsOf ml_RX11_180 rfl rfl (Nat.le_of_ble_eq_true rfl) (Nat.le_of_ble_eq_true rfl) (Nat.le_of_ble_eq_true rfl) dX11_count_134 (fun r1 σ2 q3 => ?_)
  obtain ⟨rfl, q3⟩ := q3
  rw [q3]
  exact a_iret Rt dX11_count_137 rfl (⟨rfl, keepM.rf⟩)
theorem dX11_count_138 : decode cX11_count 138 = .ok (.aload_n 0, 1) := by decide +kernel
theorem dX11_count_139 : decode cX11_count 139 = .ok (.getfield 54, 3) := by decide +kernel
theorem dX11_count_142 : decode cX11_count 142 = .ok (.getfield 184, 3) := by decide +kernel
theorem dX11_count_145 : decode cX11_count 145 = .ok (.ireturn, 1) := by decide +kernel
set_option maxHeartbeats 4000000 in
set_option maxRecDepth 100000 in
theorem p_count_6 {l : Launch} {D : va_G} {ids : List Nat} {ad : Nat → Nat} {ca : Nat → ClassId} {σ : HS} (hid : ∀ i, i < 277 → i ∈ ids) (h_56_6 : σ.1 56 6 = 0) : Ki l D ids ad ca yX11_count cX11_count 2 .int 0 0 [.ref (ad 0), .int 6] σ (fun r σ1 => r = 0 ∧ keepM σ σ1) := by
  refine Ki.of (by decide) (Nat.le_of_ble_eq_true rfl) 0 (fun Γ C Rt => ?_)
  show AW ids ad ca Γ 0 [some (.ref (ad 0)), some (.int 6)] [] σ
  refine a_iload_n C dX11_count_0 (i := 1) rfl rfl ?_
  refine a_tableIn C dX11_count_1 (by decide) (by decide) rfl (tgt := 138) rfl ?_
  refine a_aload_n C dX11_count_138 (i := 0) rfl rfl ?_
  refine a_get C fl_RX11_54 (i := 0) kd_0 (hid 0 (by decide)) (v := .ref (ad 56)) rfl dX11_count_139 ?_
  refine a_get C fl_RX11_184 (i := 56) kd_56 (hid 56 (by decide)) (v := .int 0) (congrArg (fun z => some (Value.int z)) h_56_6) dX11_count_142 ?_
  exact a_iret Rt dX11_count_145 rfl (⟨rfl, keepM.rf⟩)
theorem dX11_count_146 : decode cX11_count 146 = .ok (.aload_n 0, 1) := by decide +kernel
theorem dX11_count_147 : decode cX11_count 147 = .ok (.getfield 54, 3) := by decide +kernel
theorem dX11_count_150 : decode cX11_count 150 = .ok (.getfield 187, 3) := by decide +kernel
theorem dX11_count_153 : decode cX11_count 153 = .ok (.ireturn, 1) := by decide +kernel
set_option maxHeartbeats 4000000 in
set_option maxRecDepth 100000 in
theorem p_count_7 {l : Launch} {D : va_G} {ids : List Nat} {ad : Nat → Nat} {ca : Nat → ClassId} {σ : HS} (hid : ∀ i, i < 277 → i ∈ ids) (h_56_7 : σ.1 56 7 = 0) : Ki l D ids ad ca yX11_count cX11_count 2 .int 0 0 [.ref (ad 0), .int 7] σ (fun r σ1 => r = 0 ∧ keepM σ σ1) := by
  refine Ki.of (by decide) (Nat.le_of_ble_eq_true rfl) 0 (fun Γ C Rt => ?_)
  show AW ids ad ca Γ 0 [some (.ref (ad 0)), some (.int 7)] [] σ
  refine a_iload_n C dX11_count_0 (i := 1) rfl rfl ?_
  refine a_tableIn C dX11_count_1 (by decide) (by decide) rfl (tgt := 146) rfl ?_
  refine a_aload_n C dX11_count_146 (i := 0) rfl rfl ?_
  refine a_get C fl_RX11_54 (i := 0) kd_0 (hid 0 (by decide)) (v := .ref (ad 56)) rfl dX11_count_147 ?_
  refine a_get C fl_RX11_187 (i := 56) kd_56 (hid 56 (by decide)) (v := .int 0) (congrArg (fun z => some (Value.int z)) h_56_7) dX11_count_150 ?_
  exact a_iret Rt dX11_count_153 rfl (⟨rfl, keepM.rf⟩)
theorem dX11_count_154 : decode cX11_count 154 = .ok (.aload_n 0, 1) := by decide +kernel
theorem dX11_count_155 : decode cX11_count 155 = .ok (.getfield 54, 3) := by decide +kernel
theorem dX11_count_158 : decode cX11_count 158 = .ok (.getfield 190, 3) := by decide +kernel
theorem dX11_count_161 : decode cX11_count 161 = .ok (.ireturn, 1) := by decide +kernel
set_option maxHeartbeats 4000000 in
set_option maxRecDepth 100000 in
theorem p_count_8 {l : Launch} {D : va_G} {ids : List Nat} {ad : Nat → Nat} {ca : Nat → ClassId} {σ : HS} (hid : ∀ i, i < 277 → i ∈ ids) (h_56_8 : σ.1 56 8 = 0) : Ki l D ids ad ca yX11_count cX11_count 2 .int 0 0 [.ref (ad 0), .int 8] σ (fun r σ1 => r = 0 ∧ keepM σ σ1) := by
  refine Ki.of (by decide) (Nat.le_of_ble_eq_true rfl) 0 (fun Γ C Rt => ?_)
  show AW ids ad ca Γ 0 [some (.ref (ad 0)), some (.int 8)] [] σ
  refine a_iload_n C dX11_count_0 (i := 1) rfl rfl ?_
  refine a_tableIn C dX11_count_1 (by decide) (by decide) rfl (tgt := 154) rfl ?_
  refine a_aload_n C dX11_count_154 (i := 0) rfl rfl ?_
  refine a_get C fl_RX11_54 (i := 0) kd_0 (hid 0 (by decide)) (v := .ref (ad 56)) rfl dX11_count_155 ?_
  refine a_get C fl_RX11_190 (i := 56) kd_56 (hid 56 (by decide)) (v := .int 0) (congrArg (fun z => some (Value.int z)) h_56_8) dX11_count_158 ?_
  exact a_iret Rt dX11_count_161 rfl (⟨rfl, keepM.rf⟩)
theorem dX11_count_162 : decode cX11_count 162 = .ok (.aload_n 0, 1) := by decide +kernel
theorem dX11_count_163 : decode cX11_count 163 = .ok (.getfield 54, 3) := by decide +kernel
theorem dX11_count_166 : decode cX11_count 166 = .ok (.getfield 193, 3) := by decide +kernel
theorem dX11_count_169 : decode cX11_count 169 = .ok (.iconst (-1), 1) := by decide +kernel
theorem dX11_count_170 : decode cX11_count 170 = .ok (.if_icmp .ne 8, 3) := by decide +kernel
theorem dX11_count_173 : decode cX11_count 173 = .ok (.bipush (-2), 2) := by decide +kernel
theorem dX11_count_175 : decode cX11_count 175 = .ok (.goto 10, 3) := by decide +kernel
theorem dX11_count_185 : decode cX11_count 185 = .ok (.ireturn, 1) := by decide +kernel
set_option maxHeartbeats 4000000 in
set_option maxRecDepth 100000 in
theorem p_count_9 {l : Launch} {D : va_G} {ids : List Nat} {ad : Nat → Nat} {ca : Nat → ClassId} {σ : HS} (hid : ∀ i, i < 277 → i ∈ ids) (h_56_9 : σ.1 56 9 = (-1)) : Ki l D ids ad ca yX11_count cX11_count 2 .int 0 0 [.ref (ad 0), .int 9] σ (fun r σ1 => r = (-2) ∧ keepM σ σ1) := by
  refine Ki.of (by decide) (Nat.le_of_ble_eq_true rfl) 0 (fun Γ C Rt => ?_)
  show AW ids ad ca Γ 0 [some (.ref (ad 0)), some (.int 9)] [] σ
  refine a_iload_n C dX11_count_0 (i := 1) rfl rfl ?_
  refine a_tableIn C dX11_count_1 (by decide) (by decide) rfl (tgt := 162) rfl ?_
  refine a_aload_n C dX11_count_162 (i := 0) rfl rfl ?_
  refine a_get C fl_RX11_54 (i := 0) kd_0 (hid 0 (by decide)) (v := .ref (ad 56)) rfl dX11_count_163 ?_
  refine a_get C fl_RX11_193 (i := 56) kd_56 (hid 56 (by decide)) (v := .int (-1)) (congrArg (fun z => some (Value.int z)) h_56_9) dX11_count_166 ?_
  refine a_iconst C dX11_count_169 (v := (-1)) rfl ?_
  refine a_ic_ne C dX11_count_170 (tgt := 178) rfl (fun h => absurd h (by decide)) (fun _ => ?_)
  refine a_bipush C dX11_count_173 (v := (-2)) rfl ?_
  refine a_goto C dX11_count_175 (tgt := 185) rfl ?_
  exact a_iret Rt dX11_count_185 rfl (⟨rfl, keepM.rf⟩)
theorem dX11_count_186 : decode cX11_count 186 = .ok (.aload_n 0, 1) := by decide +kernel
theorem dX11_count_187 : decode cX11_count 187 = .ok (.getfield 54, 3) := by decide +kernel
theorem dX11_count_190 : decode cX11_count 190 = .ok (.aload_n 0, 1) := by decide +kernel
theorem dX11_count_191 : decode cX11_count 191 = .ok (.getfield 82, 3) := by decide +kernel
theorem dX11_count_194 : decode cX11_count 194 = .ok (.invokevirtual 196, 3) := by decide +kernel
theorem dX11_count_197 : decode cX11_count 197 = .ok (.ireturn, 1) := by decide +kernel
set_option maxHeartbeats 4000000 in
set_option maxRecDepth 100000 in
theorem p_count_10 {l : Launch} {D : va_G} {ids : List Nat} {ad : Nat → Nat} {ca : Nat → ClassId} {σ : HS} (hid : ∀ i, i < 277 → i ∈ ids) (htx0 : σ.2.2 0 = 30) (h_30_4 : σ.1 30 4 = 0) (h_56_9 : σ.1 56 9 = (-1)) (h_56_11 : σ.1 56 11 = (-1)) : Ki l D ids ad ca yX11_count cX11_count 2 .int 2 42 [.ref (ad 0), .int 10] σ (fun r σ1 => r = 3 ∧ keepM σ σ1) := by
  refine Ki.of (by decide) (Nat.le_of_ble_eq_true rfl) 0 (fun Γ C Rt => ?_)
  show AW ids ad ca Γ 0 [some (.ref (ad 0)), some (.int 10)] [] σ
  refine a_iload_n C dX11_count_0 (i := 1) rfl rfl ?_
  refine a_tableIn C dX11_count_1 (by decide) (by decide) rfl (tgt := 186) rfl ?_
  refine a_aload_n C dX11_count_186 (i := 0) rfl rfl ?_
  refine a_get C fl_RX11_54 (i := 0) kd_0 (hid 0 (by decide)) (v := .ref (ad 56)) rfl dX11_count_187 ?_
  refine a_aload_n C dX11_count_190 (i := 0) rfl rfl ?_
  refine a_get C fl_RX11_82 (i := 0) kd_0 (hid 0 (by decide)) (v := .ref (ad 30)) (congrArg (fun z => some (Value.ref (ad z))) htx0) dX11_count_191 ?_
  refine a_callVi C (i := 56) kd_56 (hid 56 (by decide)) ⟨_, _, rfl⟩ (by decide) (k_heightBy hid h_30_4 h_56_9 h_56_11) mi_X0_heightBy ml_RX11_196 rfl rfl (Nat.le_of_ble_eq_true rfl) (Nat.le_of_ble_eq_true rfl) (Nat.le_of_ble_eq_true rfl) dX11_count_194 (fun r1 σ2 q3 => ?_)
  obtain ⟨rfl, q3⟩ := q3
  rw [q3]
  exact a_iret Rt dX11_count_197 rfl (⟨rfl, keepM.rf⟩)
theorem dX11_count_198 : decode cX11_count 198 = .ok (.aload_n 0, 1) := by decide +kernel
theorem dX11_count_199 : decode cX11_count 199 = .ok (.getfield 10, 3) := by decide +kernel
theorem dX11_count_202 : decode cX11_count 202 = .ok (.getfield 89, 3) := by decide +kernel
theorem dX11_count_205 : decode cX11_count 205 = .ok (.getfield 93, 3) := by decide +kernel
theorem dX11_count_208 : decode cX11_count 208 = .ok (.ireturn, 1) := by decide +kernel
set_option maxHeartbeats 4000000 in
set_option maxRecDepth 100000 in
theorem p_count_11 {l : Launch} {D : va_G} {ids : List Nat} {ad : Nat → Nat} {ca : Nat → ClassId} {σ : HS} (hid : ∀ i, i < 277 → i ∈ ids) (h_2_1 : σ.1 2 1 = 0) : Ki l D ids ad ca yX11_count cX11_count 2 .int 0 0 [.ref (ad 0), .int 11] σ (fun r σ1 => r = 0 ∧ keepM σ σ1) := by
  refine Ki.of (by decide) (Nat.le_of_ble_eq_true rfl) 0 (fun Γ C Rt => ?_)
  show AW ids ad ca Γ 0 [some (.ref (ad 0)), some (.int 11)] [] σ
  refine a_iload_n C dX11_count_0 (i := 1) rfl rfl ?_
  refine a_tableIn C dX11_count_1 (by decide) (by decide) rfl (tgt := 198) rfl ?_
  refine a_aload_n C dX11_count_198 (i := 0) rfl rfl ?_
  refine a_get C fl_RX11_10 (i := 0) kd_0 (hid 0 (by decide)) (v := .ref (ad 1)) rfl dX11_count_199 ?_
  refine a_get C fl_RX11_89 (i := 1) kd_1 (hid 1 (by decide)) (v := .ref (ad 2)) rfl dX11_count_202 ?_
  refine a_get C fl_RX11_93 (i := 2) kd_2 (hid 2 (by decide)) (v := .int 0) (congrArg (fun z => some (Value.int z)) h_2_1) dX11_count_205 ?_
  exact a_iret Rt dX11_count_208 rfl (⟨rfl, keepM.rf⟩)
theorem dX11_count_209 : decode cX11_count 209 = .ok (.aload_n 0, 1) := by decide +kernel
theorem dX11_count_210 : decode cX11_count 210 = .ok (.getfield 26, 3) := by decide +kernel
theorem dX11_count_213 : decode cX11_count 213 = .ok (.getfield 199, 3) := by decide +kernel
theorem dX11_count_216 : decode cX11_count 216 = .ok (.ireturn, 1) := by decide +kernel
set_option maxHeartbeats 4000000 in
set_option maxRecDepth 100000 in
theorem p_count_12 {l : Launch} {D : va_G} {ids : List Nat} {ad : Nat → Nat} {ca : Nat → ClassId} {σ : HS} (hid : ∀ i, i < 277 → i ∈ ids) (h_12_2 : σ.1 12 2 = 0) : Ki l D ids ad ca yX11_count cX11_count 2 .int 0 0 [.ref (ad 0), .int 12] σ (fun r σ1 => r = 0 ∧ keepM σ σ1) := by
  refine Ki.of (by decide) (Nat.le_of_ble_eq_true rfl) 0 (fun Γ C Rt => ?_)
  show AW ids ad ca Γ 0 [some (.ref (ad 0)), some (.int 12)] [] σ
  refine a_iload_n C dX11_count_0 (i := 1) rfl rfl ?_
  refine a_tableIn C dX11_count_1 (by decide) (by decide) rfl (tgt := 209) rfl ?_
  refine a_aload_n C dX11_count_209 (i := 0) rfl rfl ?_
  refine a_get C fl_RX11_26 (i := 0) kd_0 (hid 0 (by decide)) (v := .ref (ad 12)) rfl dX11_count_210 ?_
  refine a_get C fl_RX11_199 (i := 12) kd_12 (hid 12 (by decide)) (v := .int 0) (congrArg (fun z => some (Value.int z)) h_12_2) dX11_count_213 ?_
  exact a_iret Rt dX11_count_216 rfl (⟨rfl, keepM.rf⟩)
theorem dX11_count_217 : decode cX11_count 217 = .ok (.aload_n 0, 1) := by decide +kernel
theorem dX11_count_218 : decode cX11_count 218 = .ok (.getfield 33, 3) := by decide +kernel
theorem dX11_count_221 : decode cX11_count 221 = .ok (.getfield 117, 3) := by decide +kernel
theorem dX11_count_224 : decode cX11_count 224 = .ok (.ireturn, 1) := by decide +kernel
set_option maxHeartbeats 4000000 in
set_option maxRecDepth 100000 in
theorem p_count_13 {l : Launch} {D : va_G} {ids : List Nat} {ad : Nat → Nat} {ca : Nat → ClassId} {σ : HS} (hid : ∀ i, i < 277 → i ∈ ids) (h_14_2 : σ.1 14 2 = 0) : Ki l D ids ad ca yX11_count cX11_count 2 .int 0 0 [.ref (ad 0), .int 13] σ (fun r σ1 => r = 0 ∧ keepM σ σ1) := by
  refine Ki.of (by decide) (Nat.le_of_ble_eq_true rfl) 0 (fun Γ C Rt => ?_)
  show AW ids ad ca Γ 0 [some (.ref (ad 0)), some (.int 13)] [] σ
  refine a_iload_n C dX11_count_0 (i := 1) rfl rfl ?_
  refine a_tableIn C dX11_count_1 (by decide) (by decide) rfl (tgt := 217) rfl ?_
  refine a_aload_n C dX11_count_217 (i := 0) rfl rfl ?_
  refine a_get C fl_RX11_33 (i := 0) kd_0 (hid 0 (by decide)) (v := .ref (ad 14)) rfl dX11_count_218 ?_
  refine a_get C fl_RX11_117 (i := 14) kd_14 (hid 14 (by decide)) (v := .int 0) (congrArg (fun z => some (Value.int z)) h_14_2) dX11_count_221 ?_
  exact a_iret Rt dX11_count_224 rfl (⟨rfl, keepM.rf⟩)
theorem dX11_count_225 : decode cX11_count 225 = .ok (.aload_n 0, 1) := by decide +kernel
theorem dX11_count_226 : decode cX11_count 226 = .ok (.invokevirtual 200, 3) := by decide +kernel
theorem dX11_count_229 : decode cX11_count 229 = .ok (.ireturn, 1) := by decide +kernel
set_option maxHeartbeats 4000000 in
set_option maxRecDepth 100000 in
theorem p_count_14 {l : Launch} {D : va_G} {ids : List Nat} {ad : Nat → Nat} {ca : Nat → ClassId} {σ : HS} (hid : ∀ i, i < 277 → i ∈ ids) (h_26_0 : σ.1 26 0 = 0) (h_26_1 : σ.1 26 1 = 0) (h_26_2 : σ.1 26 2 = 0) : Ki l D ids ad ca yX11_count cX11_count 2 .int 1 22 [.ref (ad 0), .int 14] σ (fun r σ1 => r = 0 ∧ keepM σ σ1) := by
  refine Ki.of (by decide) (Nat.le_of_ble_eq_true rfl) 0 (fun Γ C Rt => ?_)
  show AW ids ad ca Γ 0 [some (.ref (ad 0)), some (.int 14)] [] σ
  refine a_iload_n C dX11_count_0 (i := 1) rfl rfl ?_
  refine a_tableIn C dX11_count_1 (by decide) (by decide) rfl (tgt := 225) rfl ?_
  refine a_aload_n C dX11_count_225 (i := 0) rfl rfl ?_
  refine a_callVi C (i := 0) kd_0 (hid 0 (by decide)) ⟨_, _, rfl⟩ (by decide) (k_slotsHeld hid h_26_0 h_26_1 h_26_2) mi_X11_slotsHeld ml_RX11_200 rfl rfl (Nat.le_of_ble_eq_true rfl) (Nat.le_of_ble_eq_true rfl) (Nat.le_of_ble_eq_true rfl) dX11_count_226 (fun r1 σ2 q3 => ?_)
  obtain ⟨rfl, q3⟩ := q3
  rw [q3]
  exact a_iret Rt dX11_count_229 rfl (⟨rfl, keepM.rf⟩)
theorem dX11_count_230 : decode cX11_count 230 = .ok (.aload_n 0, 1) := by decide +kernel
theorem dX11_count_231 : decode cX11_count 231 = .ok (.aload_n 0, 1) := by decide +kernel
theorem dX11_count_232 : decode cX11_count 232 = .ok (.getfield 54, 3) := by decide +kernel
theorem dX11_count_235 : decode cX11_count 235 = .ok (.iconst 0, 1) := by decide +kernel
theorem dX11_count_236 : decode cX11_count 236 = .ok (.invokevirtual 180, 3) := by decide +kernel
theorem dX11_count_239 : decode cX11_count 239 = .ok (.invokevirtual 203, 3) := by decide +kernel
theorem dX11_count_242 : decode cX11_count 242 = .ok (.ireturn, 1) := by decide +kernel
set_option maxHeartbeats 4000000 in
set_option maxRecDepth 100000 in
theorem p_count_15 {l : Launch} {D : va_G} {ids : List Nat} {ad : Nat → Nat} {ca : Nat → ClassId} {σ : HS} (hid : ∀ i, i < 277 → i ∈ ids) (htx0 : σ.2.2 0 = 30) (h_30_0 : σ.1 30 0 = 0) (h_56_0 : σ.1 56 0 = 0) : Ki l D ids ad ca yX11_count cX11_count 2 .int 1 23 [.ref (ad 0), .int 15] σ (fun r σ1 => r = 0 ∧ keepM σ σ1) := by
  refine Ki.of (by decide) (Nat.le_of_ble_eq_true rfl) 0 (fun Γ C Rt => ?_)
  show AW ids ad ca Γ 0 [some (.ref (ad 0)), some (.int 15)] [] σ
  refine a_iload_n C dX11_count_0 (i := 1) rfl rfl ?_
  refine a_tableIn C dX11_count_1 (by decide) (by decide) rfl (tgt := 230) rfl ?_
  refine a_aload_n C dX11_count_230 (i := 0) rfl rfl ?_
  refine a_aload_n C dX11_count_231 (i := 0) rfl rfl ?_
  refine a_get C fl_RX11_54 (i := 0) kd_0 (hid 0 (by decide)) (v := .ref (ad 56)) rfl dX11_count_232 ?_
  refine a_iconst C dX11_count_235 (v := 0) rfl ?_
  refine a_callVi C (i := 56) kd_56 (hid 56 (by decide)) ⟨_, _, rfl⟩ (by decide) (k_bitsOf_56 hid h_56_0) mi_X0_bitsOf ml_RX11_180 rfl rfl (Nat.le_of_ble_eq_true rfl) (Nat.le_of_ble_eq_true rfl) (Nat.le_of_ble_eq_true rfl) dX11_count_236 (fun r1 σ2 q3 => ?_)
  obtain ⟨rfl, q3⟩ := q3
  rw [q3]
  refine a_callVi C (i := 0) kd_0 (hid 0 (by decide)) ⟨_, _, rfl⟩ (by decide) (k_weightsOf hid htx0 h_30_0) mi_X11_weightsOf ml_RX11_203 rfl rfl (Nat.le_of_ble_eq_true rfl) (Nat.le_of_ble_eq_true rfl) (Nat.le_of_ble_eq_true rfl) dX11_count_239 (fun r4 σ5 q6 => ?_)
  obtain ⟨rfl, q6⟩ := q6
  rw [q6]
  exact a_iret Rt dX11_count_242 rfl (⟨rfl, keepM.rf⟩)
theorem dX11_count_243 : decode cX11_count 243 = .ok (.aload_n 0, 1) := by decide +kernel
theorem dX11_count_244 : decode cX11_count 244 = .ok (.aload_n 0, 1) := by decide +kernel
theorem dX11_count_245 : decode cX11_count 245 = .ok (.getfield 54, 3) := by decide +kernel
theorem dX11_count_248 : decode cX11_count 248 = .ok (.iconst 2, 1) := by decide +kernel
theorem dX11_count_249 : decode cX11_count 249 = .ok (.invokevirtual 180, 3) := by decide +kernel
theorem dX11_count_252 : decode cX11_count 252 = .ok (.invokevirtual 203, 3) := by decide +kernel
theorem dX11_count_255 : decode cX11_count 255 = .ok (.ireturn, 1) := by decide +kernel
set_option maxHeartbeats 4000000 in
set_option maxRecDepth 100000 in
theorem p_count_16 {l : Launch} {D : va_G} {ids : List Nat} {ad : Nat → Nat} {ca : Nat → ClassId} {σ : HS} (hid : ∀ i, i < 277 → i ∈ ids) (htx0 : σ.2.2 0 = 30) (h_30_0 : σ.1 30 0 = 0) (h_56_0 : σ.1 56 0 = 0) : Ki l D ids ad ca yX11_count cX11_count 2 .int 1 23 [.ref (ad 0), .int 16] σ (fun r σ1 => r = 0 ∧ keepM σ σ1) := by
  refine Ki.of (by decide) (Nat.le_of_ble_eq_true rfl) 0 (fun Γ C Rt => ?_)
  show AW ids ad ca Γ 0 [some (.ref (ad 0)), some (.int 16)] [] σ
  refine a_iload_n C dX11_count_0 (i := 1) rfl rfl ?_
  refine a_tableIn C dX11_count_1 (by decide) (by decide) rfl (tgt := 243) rfl ?_
  refine a_aload_n C dX11_count_243 (i := 0) rfl rfl ?_
  refine a_aload_n C dX11_count_244 (i := 0) rfl rfl ?_
  refine a_get C fl_RX11_54 (i := 0) kd_0 (hid 0 (by decide)) (v := .ref (ad 56)) rfl dX11_count_245 ?_
  refine a_iconst C dX11_count_248 (v := 2) rfl ?_
  refine a_callVi C (i := 56) kd_56 (hid 56 (by decide)) ⟨_, _, rfl⟩ (by decide) (k_bitsOf_56 hid h_56_0) mi_X0_bitsOf ml_RX11_180 rfl rfl (Nat.le_of_ble_eq_true rfl) (Nat.le_of_ble_eq_true rfl) (Nat.le_of_ble_eq_true rfl) dX11_count_249 (fun r1 σ2 q3 => ?_)
  obtain ⟨rfl, q3⟩ := q3
  rw [q3]
  refine a_callVi C (i := 0) kd_0 (hid 0 (by decide)) ⟨_, _, rfl⟩ (by decide) (k_weightsOf hid htx0 h_30_0) mi_X11_weightsOf ml_RX11_203 rfl rfl (Nat.le_of_ble_eq_true rfl) (Nat.le_of_ble_eq_true rfl) (Nat.le_of_ble_eq_true rfl) dX11_count_252 (fun r4 σ5 q6 => ?_)
  obtain ⟨rfl, q6⟩ := q6
  rw [q6]
  exact a_iret Rt dX11_count_255 rfl (⟨rfl, keepM.rf⟩)
theorem dX11_count_256 : decode cX11_count 256 = .ok (.aload_n 0, 1) := by decide +kernel
theorem dX11_count_257 : decode cX11_count 257 = .ok (.getfield 54, 3) := by decide +kernel
theorem dX11_count_260 : decode cX11_count 260 = .ok (.iconst 1, 1) := by decide +kernel
theorem dX11_count_261 : decode cX11_count 261 = .ok (.invokevirtual 180, 3) := by decide +kernel
theorem dX11_count_264 : decode cX11_count 264 = .ok (.ireturn, 1) := by decide +kernel
set_option maxHeartbeats 4000000 in
set_option maxRecDepth 100000 in
theorem p_count_17 {l : Launch} {D : va_G} {ids : List Nat} {ad : Nat → Nat} {ca : Nat → ClassId} {σ : HS} (hid : ∀ i, i < 277 → i ∈ ids) (h_56_0 : σ.1 56 0 = 0) : Ki l D ids ad ca yX11_count cX11_count 2 .int 1 23 [.ref (ad 0), .int 17] σ (fun r σ1 => r = 0 ∧ keepM σ σ1) := by
  refine Ki.of (by decide) (Nat.le_of_ble_eq_true rfl) 0 (fun Γ C Rt => ?_)
  show AW ids ad ca Γ 0 [some (.ref (ad 0)), some (.int 17)] [] σ
  refine a_iload_n C dX11_count_0 (i := 1) rfl rfl ?_
  refine a_tableIn C dX11_count_1 (by decide) (by decide) rfl (tgt := 256) rfl ?_
  refine a_aload_n C dX11_count_256 (i := 0) rfl rfl ?_
  refine a_get C fl_RX11_54 (i := 0) kd_0 (hid 0 (by decide)) (v := .ref (ad 56)) rfl dX11_count_257 ?_
  refine a_iconst C dX11_count_260 (v := 1) rfl ?_
  refine a_callVi C (i := 56) kd_56 (hid 56 (by decide)) ⟨_, _, rfl⟩ (by decide) (k_bitsOf_56 hid h_56_0) mi_X0_bitsOf ml_RX11_180 rfl rfl (Nat.le_of_ble_eq_true rfl) (Nat.le_of_ble_eq_true rfl) (Nat.le_of_ble_eq_true rfl) dX11_count_261 (fun r1 σ2 q3 => ?_)
  obtain ⟨rfl, q3⟩ := q3
  rw [q3]
  exact a_iret Rt dX11_count_264 rfl (⟨rfl, keepM.rf⟩)
theorem dX11_count_265 : decode cX11_count 265 = .ok (.iconst (-1), 1) := by decide +kernel
theorem dX11_count_266 : decode cX11_count 266 = .ok (.ireturn, 1) := by decide +kernel
set_option maxHeartbeats 4000000 in
set_option maxRecDepth 100000 in
theorem p_count_out {l : Launch} {D : va_G} {ids : List Nat} {ad : Nat → Nat} {ca : Nat → ClassId} {σ : HS} {p0 : Int32} (hid : ∀ i, i < 277 → i ∈ ids) (hsw : p0.toInt < 0 ∨ 17 < p0.toInt) : Ki l D ids ad ca yX11_count cX11_count 2 .int 0 0 [.ref (ad 0), .int p0] σ (fun r σ1 => r = (-1) ∧ keepM σ σ1) := by
  refine Ki.of (by decide) (Nat.le_of_ble_eq_true rfl) 0 (fun Γ C Rt => ?_)
  show AW ids ad ca Γ 0 [some (.ref (ad 0)), some (.int p0)] [] σ
  refine a_iload_n C dX11_count_0 (i := 1) rfl rfl ?_
  refine a_tableOut C dX11_count_1 hsw (tgt := 265) rfl ?_
  refine a_iconst C dX11_count_265 (v := (-1)) rfl ?_
  exact a_iret Rt dX11_count_266 rfl (⟨rfl, keepM.rf⟩)
theorem dX11_isHeight_0 : decode cX11_isHeight 0 = .ok (.iload_n 0, 1) := by decide +kernel
theorem dX11_isHeight_1 : decode cX11_isHeight 1 = .ok (.ifCond .lt 13, 3) := by decide +kernel
theorem dX11_isHeight_4 : decode cX11_isHeight 4 = .ok (.iload_n 0, 1) := by decide +kernel
theorem dX11_isHeight_5 : decode cX11_isHeight 5 = .ok (.bipush 9, 2) := by decide +kernel
theorem dX11_isHeight_7 : decode cX11_isHeight 7 = .ok (.if_icmp .gt 7, 3) := by decide +kernel
theorem dX11_isHeight_10 : decode cX11_isHeight 10 = .ok (.iconst 1, 1) := by decide +kernel
theorem dX11_isHeight_11 : decode cX11_isHeight 11 = .ok (.goto 4, 3) := by decide +kernel
theorem dX11_isHeight_15 : decode cX11_isHeight 15 = .ok (.ireturn, 1) := by decide +kernel
set_option maxHeartbeats 4000000 in
set_option maxRecDepth 100000 in
theorem k_isHeight_in {l : Launch} {D : va_G} {ids : List Nat} {ad : Nat → Nat} {ca : Nat → ClassId} {σ : HS} {p0 : Int32} (hid : ∀ i, i < 277 → i ∈ ids) (h1 : ¬ p0 < 0) (h2 : p0 ≤ 9) : Ki l D ids ad ca yX11_isHeight cX11_isHeight 1 .boolean 0 0 [.int p0] σ (fun r σ1 => r = 1 ∧ σ1 = σ) := by
  refine Ki.of (by decide) (Nat.le_of_ble_eq_true rfl) 0 (fun Γ C Rt => ?_)
  show AW ids ad ca Γ 0 [some (.int p0)] [] σ
  refine a_iload_n C dX11_isHeight_0 (i := 0) rfl rfl ?_
  refine a_if_lt C dX11_isHeight_1 (tgt := 14) rfl (fun c1 => absurd c1 (h1)) (fun c1 => ?_)
  refine a_iload_n C dX11_isHeight_4 (i := 0) rfl rfl ?_
  refine a_bipush C dX11_isHeight_5 (v := 9) rfl ?_
  refine a_ic_gt C dX11_isHeight_7 (tgt := 14) rfl (fun c2 => absurd c2 (Int32.not_lt.mpr h2)) (fun c2 => ?_)
  refine a_iconst C dX11_isHeight_10 (v := 1) rfl ?_
  refine a_goto C dX11_isHeight_11 (tgt := 15) rfl ?_
  exact a_iret Rt dX11_isHeight_15 rfl (⟨rfl, rfl⟩)
theorem dX11_isHeight_14 : decode cX11_isHeight 14 = .ok (.iconst 0, 1) := by decide +kernel
set_option maxHeartbeats 4000000 in
set_option maxRecDepth 100000 in
theorem k_isHeight_out {l : Launch} {D : va_G} {ids : List Nat} {ad : Nat → Nat} {ca : Nat → ClassId} {σ : HS} {p0 : Int32} (hid : ∀ i, i < 277 → i ∈ ids) (ho : p0 < 0 ∨ 9 < p0) : Ki l D ids ad ca yX11_isHeight cX11_isHeight 1 .boolean 0 0 [.int p0] σ (fun r σ1 => r = 0 ∧ σ1 = σ) := by
  refine Ki.of (by decide) (Nat.le_of_ble_eq_true rfl) 0 (fun Γ C Rt => ?_)
  show AW ids ad ca Γ 0 [some (.int p0)] [] σ
  refine a_iload_n C dX11_isHeight_0 (i := 0) rfl rfl ?_
  refine a_if_lt C dX11_isHeight_1 (tgt := 14) rfl (fun c1 => ?_) (fun c1 => ?_)
  ·
    refine a_iconst C dX11_isHeight_14 (v := 0) rfl ?_
    exact a_iret Rt dX11_isHeight_15 rfl (⟨rfl, rfl⟩)
  ·
    refine a_iload_n C dX11_isHeight_4 (i := 0) rfl rfl ?_
    refine a_bipush C dX11_isHeight_5 (v := 9) rfl ?_
    refine a_ic_gt C dX11_isHeight_7 (tgt := 14) rfl (fun c2 => ?_) (fun c2 => absurd c2 (fun q => q (ho.resolve_left c1)))
    refine a_iconst C dX11_isHeight_14 (v := 0) rfl ?_
    exact a_iret Rt dX11_isHeight_15 rfl (⟨rfl, rfl⟩)
theorem dX11_set_0 : decode cX11_set 0 = .ok (.iload_n 1, 1) := by decide +kernel
theorem dX11_set_1 : decode cX11_set 1 = .ok (.invokestatic 153, 3) := by decide +kernel
theorem dX11_set_4 : decode cX11_set 4 = .ok (.ifCond .eq 14, 3) := by decide +kernel
theorem dX11_set_7 : decode cX11_set 7 = .ok (.aload_n 0, 1) := by decide +kernel
theorem dX11_set_8 : decode cX11_set 8 = .ok (.getfield 54, 3) := by decide +kernel
theorem dX11_set_11 : decode cX11_set 11 = .ok (.getfield 217, 3) := by decide +kernel
theorem dX11_set_14 : decode cX11_set 14 = .ok (.iload_n 1, 1) := by decide +kernel
theorem dX11_set_15 : decode cX11_set 15 = .ok (.if_icmp .ne 5, 3) := by decide +kernel
theorem dX11_set_20 : decode cX11_set 20 = .ok (.aload_n 0, 1) := by decide +kernel
theorem dX11_set_21 : decode cX11_set 21 = .ok (.getfield 26, 3) := by decide +kernel
theorem dX11_set_24 : decode cX11_set 24 = .ok (.aload_n 0, 1) := by decide +kernel
theorem dX11_set_25 : decode cX11_set 25 = .ok (.getfield 54, 3) := by decide +kernel
theorem dX11_set_28 : decode cX11_set 28 = .ok (.invokevirtual 206, 3) := by decide +kernel
theorem dX11_set_31 : decode cX11_set 31 = .ok (.aload_n 0, 1) := by decide +kernel
theorem dX11_set_32 : decode cX11_set 32 = .ok (.getfield 54, 3) := by decide +kernel
theorem dX11_set_35 : decode cX11_set 35 = .ok (.iload_n 1, 1) := by decide +kernel
theorem dX11_set_36 : decode cX11_set 36 = .ok (.putfield 217, 3) := by decide +kernel
theorem dX11_set_39 : decode cX11_set 39 = .ok (.iconst 1, 1) := by decide +kernel
theorem dX11_set_40 : decode cX11_set 40 = .ok (.ireturn, 1) := by decide +kernel
set_option maxHeartbeats 4000000 in
set_option maxRecDepth 100000 in
theorem p_set_in {l : Launch} {D : va_G} {ids : List Nat} {ad : Nat → Nat} {ca : Nat → ClassId} {σ : HS} {p0 : Int32} (hid : ∀ i, i < 277 → i ∈ ids) (h1 : ¬ p0 < 0) (h2 : p0 ≤ 9) (h_12_1 : σ.1 12 1 = 0) (h_12_2 : σ.1 12 2 = 0) (h_56_0 : σ.1 56 0 = 0) (h_56_4 : σ.1 56 4 = 0) (h_56_5 : σ.1 56 5 = 0) (h_56_6 : σ.1 56 6 = 0) (h_56_7 : σ.1 56 7 = 0) (h_56_8 : σ.1 56 8 = 0) (h_56_9 : σ.1 56 9 = (-1)) (h_56_10 : σ.1 56 10 = 0) (h_56_11 : σ.1 56 11 = (-1)) : Ki l D ids ad ca yX11_set cX11_set 2 .boolean 3 102 [.ref (ad 0), .int p0] σ (fun r σ1 => r = 1 ∧ keepM σ σ1) := by
  refine Ki.of (by decide) (Nat.le_of_ble_eq_true rfl) 0 (fun Γ C Rt => ?_)
  show AW ids ad ca Γ 0 [some (.ref (ad 0)), some (.int p0)] [] σ
  refine a_iload_n C dX11_set_0 (i := 1) rfl rfl ?_
  refine a_callSi C (k_isHeight_in hid h1 h2) ms_X11_isHeight ml_RX11_153 rfl rfl (Nat.le_of_ble_eq_true rfl) (Nat.le_of_ble_eq_true rfl) (Nat.le_of_ble_eq_true rfl) dX11_set_1 (fun r1 σ2 q3 => ?_)
  obtain ⟨rfl, q3⟩ := q3
  rw [q3]
  refine a_if_eq C dX11_set_4 (tgt := 18) rfl (fun h => absurd h (by decide)) (fun _ => ?_)
  refine a_aload_n C dX11_set_7 (i := 0) rfl rfl ?_
  refine a_get C fl_RX11_54 (i := 0) kd_0 (hid 0 (by decide)) (v := .ref (ad 56)) rfl dX11_set_8 ?_
  refine a_get C fl_RX11_217 (i := 56) kd_56 (hid 56 (by decide)) (v := .int (-1)) (congrArg (fun z => some (Value.int z)) h_56_11) dX11_set_11 ?_
  refine a_iload_n C dX11_set_14 (i := 1) rfl rfl ?_
  refine a_ic_ne C dX11_set_15 (tgt := 20) rfl (fun c4 => ?_) (fun c4 => absurd c4 (fun q => h1 (q ▸ (by decide))))
  refine a_aload_n C dX11_set_20 (i := 0) rfl rfl ?_
  refine a_get C fl_RX11_26 (i := 0) kd_0 (hid 0 (by decide)) (v := .ref (ad 12)) rfl dX11_set_21 ?_
  refine a_aload_n C dX11_set_24 (i := 0) rfl rfl ?_
  refine a_get C fl_RX11_54 (i := 0) kd_0 (hid 0 (by decide)) (v := .ref (ad 56)) rfl dX11_set_25 ?_
  refine a_callVv C (i := 12) kd_12 (hid 12 (by decide)) ⟨_, _, rfl⟩ (by decide) (k_keep hid h_12_1 h_12_2 h_56_0 h_56_4 h_56_5 h_56_6 h_56_7 h_56_8 h_56_9 h_56_10 h_56_11) mi_X5_keep ml_RX11_206 rfl rfl (Nat.le_of_ble_eq_true rfl) (Nat.le_of_ble_eq_true rfl) (Nat.le_of_ble_eq_true rfl) dX11_set_28 (fun σ6 q7 => ?_)
  refine a_aload_n C dX11_set_31 (i := 0) rfl rfl ?_
  refine a_get C fl_RX11_54 (i := 0) kd_0 (hid 0 (by decide)) (v := .ref (ad 56)) rfl dX11_set_32 ?_
  refine a_iload_n C dX11_set_35 (i := 1) rfl rfl ?_
  refine a_put C fp_RX11_217 (i := 56) kd_56 (hid 56 (by decide)) rfl rfl dX11_set_36 ?_
  refine a_iconst C dX11_set_39 (v := 1) rfl ?_
  exact a_iret Rt dX11_set_40 rfl (⟨rfl, (keepM.I (keepM.tr keepM.rf (only.keepM q7 (by decide))) (by decide))⟩)
theorem dX11_set_18 : decode cX11_set 18 = .ok (.iconst 0, 1) := by decide +kernel
theorem dX11_set_19 : decode cX11_set 19 = .ok (.ireturn, 1) := by decide +kernel
set_option maxHeartbeats 4000000 in
set_option maxRecDepth 100000 in
theorem p_set_out {l : Launch} {D : va_G} {ids : List Nat} {ad : Nat → Nat} {ca : Nat → ClassId} {σ : HS} {p0 : Int32} (hid : ∀ i, i < 277 → i ∈ ids) (ho : p0 < 0 ∨ 9 < p0) : Ki l D ids ad ca yX11_set cX11_set 2 .boolean 1 20 [.ref (ad 0), .int p0] σ (fun r σ1 => r = 0 ∧ keepM σ σ1) := by
  refine Ki.of (by decide) (Nat.le_of_ble_eq_true rfl) 0 (fun Γ C Rt => ?_)
  show AW ids ad ca Γ 0 [some (.ref (ad 0)), some (.int p0)] [] σ
  refine a_iload_n C dX11_set_0 (i := 1) rfl rfl ?_
  refine a_callSi C (k_isHeight_out hid ho) ms_X11_isHeight ml_RX11_153 rfl rfl (Nat.le_of_ble_eq_true rfl) (Nat.le_of_ble_eq_true rfl) (Nat.le_of_ble_eq_true rfl) dX11_set_1 (fun r1 σ2 q3 => ?_)
  obtain ⟨rfl, q3⟩ := q3
  rw [q3]
  refine a_if_eq C dX11_set_4 (tgt := 18) rfl (fun _ => ?_) (fun h => absurd h (by decide))
  refine a_iconst C dX11_set_18 (v := 0) rfl ?_
  exact a_iret Rt dX11_set_19 rfl (⟨rfl, keepM.rf⟩)
theorem dX11_beats_0 : decode cX11_beats 0 = .ok (.iload_n 1, 1) := by decide +kernel
theorem dX11_beats_1 : decode cX11_beats 1 = .ok (.ifCond .lt 9, 3) := by decide +kernel
theorem dX11_beats_4 : decode cX11_beats 4 = .ok (.iload_n 1, 1) := by decide +kernel
theorem dX11_beats_5 : decode cX11_beats 5 = .ok (.bipush 60, 2) := by decide +kernel
theorem dX11_beats_7 : decode cX11_beats 7 = .ok (.if_icmp .le 5, 3) := by decide +kernel
theorem dX11_beats_12 : decode cX11_beats 12 = .ok (.iload_n 1, 1) := by decide +kernel
theorem dX11_beats_13 : decode cX11_beats 13 = .ok (.ifCond .le 37, 3) := by decide +kernel
theorem dX11_beats_50 : decode cX11_beats 50 = .ok (.aload_n 0, 1) := by decide +kernel
theorem dX11_beats_51 : decode cX11_beats 51 = .ok (.getfield 54, 3) := by decide +kernel
theorem dX11_beats_54 : decode cX11_beats 54 = .ok (.getfield 174, 3) := by decide +kernel
theorem dX11_beats_57 : decode cX11_beats 57 = .ok (.ireturn, 1) := by decide +kernel
set_option maxHeartbeats 4000000 in
set_option maxRecDepth 100000 in
theorem p_beats_0 {l : Launch} {D : va_G} {ids : List Nat} {ad : Nat → Nat} {ca : Nat → ClassId} {σ : HS} (hid : ∀ i, i < 277 → i ∈ ids) (h_56_4 : σ.1 56 4 = 0) : Ki l D ids ad ca yX11_beats cX11_beats 2 .int 0 0 [.ref (ad 0), .int 0] σ (fun r σ1 => r = 0 ∧ keepM σ σ1) := by
  refine Ki.of (by decide) (Nat.le_of_ble_eq_true rfl) 0 (fun Γ C Rt => ?_)
  show AW ids ad ca Γ 0 [some (.ref (ad 0)), some (.int 0)] [] σ
  refine a_iload_n C dX11_beats_0 (i := 1) rfl rfl ?_
  refine a_if_lt C dX11_beats_1 (tgt := 10) rfl (fun h => absurd h (by decide)) (fun _ => ?_)
  refine a_iload_n C dX11_beats_4 (i := 1) rfl rfl ?_
  refine a_bipush C dX11_beats_5 (v := 60) rfl ?_
  refine a_ic_le C dX11_beats_7 (tgt := 12) rfl (fun _ => ?_) (fun h => absurd h (by decide))
  refine a_iload_n C dX11_beats_12 (i := 1) rfl rfl ?_
  refine a_if_le C dX11_beats_13 (tgt := 50) rfl (fun _ => ?_) (fun h => absurd h (by decide))
  refine a_aload_n C dX11_beats_50 (i := 0) rfl rfl ?_
  refine a_get C fl_RX11_54 (i := 0) kd_0 (hid 0 (by decide)) (v := .ref (ad 56)) rfl dX11_beats_51 ?_
  refine a_get C fl_RX11_174 (i := 56) kd_56 (hid 56 (by decide)) (v := .int 0) (congrArg (fun z => some (Value.int z)) h_56_4) dX11_beats_54 ?_
  exact a_iret Rt dX11_beats_57 rfl (⟨rfl, keepM.rf⟩)
theorem dX11_beats_16 : decode cX11_beats 16 = .ok (.aload_n 0, 1) := by decide +kernel
theorem dX11_beats_17 : decode cX11_beats 17 = .ok (.getfield 26, 3) := by decide +kernel
theorem dX11_beats_20 : decode cX11_beats 20 = .ok (.aload_n 0, 1) := by decide +kernel
theorem dX11_beats_21 : decode cX11_beats 21 = .ok (.getfield 54, 3) := by decide +kernel
theorem dX11_beats_24 : decode cX11_beats 24 = .ok (.invokevirtual 206, 3) := by decide +kernel
theorem dX11_beats_27 : decode cX11_beats 27 = .ok (.aload_n 0, 1) := by decide +kernel
theorem dX11_beats_28 : decode cX11_beats 28 = .ok (.getfield 19, 3) := by decide +kernel
theorem dX11_beats_31 : decode cX11_beats 31 = .ok (.aload_n 0, 1) := by decide +kernel
theorem dX11_beats_32 : decode cX11_beats 32 = .ok (.getfield 82, 3) := by decide +kernel
theorem dX11_beats_35 : decode cX11_beats 35 = .ok (.aload_n 0, 1) := by decide +kernel
theorem dX11_beats_36 : decode cX11_beats 36 = .ok (.getfield 54, 3) := by decide +kernel
theorem dX11_beats_39 : decode cX11_beats 39 = .ok (.iload_n 1, 1) := by decide +kernel
theorem dX11_beats_40 : decode cX11_beats 40 = .ok (.aload_n 0, 1) := by decide +kernel
theorem dX11_beats_41 : decode cX11_beats 41 = .ok (.getfield 82, 3) := by decide +kernel
theorem dX11_beats_44 : decode cX11_beats 44 = .ok (.getfield 220, 3) := by decide +kernel
theorem dX11_beats_47 : decode cX11_beats 47 = .ok (.invokevirtual 223, 3) := by decide +kernel
set_option maxHeartbeats 4000000 in
set_option maxRecDepth 100000 in
theorem p_beats_in {l : Launch} {D : va_G} {ids : List Nat} {ad : Nat → Nat} {ca : Nat → ClassId} {σ : HS} {m : Nat} (hid : ∀ i, i < 277 → i ∈ ids) (h1 : 1 ≤ m) (hm : m ≤ 60) (htx0 : σ.2.2 0 = 30) (h_12_1 : σ.1 12 1 = 0) (h_12_2 : σ.1 12 2 = 0) (h_30_10 : σ.1 30 10 = 1) (h_30_11 : σ.1 30 11 = 0) (h_56_0 : σ.1 56 0 = 0) (h_56_4 : σ.1 56 4 = 0) (h_56_5 : σ.1 56 5 = 0) (h_56_6 : σ.1 56 6 = 0) (h_56_7 : σ.1 56 7 = 0) (h_56_8 : σ.1 56 8 = 0) (h_56_9 : σ.1 56 9 = (-1)) (h_56_10 : σ.1 56 10 = 0) (h_56_11 : σ.1 56 11 = (-1)) : Ki l D ids ad ca yX11_beats cX11_beats 2 .int 3 102 [.ref (ad 0), .int (nI m)] σ (fun r σ1 => r = nI m ∧ keepM σ σ1) := by
  refine Ki.of (by decide) (Nat.le_of_ble_eq_true rfl) 0 (fun Γ C Rt => ?_)
  show AW ids ad ca Γ 0 [some (.ref (ad 0)), some (.int (nI m))] [] σ
  refine a_iload_n C dX11_beats_0 (i := 1) rfl rfl ?_
  refine a_if_lt C dX11_beats_1 (tgt := 10) rfl (fun c1 => absurd c1 (nI_nlt (a := (m)) (b := (0)) (by omega) (by omega))) (fun c1 => ?_)
  refine a_iload_n C dX11_beats_4 (i := 1) rfl rfl ?_
  refine a_bipush C dX11_beats_5 (v := 60) rfl ?_
  refine a_ic_le C dX11_beats_7 (tgt := 12) rfl (fun c2 => ?_) (fun c2 => absurd c2 (fun q => q (nI_le (a := (m)) (b := (60)) (by omega) (by omega))))
  refine a_iload_n C dX11_beats_12 (i := 1) rfl rfl ?_
  refine a_if_le C dX11_beats_13 (tgt := 50) rfl (fun c3 => absurd c3 (nI_ge (a := (0)) (b := (m)) (by omega) (by omega))) (fun c3 => ?_)
  refine a_aload_n C dX11_beats_16 (i := 0) rfl rfl ?_
  refine a_get C fl_RX11_26 (i := 0) kd_0 (hid 0 (by decide)) (v := .ref (ad 12)) rfl dX11_beats_17 ?_
  refine a_aload_n C dX11_beats_20 (i := 0) rfl rfl ?_
  refine a_get C fl_RX11_54 (i := 0) kd_0 (hid 0 (by decide)) (v := .ref (ad 56)) rfl dX11_beats_21 ?_
  refine a_callVv C (i := 12) kd_12 (hid 12 (by decide)) ⟨_, _, rfl⟩ (by decide) (k_keep hid h_12_1 h_12_2 h_56_0 h_56_4 h_56_5 h_56_6 h_56_7 h_56_8 h_56_9 h_56_10 h_56_11) mi_X5_keep ml_RX11_206 rfl rfl (Nat.le_of_ble_eq_true rfl) (Nat.le_of_ble_eq_true rfl) (Nat.le_of_ble_eq_true rfl) dX11_beats_24 (fun σ5 q6 => ?_)
  refine a_aload_n C dX11_beats_27 (i := 0) rfl rfl ?_
  refine a_get C fl_RX11_19 (i := 0) kd_0 (hid 0 (by decide)) (v := .ref (ad 8)) rfl dX11_beats_28 ?_
  refine a_aload_n C dX11_beats_31 (i := 0) rfl rfl ?_
  refine a_get C fl_RX11_82 (i := 0) kd_0 (hid 0 (by decide)) (v := .ref (ad 30)) (congrArg (fun z => some (Value.ref (ad z))) (Eq.trans (congrArg (fun z => z.2 0) q6.2) htx0)) dX11_beats_32 ?_
  refine a_aload_n C dX11_beats_35 (i := 0) rfl rfl ?_
  refine a_get C fl_RX11_54 (i := 0) kd_0 (hid 0 (by decide)) (v := .ref (ad 56)) rfl dX11_beats_36 ?_
  refine a_iload_n C dX11_beats_39 (i := 1) rfl rfl ?_
  refine a_aload_n C dX11_beats_40 (i := 0) rfl rfl ?_
  refine a_get C fl_RX11_82 (i := 0) kd_0 (hid 0 (by decide)) (v := .ref (ad 30)) (congrArg (fun z => some (Value.ref (ad z))) (Eq.trans (congrArg (fun z => z.2 0) q6.2) htx0)) dX11_beats_41 ?_
  refine a_get C fl_RX11_220 (i := 30) kd_30 (hid 30 (by decide)) (v := .int 0) (congrArg (fun z => some (Value.int z)) ((congrFun (q6.1 30 (by decide)) 11).trans h_30_11)) dX11_beats_44 ?_
  refine a_callVv C (i := 8) kd_8 (hid 8 (by decide)) ⟨_, _, rfl⟩ (by decide) (k_goOn_56 hid (bt := 0) (m := m) ((congrFun (q6.1 56 (by decide)) 4).trans h_56_4) (by omega) ((congrFun (q6.1 30 (by decide)) 10).trans h_30_10) ((congrFun (q6.1 56 (by decide)) 0).trans h_56_0) ((congrFun (q6.1 56 (by decide)) 5).trans h_56_5) ((congrFun (q6.1 56 (by decide)) 6).trans h_56_6) ((congrFun (q6.1 56 (by decide)) 8).trans h_56_8)) mi_X4_goOn ml_RX11_223 rfl rfl (Nat.le_of_ble_eq_true rfl) (Nat.le_of_ble_eq_true rfl) (Nat.le_of_ble_eq_true rfl) dX11_beats_47 (fun σ8 q9 => ?_)
  refine a_aload_n C dX11_beats_50 (i := 0) rfl rfl ?_
  refine a_get C fl_RX11_54 (i := 0) kd_0 (hid 0 (by decide)) (v := .ref (ad 56)) rfl dX11_beats_51 ?_
  refine a_get C fl_RX11_174 (i := 56) kd_56 (hid 56 (by decide)) (v := .int (nI (0 + m))) (congrArg (fun z => some (Value.int z)) q9.2.2.2.2.2) dX11_beats_54 ?_
  exact a_iret Rt dX11_beats_57 rfl (⟨(congrArg nI (Nat.zero_add m)), (keepM.tr (keepM.tr keepM.rf (only.keepM q6 (by decide))) (only.keepM q9.1 (by decide)))⟩)
theorem dX11_beats_10 : decode cX11_beats 10 = .ok (.iconst (-1), 1) := by decide +kernel
theorem dX11_beats_11 : decode cX11_beats 11 = .ok (.ireturn, 1) := by decide +kernel
set_option maxHeartbeats 4000000 in
set_option maxRecDepth 100000 in
theorem p_beats_out {l : Launch} {D : va_G} {ids : List Nat} {ad : Nat → Nat} {ca : Nat → ClassId} {σ : HS} {p0 : Int32} (hid : ∀ i, i < 277 → i ∈ ids) (ho : p0 < 0 ∨ 60 < p0) : Ki l D ids ad ca yX11_beats cX11_beats 2 .int 0 0 [.ref (ad 0), .int p0] σ (fun r σ1 => r = (-1) ∧ keepM σ σ1) := by
  refine Ki.of (by decide) (Nat.le_of_ble_eq_true rfl) 0 (fun Γ C Rt => ?_)
  show AW ids ad ca Γ 0 [some (.ref (ad 0)), some (.int p0)] [] σ
  refine a_iload_n C dX11_beats_0 (i := 1) rfl rfl ?_
  refine a_if_lt C dX11_beats_1 (tgt := 10) rfl (fun c1 => ?_) (fun c1 => ?_)
  ·
    refine a_iconst C dX11_beats_10 (v := (-1)) rfl ?_
    exact a_iret Rt dX11_beats_11 rfl (⟨rfl, keepM.rf⟩)
  ·
    refine a_iload_n C dX11_beats_4 (i := 1) rfl rfl ?_
    refine a_bipush C dX11_beats_5 (v := 60) rfl ?_
    refine a_ic_le C dX11_beats_7 (tgt := 12) rfl (fun c2 => absurd c2 (Int32.not_le.mpr (ho.resolve_left c1))) (fun c2 => ?_)
    refine a_iconst C dX11_beats_10 (v := (-1)) rfl ?_
    exact a_iret Rt dX11_beats_11 rfl (⟨rfl, keepM.rf⟩)
theorem dX11_hold_0 : decode cX11_hold 0 = .ok (.iload_n 1, 1) := by decide +kernel
theorem dX11_hold_1 : decode cX11_hold 1 = .ok (.ifCond .lt 8, 3) := by decide +kernel
theorem dX11_hold_4 : decode cX11_hold 4 = .ok (.iload_n 1, 1) := by decide +kernel
theorem dX11_hold_5 : decode cX11_hold 5 = .ok (.iconst 3, 1) := by decide +kernel
theorem dX11_hold_6 : decode cX11_hold 6 = .ok (.if_icmp .lt 5, 3) := by decide +kernel
theorem dX11_hold_11 : decode cX11_hold 11 = .ok (.aload_n 0, 1) := by decide +kernel
theorem dX11_hold_12 : decode cX11_hold 12 = .ok (.getfield 61, 3) := by decide +kernel
theorem dX11_hold_15 : decode cX11_hold 15 = .ok (.iload_n 1, 1) := by decide +kernel
theorem dX11_hold_16 : decode cX11_hold 16 = .ok (.aaload, 1) := by decide +kernel
theorem dX11_hold_17 : decode cX11_hold 17 = .ok (.aload_n 0, 1) := by decide +kernel
theorem dX11_hold_18 : decode cX11_hold 18 = .ok (.getfield 54, 3) := by decide +kernel
theorem dX11_hold_21 : decode cX11_hold 21 = .ok (.invokevirtual 230, 3) := by decide +kernel
theorem dX11_hold_24 : decode cX11_hold 24 = .ok (.aload_n 0, 1) := by decide +kernel
theorem dX11_hold_25 : decode cX11_hold 25 = .ok (.getfield 65, 3) := by decide +kernel
theorem dX11_hold_28 : decode cX11_hold 28 = .ok (.iload_n 1, 1) := by decide +kernel
theorem dX11_hold_29 : decode cX11_hold 29 = .ok (.iconst 1, 1) := by decide +kernel
theorem dX11_hold_30 : decode cX11_hold 30 = .ok (.bastore, 1) := by decide +kernel
theorem dX11_hold_31 : decode cX11_hold 31 = .ok (.iconst 1, 1) := by decide +kernel
theorem dX11_hold_32 : decode cX11_hold 32 = .ok (.ireturn, 1) := by decide +kernel
set_option maxHeartbeats 4000000 in
set_option maxRecDepth 100000 in
theorem p_hold_0 {l : Launch} {D : va_G} {ids : List Nat} {ad : Nat → Nat} {ca : Nat → ClassId} {σ : HS} (hid : ∀ i, i < 277 → i ∈ ids) (h_56_0 : σ.1 56 0 = 0) (h_56_4 : σ.1 56 4 = 0) (h_56_5 : σ.1 56 5 = 0) (h_56_6 : σ.1 56 6 = 0) (h_56_7 : σ.1 56 7 = 0) (h_56_8 : σ.1 56 8 = 0) (h_56_9 : σ.1 56 9 = (-1)) (h_56_10 : σ.1 56 10 = 0) (h_56_11 : σ.1 56 11 = (-1)) : Ki l D ids ad ca yX11_hold cX11_hold 2 .boolean 2 81 [.ref (ad 0), .int 0] σ (fun r σ1 => r = 1 ∧ keepM σ σ1) := by
  refine Ki.of (by decide) (Nat.le_of_ble_eq_true rfl) 0 (fun Γ C Rt => ?_)
  show AW ids ad ca Γ 0 [some (.ref (ad 0)), some (.int 0)] [] σ
  refine a_iload_n C dX11_hold_0 (i := 1) rfl rfl ?_
  refine a_if_lt C dX11_hold_1 (tgt := 9) rfl (fun h => absurd h (by decide)) (fun _ => ?_)
  refine a_iload_n C dX11_hold_4 (i := 1) rfl rfl ?_
  refine a_iconst C dX11_hold_5 (v := 3) rfl ?_
  refine a_ic_lt C dX11_hold_6 (tgt := 11) rfl (fun _ => ?_) (fun h => absurd h (by decide))
  refine a_aload_n C dX11_hold_11 (i := 0) rfl rfl ?_
  refine a_get C fl_RX11_61 (i := 0) kd_0 (hid 0 (by decide)) (v := .ref (ad 25)) rfl dX11_hold_12 ?_
  refine a_iload_n C dX11_hold_15 (i := 1) rfl rfl ?_
  refine a_aald C (y := 64) 0 (by rw [kd_25]; decide) (hid 25 (by decide)) (by decide) rfl (by rw [al_25]; decide) (by rw [kd_25]; rfl) dX11_hold_16 ?_
  refine a_aload_n C dX11_hold_17 (i := 0) rfl rfl ?_
  refine a_get C fl_RX11_54 (i := 0) kd_0 (hid 0 (by decide)) (v := .ref (ad 56)) rfl dX11_hold_18 ?_
  refine a_callVv C (i := 64) kd_64 (hid 64 (by decide)) ⟨_, _, rfl⟩ (by decide) (k_copy_64 hid h_56_0 h_56_4 h_56_5 h_56_6 h_56_7 h_56_8 h_56_9 h_56_10 h_56_11) mi_X0_copy ml_RX11_230 rfl rfl (Nat.le_of_ble_eq_true rfl) (Nat.le_of_ble_eq_true rfl) (Nat.le_of_ble_eq_true rfl) dX11_hold_21 (fun σ2 q3 => ?_)
  refine a_aload_n C dX11_hold_24 (i := 0) rfl rfl ?_
  refine a_get C fl_RX11_65 (i := 0) kd_0 (hid 0 (by decide)) (v := .ref (ad 26)) rfl dX11_hold_25 ?_
  refine a_iload_n C dX11_hold_28 (i := 1) rfl rfl ?_
  refine a_iconst C dX11_hold_29 (v := 1) rfl ?_
  refine a_zast C (i := 26) 0 rfl kd_26 (hid 26 (by decide)) (by decide) rfl (by rw [al_26]; decide) dX11_hold_30 ?_
  refine a_iconst C dX11_hold_31 (v := 1) rfl ?_
  exact a_iret Rt dX11_hold_32 rfl (⟨rfl, (keepM.I (keepM.tr keepM.rf (only.keepM q3.1 (by decide))) (by decide))⟩)
theorem dX11_restore_0 : decode cX11_restore 0 = .ok (.iload_n 1, 1) := by decide +kernel
theorem dX11_restore_1 : decode cX11_restore 1 = .ok (.ifCond .lt 17, 3) := by decide +kernel
theorem dX11_restore_4 : decode cX11_restore 4 = .ok (.iload_n 1, 1) := by decide +kernel
theorem dX11_restore_5 : decode cX11_restore 5 = .ok (.iconst 3, 1) := by decide +kernel
theorem dX11_restore_6 : decode cX11_restore 6 = .ok (.if_icmp .ge 12, 3) := by decide +kernel
theorem dX11_restore_9 : decode cX11_restore 9 = .ok (.aload_n 0, 1) := by decide +kernel
theorem dX11_restore_10 : decode cX11_restore 10 = .ok (.getfield 65, 3) := by decide +kernel
theorem dX11_restore_13 : decode cX11_restore 13 = .ok (.iload_n 1, 1) := by decide +kernel
theorem dX11_restore_14 : decode cX11_restore 14 = .ok (.baload, 1) := by decide +kernel
theorem dX11_restore_15 : decode cX11_restore 15 = .ok (.ifCond .ne 5, 3) := by decide +kernel
theorem dX11_restore_18 : decode cX11_restore 18 = .ok (.iconst 0, 1) := by decide +kernel
theorem dX11_restore_19 : decode cX11_restore 19 = .ok (.ireturn, 1) := by decide +kernel
set_option maxHeartbeats 4000000 in
set_option maxRecDepth 100000 in
theorem p_restore_0 {l : Launch} {D : va_G} {ids : List Nat} {ad : Nat → Nat} {ca : Nat → ClassId} {σ : HS} (hid : ∀ i, i < 277 → i ∈ ids) (h_26_0 : σ.1 26 0 = 0) : Ki l D ids ad ca yX11_restore cX11_restore 2 .boolean 0 0 [.ref (ad 0), .int 0] σ (fun r σ1 => r = 0 ∧ keepM σ σ1) := by
  refine Ki.of (by decide) (Nat.le_of_ble_eq_true rfl) 0 (fun Γ C Rt => ?_)
  show AW ids ad ca Γ 0 [some (.ref (ad 0)), some (.int 0)] [] σ
  refine a_iload_n C dX11_restore_0 (i := 1) rfl rfl ?_
  refine a_if_lt C dX11_restore_1 (tgt := 18) rfl (fun h => absurd h (by decide)) (fun _ => ?_)
  refine a_iload_n C dX11_restore_4 (i := 1) rfl rfl ?_
  refine a_iconst C dX11_restore_5 (v := 3) rfl ?_
  refine a_ic_ge C dX11_restore_6 (tgt := 18) rfl (fun h => absurd h (by decide)) (fun _ => ?_)
  refine a_aload_n C dX11_restore_9 (i := 0) rfl rfl ?_
  refine a_get C fl_RX11_65 (i := 0) kd_0 (hid 0 (by decide)) (v := .ref (ad 26)) rfl dX11_restore_10 ?_
  refine a_iload_n C dX11_restore_13 (i := 1) rfl rfl ?_
  refine a_zald C (i := 26) 0 kd_26 (hid 26 (by decide)) (by decide) rfl (by rw [al_26]; decide) dX11_restore_14 (v := 0) h_26_0 ?_
  refine a_if_ne C dX11_restore_15 (tgt := 20) rfl (fun h => absurd h (by decide)) (fun _ => ?_)
  refine a_iconst C dX11_restore_18 (v := 0) rfl ?_
  exact a_iret Rt dX11_restore_19 rfl (⟨rfl, keepM.rf⟩)
set_option maxHeartbeats 4000000 in
set_option maxRecDepth 100000 in
theorem p_hold_1 {l : Launch} {D : va_G} {ids : List Nat} {ad : Nat → Nat} {ca : Nat → ClassId} {σ : HS} (hid : ∀ i, i < 277 → i ∈ ids) (h_56_0 : σ.1 56 0 = 0) (h_56_4 : σ.1 56 4 = 0) (h_56_5 : σ.1 56 5 = 0) (h_56_6 : σ.1 56 6 = 0) (h_56_7 : σ.1 56 7 = 0) (h_56_8 : σ.1 56 8 = 0) (h_56_9 : σ.1 56 9 = (-1)) (h_56_10 : σ.1 56 10 = 0) (h_56_11 : σ.1 56 11 = (-1)) : Ki l D ids ad ca yX11_hold cX11_hold 2 .boolean 2 81 [.ref (ad 0), .int 1] σ (fun r σ1 => r = 1 ∧ keepM σ σ1) := by
  refine Ki.of (by decide) (Nat.le_of_ble_eq_true rfl) 0 (fun Γ C Rt => ?_)
  show AW ids ad ca Γ 0 [some (.ref (ad 0)), some (.int 1)] [] σ
  refine a_iload_n C dX11_hold_0 (i := 1) rfl rfl ?_
  refine a_if_lt C dX11_hold_1 (tgt := 9) rfl (fun h => absurd h (by decide)) (fun _ => ?_)
  refine a_iload_n C dX11_hold_4 (i := 1) rfl rfl ?_
  refine a_iconst C dX11_hold_5 (v := 3) rfl ?_
  refine a_ic_lt C dX11_hold_6 (tgt := 11) rfl (fun _ => ?_) (fun h => absurd h (by decide))
  refine a_aload_n C dX11_hold_11 (i := 0) rfl rfl ?_
  refine a_get C fl_RX11_61 (i := 0) kd_0 (hid 0 (by decide)) (v := .ref (ad 25)) rfl dX11_hold_12 ?_
  refine a_iload_n C dX11_hold_15 (i := 1) rfl rfl ?_
  refine a_aald C (y := 68) 1 (by rw [kd_25]; decide) (hid 25 (by decide)) (by decide) rfl (by rw [al_25]; decide) (by rw [kd_25]; rfl) dX11_hold_16 ?_
  refine a_aload_n C dX11_hold_17 (i := 0) rfl rfl ?_
  refine a_get C fl_RX11_54 (i := 0) kd_0 (hid 0 (by decide)) (v := .ref (ad 56)) rfl dX11_hold_18 ?_
  refine a_callVv C (i := 68) kd_68 (hid 68 (by decide)) ⟨_, _, rfl⟩ (by decide) (k_copy_68 hid h_56_0 h_56_4 h_56_5 h_56_6 h_56_7 h_56_8 h_56_9 h_56_10 h_56_11) mi_X0_copy ml_RX11_230 rfl rfl (Nat.le_of_ble_eq_true rfl) (Nat.le_of_ble_eq_true rfl) (Nat.le_of_ble_eq_true rfl) dX11_hold_21 (fun σ2 q3 => ?_)
  refine a_aload_n C dX11_hold_24 (i := 0) rfl rfl ?_
  refine a_get C fl_RX11_65 (i := 0) kd_0 (hid 0 (by decide)) (v := .ref (ad 26)) rfl dX11_hold_25 ?_
  refine a_iload_n C dX11_hold_28 (i := 1) rfl rfl ?_
  refine a_iconst C dX11_hold_29 (v := 1) rfl ?_
  refine a_zast C (i := 26) 1 rfl kd_26 (hid 26 (by decide)) (by decide) rfl (by rw [al_26]; decide) dX11_hold_30 ?_
  refine a_iconst C dX11_hold_31 (v := 1) rfl ?_
  exact a_iret Rt dX11_hold_32 rfl (⟨rfl, (keepM.I (keepM.tr keepM.rf (only.keepM q3.1 (by decide))) (by decide))⟩)
set_option maxHeartbeats 4000000 in
set_option maxRecDepth 100000 in
theorem p_restore_1 {l : Launch} {D : va_G} {ids : List Nat} {ad : Nat → Nat} {ca : Nat → ClassId} {σ : HS} (hid : ∀ i, i < 277 → i ∈ ids) (h_26_1 : σ.1 26 1 = 0) : Ki l D ids ad ca yX11_restore cX11_restore 2 .boolean 0 0 [.ref (ad 0), .int 1] σ (fun r σ1 => r = 0 ∧ keepM σ σ1) := by
  refine Ki.of (by decide) (Nat.le_of_ble_eq_true rfl) 0 (fun Γ C Rt => ?_)
  show AW ids ad ca Γ 0 [some (.ref (ad 0)), some (.int 1)] [] σ
  refine a_iload_n C dX11_restore_0 (i := 1) rfl rfl ?_
  refine a_if_lt C dX11_restore_1 (tgt := 18) rfl (fun h => absurd h (by decide)) (fun _ => ?_)
  refine a_iload_n C dX11_restore_4 (i := 1) rfl rfl ?_
  refine a_iconst C dX11_restore_5 (v := 3) rfl ?_
  refine a_ic_ge C dX11_restore_6 (tgt := 18) rfl (fun h => absurd h (by decide)) (fun _ => ?_)
  refine a_aload_n C dX11_restore_9 (i := 0) rfl rfl ?_
  refine a_get C fl_RX11_65 (i := 0) kd_0 (hid 0 (by decide)) (v := .ref (ad 26)) rfl dX11_restore_10 ?_
  refine a_iload_n C dX11_restore_13 (i := 1) rfl rfl ?_
  refine a_zald C (i := 26) 1 kd_26 (hid 26 (by decide)) (by decide) rfl (by rw [al_26]; decide) dX11_restore_14 (v := 0) h_26_1 ?_
  refine a_if_ne C dX11_restore_15 (tgt := 20) rfl (fun h => absurd h (by decide)) (fun _ => ?_)
  refine a_iconst C dX11_restore_18 (v := 0) rfl ?_
  exact a_iret Rt dX11_restore_19 rfl (⟨rfl, keepM.rf⟩)
set_option maxHeartbeats 4000000 in
set_option maxRecDepth 100000 in
theorem p_hold_2 {l : Launch} {D : va_G} {ids : List Nat} {ad : Nat → Nat} {ca : Nat → ClassId} {σ : HS} (hid : ∀ i, i < 277 → i ∈ ids) (h_56_0 : σ.1 56 0 = 0) (h_56_4 : σ.1 56 4 = 0) (h_56_5 : σ.1 56 5 = 0) (h_56_6 : σ.1 56 6 = 0) (h_56_7 : σ.1 56 7 = 0) (h_56_8 : σ.1 56 8 = 0) (h_56_9 : σ.1 56 9 = (-1)) (h_56_10 : σ.1 56 10 = 0) (h_56_11 : σ.1 56 11 = (-1)) : Ki l D ids ad ca yX11_hold cX11_hold 2 .boolean 2 81 [.ref (ad 0), .int 2] σ (fun r σ1 => r = 1 ∧ keepM σ σ1) := by
  refine Ki.of (by decide) (Nat.le_of_ble_eq_true rfl) 0 (fun Γ C Rt => ?_)
  show AW ids ad ca Γ 0 [some (.ref (ad 0)), some (.int 2)] [] σ
  refine a_iload_n C dX11_hold_0 (i := 1) rfl rfl ?_
  refine a_if_lt C dX11_hold_1 (tgt := 9) rfl (fun h => absurd h (by decide)) (fun _ => ?_)
  refine a_iload_n C dX11_hold_4 (i := 1) rfl rfl ?_
  refine a_iconst C dX11_hold_5 (v := 3) rfl ?_
  refine a_ic_lt C dX11_hold_6 (tgt := 11) rfl (fun _ => ?_) (fun h => absurd h (by decide))
  refine a_aload_n C dX11_hold_11 (i := 0) rfl rfl ?_
  refine a_get C fl_RX11_61 (i := 0) kd_0 (hid 0 (by decide)) (v := .ref (ad 25)) rfl dX11_hold_12 ?_
  refine a_iload_n C dX11_hold_15 (i := 1) rfl rfl ?_
  refine a_aald C (y := 72) 2 (by rw [kd_25]; decide) (hid 25 (by decide)) (by decide) rfl (by rw [al_25]; decide) (by rw [kd_25]; rfl) dX11_hold_16 ?_
  refine a_aload_n C dX11_hold_17 (i := 0) rfl rfl ?_
  refine a_get C fl_RX11_54 (i := 0) kd_0 (hid 0 (by decide)) (v := .ref (ad 56)) rfl dX11_hold_18 ?_
  refine a_callVv C (i := 72) kd_72 (hid 72 (by decide)) ⟨_, _, rfl⟩ (by decide) (k_copy_72 hid h_56_0 h_56_4 h_56_5 h_56_6 h_56_7 h_56_8 h_56_9 h_56_10 h_56_11) mi_X0_copy ml_RX11_230 rfl rfl (Nat.le_of_ble_eq_true rfl) (Nat.le_of_ble_eq_true rfl) (Nat.le_of_ble_eq_true rfl) dX11_hold_21 (fun σ2 q3 => ?_)
  refine a_aload_n C dX11_hold_24 (i := 0) rfl rfl ?_
  refine a_get C fl_RX11_65 (i := 0) kd_0 (hid 0 (by decide)) (v := .ref (ad 26)) rfl dX11_hold_25 ?_
  refine a_iload_n C dX11_hold_28 (i := 1) rfl rfl ?_
  refine a_iconst C dX11_hold_29 (v := 1) rfl ?_
  refine a_zast C (i := 26) 2 rfl kd_26 (hid 26 (by decide)) (by decide) rfl (by rw [al_26]; decide) dX11_hold_30 ?_
  refine a_iconst C dX11_hold_31 (v := 1) rfl ?_
  exact a_iret Rt dX11_hold_32 rfl (⟨rfl, (keepM.I (keepM.tr keepM.rf (only.keepM q3.1 (by decide))) (by decide))⟩)
set_option maxHeartbeats 4000000 in
set_option maxRecDepth 100000 in
theorem p_restore_2 {l : Launch} {D : va_G} {ids : List Nat} {ad : Nat → Nat} {ca : Nat → ClassId} {σ : HS} (hid : ∀ i, i < 277 → i ∈ ids) (h_26_2 : σ.1 26 2 = 0) : Ki l D ids ad ca yX11_restore cX11_restore 2 .boolean 0 0 [.ref (ad 0), .int 2] σ (fun r σ1 => r = 0 ∧ keepM σ σ1) := by
  refine Ki.of (by decide) (Nat.le_of_ble_eq_true rfl) 0 (fun Γ C Rt => ?_)
  show AW ids ad ca Γ 0 [some (.ref (ad 0)), some (.int 2)] [] σ
  refine a_iload_n C dX11_restore_0 (i := 1) rfl rfl ?_
  refine a_if_lt C dX11_restore_1 (tgt := 18) rfl (fun h => absurd h (by decide)) (fun _ => ?_)
  refine a_iload_n C dX11_restore_4 (i := 1) rfl rfl ?_
  refine a_iconst C dX11_restore_5 (v := 3) rfl ?_
  refine a_ic_ge C dX11_restore_6 (tgt := 18) rfl (fun h => absurd h (by decide)) (fun _ => ?_)
  refine a_aload_n C dX11_restore_9 (i := 0) rfl rfl ?_
  refine a_get C fl_RX11_65 (i := 0) kd_0 (hid 0 (by decide)) (v := .ref (ad 26)) rfl dX11_restore_10 ?_
  refine a_iload_n C dX11_restore_13 (i := 1) rfl rfl ?_
  refine a_zald C (i := 26) 2 kd_26 (hid 26 (by decide)) (by decide) rfl (by rw [al_26]; decide) dX11_restore_14 (v := 0) h_26_2 ?_
  refine a_if_ne C dX11_restore_15 (tgt := 20) rfl (fun h => absurd h (by decide)) (fun _ => ?_)
  refine a_iconst C dX11_restore_18 (v := 0) rfl ?_
  exact a_iret Rt dX11_restore_19 rfl (⟨rfl, keepM.rf⟩)
theorem dX11_hold_9 : decode cX11_hold 9 = .ok (.iconst 0, 1) := by decide +kernel
theorem dX11_hold_10 : decode cX11_hold 10 = .ok (.ireturn, 1) := by decide +kernel
set_option maxHeartbeats 4000000 in
set_option maxRecDepth 100000 in
theorem p_hold_out {l : Launch} {D : va_G} {ids : List Nat} {ad : Nat → Nat} {ca : Nat → ClassId} {σ : HS} {p0 : Int32} (hid : ∀ i, i < 277 → i ∈ ids) (ho : p0 < 0 ∨ 3 ≤ p0) : Ki l D ids ad ca yX11_hold cX11_hold 2 .boolean 0 0 [.ref (ad 0), .int p0] σ (fun r σ1 => r = 0 ∧ keepM σ σ1) := by
  refine Ki.of (by decide) (Nat.le_of_ble_eq_true rfl) 0 (fun Γ C Rt => ?_)
  show AW ids ad ca Γ 0 [some (.ref (ad 0)), some (.int p0)] [] σ
  refine a_iload_n C dX11_hold_0 (i := 1) rfl rfl ?_
  refine a_if_lt C dX11_hold_1 (tgt := 9) rfl (fun c1 => ?_) (fun c1 => ?_)
  ·
    refine a_iconst C dX11_hold_9 (v := 0) rfl ?_
    exact a_iret Rt dX11_hold_10 rfl (⟨rfl, keepM.rf⟩)
  ·
    refine a_iload_n C dX11_hold_4 (i := 1) rfl rfl ?_
    refine a_iconst C dX11_hold_5 (v := 3) rfl ?_
    refine a_ic_lt C dX11_hold_6 (tgt := 11) rfl (fun c2 => absurd c2 (Int32.not_lt.mpr (ho.resolve_left c1))) (fun c2 => ?_)
    refine a_iconst C dX11_hold_9 (v := 0) rfl ?_
    exact a_iret Rt dX11_hold_10 rfl (⟨rfl, keepM.rf⟩)
set_option maxHeartbeats 4000000 in
set_option maxRecDepth 100000 in
theorem p_restore_out {l : Launch} {D : va_G} {ids : List Nat} {ad : Nat → Nat} {ca : Nat → ClassId} {σ : HS} {p0 : Int32} (hid : ∀ i, i < 277 → i ∈ ids) (ho : p0 < 0 ∨ 3 ≤ p0) : Ki l D ids ad ca yX11_restore cX11_restore 2 .boolean 0 0 [.ref (ad 0), .int p0] σ (fun r σ1 => r = 0 ∧ keepM σ σ1) := by
  refine Ki.of (by decide) (Nat.le_of_ble_eq_true rfl) 0 (fun Γ C Rt => ?_)
  show AW ids ad ca Γ 0 [some (.ref (ad 0)), some (.int p0)] [] σ
  refine a_iload_n C dX11_restore_0 (i := 1) rfl rfl ?_
  refine a_if_lt C dX11_restore_1 (tgt := 18) rfl (fun c1 => ?_) (fun c1 => ?_)
  ·
    refine a_iconst C dX11_restore_18 (v := 0) rfl ?_
    exact a_iret Rt dX11_restore_19 rfl (⟨rfl, keepM.rf⟩)
  ·
    refine a_iload_n C dX11_restore_4 (i := 1) rfl rfl ?_
    refine a_iconst C dX11_restore_5 (v := 3) rfl ?_
    refine a_ic_ge C dX11_restore_6 (tgt := 18) rfl (fun c2 => ?_) (fun c2 => absurd c2 (fun q => q (ho.resolve_left c1)))
    refine a_iconst C dX11_restore_18 (v := 0) rfl ?_
    exact a_iret Rt dX11_restore_19 rfl (⟨rfl, keepM.rf⟩)
