theorem dX12_thing_0 : decode cX12_thing 0 = .ok (.aload_n 0, 1) := by decide +kernel
theorem dX12_thing_1 : decode cX12_thing 1 = .ok (.iload_n 1, 1) := by decide +kernel
theorem dX12_thing_2 : decode cX12_thing 2 = .ok (.invokevirtual 390, 3) := by decide +kernel
theorem dX12_thing_5 : decode cX12_thing 5 = .ok (.ifCond .ne 5, 3) := by decide +kernel
theorem dX12_thing_8 : decode cX12_thing 8 = .ok (.iconst (-1), 1) := by decide +kernel
theorem dX12_thing_9 : decode cX12_thing 9 = .ok (.ireturn, 1) := by decide +kernel
set_option maxHeartbeats 4000000 in
set_option maxRecDepth 100000 in
theorem q_thing {l : Launch} {D : va_G} {ids : List Nat} {ad : Nat → Nat} {ca : Nat → ClassId} {σ : HS} {p0 : Int32} {p1 : Int32} (hid : ∀ i, i < 277 → i ∈ ids) (h_236_18 : σ.1 236 18 = 0) (h_245_0 : σ.1 245 0 = 0) : Ki l D ids ad ca yX12_thing cX12_thing 3 .int 2 43 [.ref (ad 236), .int p0, .int p1] σ (fun r _ => r = (-1)) := by
  refine Ki.of (by decide) (Nat.le_of_ble_eq_true rfl) 0 (fun Γ C Rt => ?_)
  show AW ids ad ca Γ 0 [some (.ref (ad 236)), some (.int p0), some (.int p1)] [] σ
  refine a_aload_n C dX12_thing_0 (i := 0) rfl rfl ?_
  refine a_iload_n C dX12_thing_1 (i := 1) rfl rfl ?_
  refine a_callVi C (i := 236) kd_236 (hid 236 (by decide)) ⟨_, _, rfl⟩ (by decide) (m_isThing hid h_236_18 h_245_0) mi_X12_isThing ml_RX12_390 rfl rfl (Nat.le_of_ble_eq_true rfl) (Nat.le_of_ble_eq_true rfl) (Nat.le_of_ble_eq_true rfl) dX12_thing_2 (fun r1 σ2 q3 => ?_)
  obtain ⟨rfl, q3⟩ := q3
  rw [q3]
  refine a_if_ne C dX12_thing_5 (tgt := 10) rfl (fun h => absurd h (by decide)) (fun _ => ?_)
  refine a_iconst C dX12_thing_8 (v := (-1)) rfl ?_
  exact a_iret Rt dX12_thing_9 rfl (rfl)
theorem dX12_pattern_0 : decode cX12_pattern 0 = .ok (.aload_n 0, 1) := by decide +kernel
theorem dX12_pattern_1 : decode cX12_pattern 1 = .ok (.iload_n 1, 1) := by decide +kernel
theorem dX12_pattern_2 : decode cX12_pattern 2 = .ok (.invokevirtual 393, 3) := by decide +kernel
theorem dX12_pattern_5 : decode cX12_pattern 5 = .ok (.ifCond .eq 18, 3) := by decide +kernel
theorem dX12_pattern_23 : decode cX12_pattern 23 = .ok (.iconst (-1), 1) := by decide +kernel
theorem dX12_pattern_24 : decode cX12_pattern 24 = .ok (.ireturn, 1) := by decide +kernel
set_option maxHeartbeats 4000000 in
set_option maxRecDepth 100000 in
theorem q_pattern {l : Launch} {D : va_G} {ids : List Nat} {ad : Nat → Nat} {ca : Nat → ClassId} {σ : HS} {p0 : Int32} {p1 : Int32} (hid : ∀ i, i < 277 → i ∈ ids) (h_236_18 : σ.1 236 18 = 0) (h_249_0 : σ.1 249 0 = 0) : Ki l D ids ad ca yX12_pattern cX12_pattern 3 .int 2 43 [.ref (ad 236), .int p0, .int p1] σ (fun r _ => r = (-1)) := by
  refine Ki.of (by decide) (Nat.le_of_ble_eq_true rfl) 0 (fun Γ C Rt => ?_)
  show AW ids ad ca Γ 0 [some (.ref (ad 236)), some (.int p0), some (.int p1)] [] σ
  refine a_aload_n C dX12_pattern_0 (i := 0) rfl rfl ?_
  refine a_iload_n C dX12_pattern_1 (i := 1) rfl rfl ?_
  refine a_callVi C (i := 236) kd_236 (hid 236 (by decide)) ⟨_, _, rfl⟩ (by decide) (m_isPattern hid h_236_18 h_249_0) mi_X12_isPattern ml_RX12_393 rfl rfl (Nat.le_of_ble_eq_true rfl) (Nat.le_of_ble_eq_true rfl) (Nat.le_of_ble_eq_true rfl) dX12_pattern_2 (fun r1 σ2 q3 => ?_)
  obtain ⟨rfl, q3⟩ := q3
  rw [q3]
  refine a_if_eq C dX12_pattern_5 (tgt := 23) rfl (fun _ => ?_) (fun h => absurd h (by decide))
  refine a_iconst C dX12_pattern_23 (v := (-1)) rfl ?_
  exact a_iret Rt dX12_pattern_24 rfl (rfl)
theorem dX12_tells_0 : decode cX12_tells 0 = .ok (.aload_n 0, 1) := by decide +kernel
theorem dX12_tells_1 : decode cX12_tells 1 = .ok (.iload_n 1, 1) := by decide +kernel
theorem dX12_tells_2 : decode cX12_tells 2 = .ok (.invokevirtual 390, 3) := by decide +kernel
theorem dX12_tells_5 : decode cX12_tells 5 = .ok (.ifCond .eq 27, 3) := by decide +kernel
theorem dX12_tells_32 : decode cX12_tells 32 = .ok (.bipush (-100), 2) := by decide +kernel
theorem dX12_tells_34 : decode cX12_tells 34 = .ok (.ireturn, 1) := by decide +kernel
set_option maxHeartbeats 4000000 in
set_option maxRecDepth 100000 in
theorem q_tells {l : Launch} {D : va_G} {ids : List Nat} {ad : Nat → Nat} {ca : Nat → ClassId} {σ : HS} {p0 : Int32} {p1 : Int32} {p2 : Int32} (hid : ∀ i, i < 277 → i ∈ ids) (h_236_18 : σ.1 236 18 = 0) (h_245_0 : σ.1 245 0 = 0) : Ki l D ids ad ca yX12_tells cX12_tells 5 .int 2 43 [.ref (ad 236), .int p0, .int p1, .int p2] σ (fun r _ => r = (-100)) := by
  refine Ki.of (by decide) (Nat.le_of_ble_eq_true rfl) 1 (fun Γ C Rt => ?_)
  show AW ids ad ca Γ 0 [some (.ref (ad 236)), some (.int p0), some (.int p1), some (.int p2), none] [] σ
  refine a_aload_n C dX12_tells_0 (i := 0) rfl rfl ?_
  refine a_iload_n C dX12_tells_1 (i := 1) rfl rfl ?_
  refine a_callVi C (i := 236) kd_236 (hid 236 (by decide)) ⟨_, _, rfl⟩ (by decide) (m_isThing hid h_236_18 h_245_0) mi_X12_isThing ml_RX12_390 rfl rfl (Nat.le_of_ble_eq_true rfl) (Nat.le_of_ble_eq_true rfl) (Nat.le_of_ble_eq_true rfl) dX12_tells_2 (fun r1 σ2 q3 => ?_)
  obtain ⟨rfl, q3⟩ := q3
  rw [q3]
  refine a_if_eq C dX12_tells_5 (tgt := 32) rfl (fun _ => ?_) (fun h => absurd h (by decide))
  refine a_bipush C dX12_tells_32 (v := (-100)) rfl ?_
  exact a_iret Rt dX12_tells_34 rfl (rfl)
theorem dX12_throwIn_0 : decode cX12_throwIn 0 = .ok (.aload_n 0, 1) := by decide +kernel
theorem dX12_throwIn_1 : decode cX12_throwIn 1 = .ok (.iload_n 1, 1) := by decide +kernel
theorem dX12_throwIn_2 : decode cX12_throwIn 2 = .ok (.invokevirtual 390, 3) := by decide +kernel
theorem dX12_throwIn_5 : decode cX12_throwIn 5 = .ok (.ifCond .eq 22, 3) := by decide +kernel
theorem dX12_throwIn_27 : decode cX12_throwIn 27 = .ok (.iconst 0, 1) := by decide +kernel
theorem dX12_throwIn_28 : decode cX12_throwIn 28 = .ok (.ireturn, 1) := by decide +kernel
set_option maxHeartbeats 4000000 in
set_option maxRecDepth 100000 in
theorem q_throwIn {l : Launch} {D : va_G} {ids : List Nat} {ad : Nat → Nat} {ca : Nat → ClassId} {σ : HS} {p0 : Int32} {p1 : Int32} (hid : ∀ i, i < 277 → i ∈ ids) (h_236_18 : σ.1 236 18 = 0) (h_245_0 : σ.1 245 0 = 0) : Ki l D ids ad ca yX12_throwIn cX12_throwIn 3 .boolean 2 43 [.ref (ad 236), .int p0, .int p1] σ (fun r _ => r = 0) := by
  refine Ki.of (by decide) (Nat.le_of_ble_eq_true rfl) 0 (fun Γ C Rt => ?_)
  show AW ids ad ca Γ 0 [some (.ref (ad 236)), some (.int p0), some (.int p1)] [] σ
  refine a_aload_n C dX12_throwIn_0 (i := 0) rfl rfl ?_
  refine a_iload_n C dX12_throwIn_1 (i := 1) rfl rfl ?_
  refine a_callVi C (i := 236) kd_236 (hid 236 (by decide)) ⟨_, _, rfl⟩ (by decide) (m_isThing hid h_236_18 h_245_0) mi_X12_isThing ml_RX12_390 rfl rfl (Nat.le_of_ble_eq_true rfl) (Nat.le_of_ble_eq_true rfl) (Nat.le_of_ble_eq_true rfl) dX12_throwIn_2 (fun r1 σ2 q3 => ?_)
  obtain ⟨rfl, q3⟩ := q3
  rw [q3]
  refine a_if_eq C dX12_throwIn_5 (tgt := 27) rfl (fun _ => ?_) (fun h => absurd h (by decide))
  refine a_iconst C dX12_throwIn_27 (v := 0) rfl ?_
  exact a_iret Rt dX12_throwIn_28 rfl (rfl)
theorem dX12_use_0 : decode cX12_use 0 = .ok (.aload_n 0, 1) := by decide +kernel
theorem dX12_use_1 : decode cX12_use 1 = .ok (.iload_n 1, 1) := by decide +kernel
theorem dX12_use_2 : decode cX12_use 2 = .ok (.invokevirtual 393, 3) := by decide +kernel
theorem dX12_use_5 : decode cX12_use 5 = .ok (.ifCond .ne 5, 3) := by decide +kernel
theorem dX12_use_8 : decode cX12_use 8 = .ok (.iconst 0, 1) := by decide +kernel
theorem dX12_use_9 : decode cX12_use 9 = .ok (.ireturn, 1) := by decide +kernel
set_option maxHeartbeats 4000000 in
set_option maxRecDepth 100000 in
theorem q_use {l : Launch} {D : va_G} {ids : List Nat} {ad : Nat → Nat} {ca : Nat → ClassId} {σ : HS} {p0 : Int32} (hid : ∀ i, i < 277 → i ∈ ids) (h_236_18 : σ.1 236 18 = 0) (h_249_0 : σ.1 249 0 = 0) : Ki l D ids ad ca yX12_use cX12_use 2 .boolean 2 43 [.ref (ad 236), .int p0] σ (fun r _ => r = 0) := by
  refine Ki.of (by decide) (Nat.le_of_ble_eq_true rfl) 0 (fun Γ C Rt => ?_)
  show AW ids ad ca Γ 0 [some (.ref (ad 236)), some (.int p0)] [] σ
  refine a_aload_n C dX12_use_0 (i := 0) rfl rfl ?_
  refine a_iload_n C dX12_use_1 (i := 1) rfl rfl ?_
  refine a_callVi C (i := 236) kd_236 (hid 236 (by decide)) ⟨_, _, rfl⟩ (by decide) (m_isPattern hid h_236_18 h_249_0) mi_X12_isPattern ml_RX12_393 rfl rfl (Nat.le_of_ble_eq_true rfl) (Nat.le_of_ble_eq_true rfl) (Nat.le_of_ble_eq_true rfl) dX12_use_2 (fun r1 σ2 q3 => ?_)
  obtain ⟨rfl, q3⟩ := q3
  rw [q3]
  refine a_if_ne C dX12_use_5 (tgt := 10) rfl (fun h => absurd h (by decide)) (fun _ => ?_)
  refine a_iconst C dX12_use_8 (v := 0) rfl ?_
  exact a_iret Rt dX12_use_9 rfl (rfl)
theorem dX12_closes_0 : decode cX12_closes 0 = .ok (.aload_n 0, 1) := by decide +kernel
theorem dX12_closes_1 : decode cX12_closes 1 = .ok (.iload_n 1, 1) := by decide +kernel
theorem dX12_closes_2 : decode cX12_closes 2 = .ok (.invokevirtual 393, 3) := by decide +kernel
theorem dX12_closes_5 : decode cX12_closes 5 = .ok (.ifCond .eq 24, 3) := by decide +kernel
theorem dX12_closes_29 : decode cX12_closes 29 = .ok (.iconst (-1), 1) := by decide +kernel
theorem dX12_closes_30 : decode cX12_closes 30 = .ok (.ireturn, 1) := by decide +kernel
set_option maxHeartbeats 4000000 in
set_option maxRecDepth 100000 in
theorem q_closes {l : Launch} {D : va_G} {ids : List Nat} {ad : Nat → Nat} {ca : Nat → ClassId} {σ : HS} {p0 : Int32} {p1 : Int32} (hid : ∀ i, i < 277 → i ∈ ids) (h_236_18 : σ.1 236 18 = 0) (h_249_0 : σ.1 249 0 = 0) : Ki l D ids ad ca yX12_closes cX12_closes 3 .int 2 43 [.ref (ad 236), .int p0, .int p1] σ (fun r _ => r = (-1)) := by
  refine Ki.of (by decide) (Nat.le_of_ble_eq_true rfl) 0 (fun Γ C Rt => ?_)
  show AW ids ad ca Γ 0 [some (.ref (ad 236)), some (.int p0), some (.int p1)] [] σ
  refine a_aload_n C dX12_closes_0 (i := 0) rfl rfl ?_
  refine a_iload_n C dX12_closes_1 (i := 1) rfl rfl ?_
  refine a_callVi C (i := 236) kd_236 (hid 236 (by decide)) ⟨_, _, rfl⟩ (by decide) (m_isPattern hid h_236_18 h_249_0) mi_X12_isPattern ml_RX12_393 rfl rfl (Nat.le_of_ble_eq_true rfl) (Nat.le_of_ble_eq_true rfl) (Nat.le_of_ble_eq_true rfl) dX12_closes_2 (fun r1 σ2 q3 => ?_)
  obtain ⟨rfl, q3⟩ := q3
  rw [q3]
  refine a_if_eq C dX12_closes_5 (tgt := 29) rfl (fun _ => ?_) (fun h => absurd h (by decide))
  refine a_iconst C dX12_closes_29 (v := (-1)) rfl ?_
  exact a_iret Rt dX12_closes_30 rfl (rfl)
theorem dX12_joined_0 : decode cX12_joined 0 = .ok (.aload_n 0, 1) := by decide +kernel
theorem dX12_joined_1 : decode cX12_joined 1 = .ok (.iload_n 1, 1) := by decide +kernel
theorem dX12_joined_2 : decode cX12_joined 2 = .ok (.invokevirtual 393, 3) := by decide +kernel
theorem dX12_joined_5 : decode cX12_joined 5 = .ok (.ifCond .eq 20, 3) := by decide +kernel
theorem dX12_joined_25 : decode cX12_joined 25 = .ok (.iconst (-1), 1) := by decide +kernel
theorem dX12_joined_26 : decode cX12_joined 26 = .ok (.ireturn, 1) := by decide +kernel
set_option maxHeartbeats 4000000 in
set_option maxRecDepth 100000 in
theorem q_joined {l : Launch} {D : va_G} {ids : List Nat} {ad : Nat → Nat} {ca : Nat → ClassId} {σ : HS} {p0 : Int32} {p1 : Int32} {p2 : Int32} (hid : ∀ i, i < 277 → i ∈ ids) (h_236_18 : σ.1 236 18 = 0) (h_249_0 : σ.1 249 0 = 0) : Ki l D ids ad ca yX12_joined cX12_joined 4 .int 2 43 [.ref (ad 236), .int p0, .int p1, .int p2] σ (fun r _ => r = (-1)) := by
  refine Ki.of (by decide) (Nat.le_of_ble_eq_true rfl) 0 (fun Γ C Rt => ?_)
  show AW ids ad ca Γ 0 [some (.ref (ad 236)), some (.int p0), some (.int p1), some (.int p2)] [] σ
  refine a_aload_n C dX12_joined_0 (i := 0) rfl rfl ?_
  refine a_iload_n C dX12_joined_1 (i := 1) rfl rfl ?_
  refine a_callVi C (i := 236) kd_236 (hid 236 (by decide)) ⟨_, _, rfl⟩ (by decide) (m_isPattern hid h_236_18 h_249_0) mi_X12_isPattern ml_RX12_393 rfl rfl (Nat.le_of_ble_eq_true rfl) (Nat.le_of_ble_eq_true rfl) (Nat.le_of_ble_eq_true rfl) dX12_joined_2 (fun r1 σ2 q3 => ?_)
  obtain ⟨rfl, q3⟩ := q3
  rw [q3]
  refine a_if_eq C dX12_joined_5 (tgt := 25) rfl (fun _ => ?_) (fun h => absurd h (by decide))
  refine a_iconst C dX12_joined_25 (v := (-1)) rfl ?_
  exact a_iret Rt dX12_joined_26 rfl (rfl)
theorem dX12_turned_0 : decode cX12_turned 0 = .ok (.aload_n 0, 1) := by decide +kernel
theorem dX12_turned_1 : decode cX12_turned 1 = .ok (.iload_n 1, 1) := by decide +kernel
theorem dX12_turned_2 : decode cX12_turned 2 = .ok (.invokevirtual 393, 3) := by decide +kernel
theorem dX12_turned_5 : decode cX12_turned 5 = .ok (.ifCond .eq 11, 3) := by decide +kernel
theorem dX12_turned_16 : decode cX12_turned 16 = .ok (.iconst (-1), 1) := by decide +kernel
theorem dX12_turned_17 : decode cX12_turned 17 = .ok (.ireturn, 1) := by decide +kernel
set_option maxHeartbeats 4000000 in
set_option maxRecDepth 100000 in
theorem q_turned {l : Launch} {D : va_G} {ids : List Nat} {ad : Nat → Nat} {ca : Nat → ClassId} {σ : HS} {p0 : Int32} {p1 : Int32} (hid : ∀ i, i < 277 → i ∈ ids) (h_236_18 : σ.1 236 18 = 0) (h_249_0 : σ.1 249 0 = 0) : Ki l D ids ad ca yX12_turned cX12_turned 4 .int 2 43 [.ref (ad 236), .int p0, .int p1] σ (fun r _ => r = (-1)) := by
  refine Ki.of (by decide) (Nat.le_of_ble_eq_true rfl) 1 (fun Γ C Rt => ?_)
  show AW ids ad ca Γ 0 [some (.ref (ad 236)), some (.int p0), some (.int p1), none] [] σ
  refine a_aload_n C dX12_turned_0 (i := 0) rfl rfl ?_
  refine a_iload_n C dX12_turned_1 (i := 1) rfl rfl ?_
  refine a_callVi C (i := 236) kd_236 (hid 236 (by decide)) ⟨_, _, rfl⟩ (by decide) (m_isPattern hid h_236_18 h_249_0) mi_X12_isPattern ml_RX12_393 rfl rfl (Nat.le_of_ble_eq_true rfl) (Nat.le_of_ble_eq_true rfl) (Nat.le_of_ble_eq_true rfl) dX12_turned_2 (fun r1 σ2 q3 => ?_)
  obtain ⟨rfl, q3⟩ := q3
  rw [q3]
  refine a_if_eq C dX12_turned_5 (tgt := 16) rfl (fun _ => ?_) (fun h => absurd h (by decide))
  refine a_iconst C dX12_turned_16 (v := (-1)) rfl ?_
  exact a_iret Rt dX12_turned_17 rfl (rfl)
theorem dX12_span_0 : decode cX12_span 0 = .ok (.aload_n 0, 1) := by decide +kernel
theorem dX12_span_1 : decode cX12_span 1 = .ok (.iload_n 1, 1) := by decide +kernel
theorem dX12_span_2 : decode cX12_span 2 = .ok (.invokevirtual 393, 3) := by decide +kernel
theorem dX12_span_5 : decode cX12_span 5 = .ok (.ifCond .ne 5, 3) := by decide +kernel
theorem dX12_span_8 : decode cX12_span 8 = .ok (.iconst (-1), 1) := by decide +kernel
theorem dX12_span_9 : decode cX12_span 9 = .ok (.ireturn, 1) := by decide +kernel
set_option maxHeartbeats 4000000 in
set_option maxRecDepth 100000 in
theorem q_span {l : Launch} {D : va_G} {ids : List Nat} {ad : Nat → Nat} {ca : Nat → ClassId} {σ : HS} {p0 : Int32} (hid : ∀ i, i < 277 → i ∈ ids) (h_236_18 : σ.1 236 18 = 0) (h_249_0 : σ.1 249 0 = 0) : Ki l D ids ad ca yX12_span cX12_span 4 .int 2 43 [.ref (ad 236), .int p0] σ (fun r _ => r = (-1)) := by
  refine Ki.of (by decide) (Nat.le_of_ble_eq_true rfl) 2 (fun Γ C Rt => ?_)
  show AW ids ad ca Γ 0 [some (.ref (ad 236)), some (.int p0), none, none] [] σ
  refine a_aload_n C dX12_span_0 (i := 0) rfl rfl ?_
  refine a_iload_n C dX12_span_1 (i := 1) rfl rfl ?_
  refine a_callVi C (i := 236) kd_236 (hid 236 (by decide)) ⟨_, _, rfl⟩ (by decide) (m_isPattern hid h_236_18 h_249_0) mi_X12_isPattern ml_RX12_393 rfl rfl (Nat.le_of_ble_eq_true rfl) (Nat.le_of_ble_eq_true rfl) (Nat.le_of_ble_eq_true rfl) dX12_span_2 (fun r1 σ2 q3 => ?_)
  obtain ⟨rfl, q3⟩ := q3
  rw [q3]
  refine a_if_ne C dX12_span_5 (tgt := 10) rfl (fun h => absurd h (by decide)) (fun _ => ?_)
  refine a_iconst C dX12_span_8 (v := (-1)) rfl ?_
  exact a_iret Rt dX12_span_9 rfl (rfl)
theorem dX12_orbits_0 : decode cX12_orbits 0 = .ok (.aload_n 0, 1) := by decide +kernel
theorem dX12_orbits_1 : decode cX12_orbits 1 = .ok (.iload_n 1, 1) := by decide +kernel
theorem dX12_orbits_2 : decode cX12_orbits 2 = .ok (.invokevirtual 393, 3) := by decide +kernel
theorem dX12_orbits_5 : decode cX12_orbits 5 = .ok (.ifCond .ne 5, 3) := by decide +kernel
theorem dX12_orbits_8 : decode cX12_orbits 8 = .ok (.iconst (-1), 1) := by decide +kernel
theorem dX12_orbits_9 : decode cX12_orbits 9 = .ok (.ireturn, 1) := by decide +kernel
set_option maxHeartbeats 4000000 in
set_option maxRecDepth 100000 in
theorem q_orbits {l : Launch} {D : va_G} {ids : List Nat} {ad : Nat → Nat} {ca : Nat → ClassId} {σ : HS} {p0 : Int32} (hid : ∀ i, i < 277 → i ∈ ids) (h_236_18 : σ.1 236 18 = 0) (h_249_0 : σ.1 249 0 = 0) : Ki l D ids ad ca yX12_orbits cX12_orbits 6 .int 2 43 [.ref (ad 236), .int p0] σ (fun r _ => r = (-1)) := by
  refine Ki.of (by decide) (Nat.le_of_ble_eq_true rfl) 4 (fun Γ C Rt => ?_)
  show AW ids ad ca Γ 0 [some (.ref (ad 236)), some (.int p0), none, none, none, none] [] σ
  refine a_aload_n C dX12_orbits_0 (i := 0) rfl rfl ?_
  refine a_iload_n C dX12_orbits_1 (i := 1) rfl rfl ?_
  refine a_callVi C (i := 236) kd_236 (hid 236 (by decide)) ⟨_, _, rfl⟩ (by decide) (m_isPattern hid h_236_18 h_249_0) mi_X12_isPattern ml_RX12_393 rfl rfl (Nat.le_of_ble_eq_true rfl) (Nat.le_of_ble_eq_true rfl) (Nat.le_of_ble_eq_true rfl) dX12_orbits_2 (fun r1 σ2 q3 => ?_)
  obtain ⟨rfl, q3⟩ := q3
  rw [q3]
  refine a_if_ne C dX12_orbits_5 (tgt := 10) rfl (fun h => absurd h (by decide)) (fun _ => ?_)
  refine a_iconst C dX12_orbits_8 (v := (-1)) rfl ?_
  exact a_iret Rt dX12_orbits_9 rfl (rfl)
theorem dX12_swaps_0 : decode cX12_swaps 0 = .ok (.aload_n 0, 1) := by decide +kernel
theorem dX12_swaps_1 : decode cX12_swaps 1 = .ok (.iload_n 1, 1) := by decide +kernel
theorem dX12_swaps_2 : decode cX12_swaps 2 = .ok (.invokevirtual 393, 3) := by decide +kernel
theorem dX12_swaps_5 : decode cX12_swaps 5 = .ok (.ifCond .ne 5, 3) := by decide +kernel
theorem dX12_swaps_8 : decode cX12_swaps 8 = .ok (.iconst (-1), 1) := by decide +kernel
theorem dX12_swaps_9 : decode cX12_swaps 9 = .ok (.ireturn, 1) := by decide +kernel
set_option maxHeartbeats 4000000 in
set_option maxRecDepth 100000 in
theorem q_swaps {l : Launch} {D : va_G} {ids : List Nat} {ad : Nat → Nat} {ca : Nat → ClassId} {σ : HS} {p0 : Int32} (hid : ∀ i, i < 277 → i ∈ ids) (h_236_18 : σ.1 236 18 = 0) (h_249_0 : σ.1 249 0 = 0) : Ki l D ids ad ca yX12_swaps cX12_swaps 5 .int 2 43 [.ref (ad 236), .int p0] σ (fun r _ => r = (-1)) := by
  refine Ki.of (by decide) (Nat.le_of_ble_eq_true rfl) 3 (fun Γ C Rt => ?_)
  show AW ids ad ca Γ 0 [some (.ref (ad 236)), some (.int p0), none, none, none] [] σ
  refine a_aload_n C dX12_swaps_0 (i := 0) rfl rfl ?_
  refine a_iload_n C dX12_swaps_1 (i := 1) rfl rfl ?_
  refine a_callVi C (i := 236) kd_236 (hid 236 (by decide)) ⟨_, _, rfl⟩ (by decide) (m_isPattern hid h_236_18 h_249_0) mi_X12_isPattern ml_RX12_393 rfl rfl (Nat.le_of_ble_eq_true rfl) (Nat.le_of_ble_eq_true rfl) (Nat.le_of_ble_eq_true rfl) dX12_swaps_2 (fun r1 σ2 q3 => ?_)
  obtain ⟨rfl, q3⟩ := q3
  rw [q3]
  refine a_if_ne C dX12_swaps_5 (tgt := 10) rfl (fun h => absurd h (by decide)) (fun _ => ?_)
  refine a_iconst C dX12_swaps_8 (v := (-1)) rfl ?_
  exact a_iret Rt dX12_swaps_9 rfl (rfl)
theorem dX12_into_0 : decode cX12_into 0 = .ok (.aload_n 0, 1) := by decide +kernel
theorem dX12_into_1 : decode cX12_into 1 = .ok (.iload_n 1, 1) := by decide +kernel
theorem dX12_into_2 : decode cX12_into 2 = .ok (.invokevirtual 393, 3) := by decide +kernel
theorem dX12_into_5 : decode cX12_into 5 = .ok (.ifCond .eq 16, 3) := by decide +kernel
theorem dX12_into_21 : decode cX12_into 21 = .ok (.iconst (-1), 1) := by decide +kernel
theorem dX12_into_22 : decode cX12_into 22 = .ok (.ireturn, 1) := by decide +kernel
set_option maxHeartbeats 4000000 in
set_option maxRecDepth 100000 in
theorem q_into {l : Launch} {D : va_G} {ids : List Nat} {ad : Nat → Nat} {ca : Nat → ClassId} {σ : HS} {p0 : Int32} {p1 : Int32} (hid : ∀ i, i < 277 → i ∈ ids) (h_236_18 : σ.1 236 18 = 0) (h_249_0 : σ.1 249 0 = 0) : Ki l D ids ad ca yX12_into cX12_into 5 .int 2 43 [.ref (ad 236), .int p0, .int p1] σ (fun r _ => r = (-1)) := by
  refine Ki.of (by decide) (Nat.le_of_ble_eq_true rfl) 2 (fun Γ C Rt => ?_)
  show AW ids ad ca Γ 0 [some (.ref (ad 236)), some (.int p0), some (.int p1), none, none] [] σ
  refine a_aload_n C dX12_into_0 (i := 0) rfl rfl ?_
  refine a_iload_n C dX12_into_1 (i := 1) rfl rfl ?_
  refine a_callVi C (i := 236) kd_236 (hid 236 (by decide)) ⟨_, _, rfl⟩ (by decide) (m_isPattern hid h_236_18 h_249_0) mi_X12_isPattern ml_RX12_393 rfl rfl (Nat.le_of_ble_eq_true rfl) (Nat.le_of_ble_eq_true rfl) (Nat.le_of_ble_eq_true rfl) dX12_into_2 (fun r1 σ2 q3 => ?_)
  obtain ⟨rfl, q3⟩ := q3
  rw [q3]
  refine a_if_eq C dX12_into_5 (tgt := 21) rfl (fun _ => ?_) (fun h => absurd h (by decide))
  refine a_iconst C dX12_into_21 (v := (-1)) rfl ?_
  exact a_iret Rt dX12_into_22 rfl (rfl)
theorem dX12_room_0 : decode cX12_room 0 = .ok (.aload_n 0, 1) := by decide +kernel
theorem dX12_room_1 : decode cX12_room 1 = .ok (.iload_n 1, 1) := by decide +kernel
theorem dX12_room_2 : decode cX12_room 2 = .ok (.invokevirtual 390, 3) := by decide +kernel
theorem dX12_room_5 : decode cX12_room 5 = .ok (.ifCond .eq 12, 3) := by decide +kernel
theorem dX12_room_17 : decode cX12_room 17 = .ok (.iconst (-1), 1) := by decide +kernel
theorem dX12_room_18 : decode cX12_room 18 = .ok (.ireturn, 1) := by decide +kernel
set_option maxHeartbeats 4000000 in
set_option maxRecDepth 100000 in
theorem q_room {l : Launch} {D : va_G} {ids : List Nat} {ad : Nat → Nat} {ca : Nat → ClassId} {σ : HS} {p0 : Int32} (hid : ∀ i, i < 277 → i ∈ ids) (h_236_18 : σ.1 236 18 = 0) (h_245_0 : σ.1 245 0 = 0) : Ki l D ids ad ca yX12_room cX12_room 3 .int 2 43 [.ref (ad 236), .int p0] σ (fun r _ => r = (-1)) := by
  refine Ki.of (by decide) (Nat.le_of_ble_eq_true rfl) 1 (fun Γ C Rt => ?_)
  show AW ids ad ca Γ 0 [some (.ref (ad 236)), some (.int p0), none] [] σ
  refine a_aload_n C dX12_room_0 (i := 0) rfl rfl ?_
  refine a_iload_n C dX12_room_1 (i := 1) rfl rfl ?_
  refine a_callVi C (i := 236) kd_236 (hid 236 (by decide)) ⟨_, _, rfl⟩ (by decide) (m_isThing hid h_236_18 h_245_0) mi_X12_isThing ml_RX12_390 rfl rfl (Nat.le_of_ble_eq_true rfl) (Nat.le_of_ble_eq_true rfl) (Nat.le_of_ble_eq_true rfl) dX12_room_2 (fun r1 σ2 q3 => ?_)
  obtain ⟨rfl, q3⟩ := q3
  rw [q3]
  refine a_if_eq C dX12_room_5 (tgt := 17) rfl (fun _ => ?_) (fun h => absurd h (by decide))
  refine a_iconst C dX12_room_17 (v := (-1)) rfl ?_
  exact a_iret Rt dX12_room_18 rfl (rfl)
theorem dX12_place_0 : decode cX12_place 0 = .ok (.aload_n 0, 1) := by decide +kernel
theorem dX12_place_1 : decode cX12_place 1 = .ok (.getfield 37, 3) := by decide +kernel
theorem dX12_place_4 : decode cX12_place 4 = .ok (.ireturn, 1) := by decide +kernel
set_option maxHeartbeats 4000000 in
set_option maxRecDepth 100000 in
theorem q_place {l : Launch} {D : va_G} {ids : List Nat} {ad : Nat → Nat} {ca : Nat → ClassId} {σ : HS} (hid : ∀ i, i < 277 → i ∈ ids) (h_236_17 : σ.1 236 17 = (-1)) : Ki l D ids ad ca yX12_place cX12_place 1 .int 0 0 [.ref (ad 236)] σ (fun r _ => r = (-1)) := by
  refine Ki.of (by decide) (Nat.le_of_ble_eq_true rfl) 0 (fun Γ C Rt => ?_)
  show AW ids ad ca Γ 0 [some (.ref (ad 236))] [] σ
  refine a_aload_n C dX12_place_0 (i := 0) rfl rfl ?_
  refine a_get C fl_RX12_37 (i := 236) kd_236 (hid 236 (by decide)) (v := .int (-1)) (congrArg (fun z => some (Value.int z)) h_236_17) dX12_place_1 ?_
  exact a_iret Rt dX12_place_4 rfl (rfl)
theorem dX12_forget_0 : decode cX12_forget 0 = .ok (.aload_n 0, 1) := by decide +kernel
theorem dX12_forget_1 : decode cX12_forget 1 = .ok (.getfield 242, 3) := by decide +kernel
theorem dX12_forget_4 : decode cX12_forget 4 = .ok (.istore_n 1, 1) := by decide +kernel
theorem dX12_forget_5 : decode cX12_forget 5 = .ok (.aload_n 0, 1) := by decide +kernel
theorem dX12_forget_6 : decode cX12_forget 6 = .ok (.iconst 0, 1) := by decide +kernel
theorem dX12_forget_7 : decode cX12_forget 7 = .ok (.putfield 242, 3) := by decide +kernel
theorem dX12_forget_10 : decode cX12_forget 10 = .ok (.iload_n 1, 1) := by decide +kernel
theorem dX12_forget_11 : decode cX12_forget 11 = .ok (.ireturn, 1) := by decide +kernel
set_option maxHeartbeats 4000000 in
set_option maxRecDepth 100000 in
theorem q_forget {l : Launch} {D : va_G} {ids : List Nat} {ad : Nat → Nat} {ca : Nat → ClassId} {σ : HS} (hid : ∀ i, i < 277 → i ∈ ids) (h_236_60 : σ.1 236 60 = 0) : Ki l D ids ad ca yX12_forget cX12_forget 2 .int 0 0 [.ref (ad 236)] σ (fun r _ => r = 0) := by
  refine Ki.of (by decide) (Nat.le_of_ble_eq_true rfl) 1 (fun Γ C Rt => ?_)
  show AW ids ad ca Γ 0 [some (.ref (ad 236)), none] [] σ
  refine a_aload_n C dX12_forget_0 (i := 0) rfl rfl ?_
  refine a_get C fl_RX12_242 (i := 236) kd_236 (hid 236 (by decide)) (v := .int 0) (congrArg (fun z => some (Value.int z)) h_236_60) dX12_forget_1 ?_
  refine a_istore_n C dX12_forget_4 (i := 1) rfl (by decide) rfl (vs1 := [some (.ref (ad 236)), some (.int 0)]) rfl ?_
  refine a_aload_n C dX12_forget_5 (i := 0) rfl rfl ?_
  refine a_iconst C dX12_forget_6 (v := 0) rfl ?_
  refine a_put C fp_RX12_242 (i := 236) kd_236 (hid 236 (by decide)) rfl rfl dX12_forget_7 ?_
  refine a_iload_n C dX12_forget_10 (i := 1) rfl rfl ?_
  exact a_iret Rt dX12_forget_11 rfl (rfl)
theorem dX12_undo_0 : decode cX12_undo 0 = .ok (.aload_n 0, 1) := by decide +kernel
theorem dX12_undo_1 : decode cX12_undo 1 = .ok (.getfield 239, 3) := by decide +kernel
theorem dX12_undo_4 : decode cX12_undo 4 = .ok (.ifCond .ne 5, 3) := by decide +kernel
theorem dX12_undo_7 : decode cX12_undo 7 = .ok (.iconst 0, 1) := by decide +kernel
theorem dX12_undo_8 : decode cX12_undo 8 = .ok (.ireturn, 1) := by decide +kernel
set_option maxHeartbeats 4000000 in
set_option maxRecDepth 100000 in
theorem q_undo {l : Launch} {D : va_G} {ids : List Nat} {ad : Nat → Nat} {ca : Nat → ClassId} {σ : HS} (hid : ∀ i, i < 277 → i ∈ ids) (h_236_54 : σ.1 236 54 = 0) : Ki l D ids ad ca yX12_undo cX12_undo 2 .boolean 0 0 [.ref (ad 236)] σ (fun r _ => r = 0) := by
  refine Ki.of (by decide) (Nat.le_of_ble_eq_true rfl) 1 (fun Γ C Rt => ?_)
  show AW ids ad ca Γ 0 [some (.ref (ad 236)), none] [] σ
  refine a_aload_n C dX12_undo_0 (i := 0) rfl rfl ?_
  refine a_get C fl_RX12_239 (i := 236) kd_236 (hid 236 (by decide)) (v := .int 0) (congrArg (fun z => some (Value.int z)) h_236_54) dX12_undo_1 ?_
  refine a_if_ne C dX12_undo_4 (tgt := 9) rfl (fun h => absurd h (by decide)) (fun _ => ?_)
  refine a_iconst C dX12_undo_7 (v := 0) rfl ?_
  exact a_iret Rt dX12_undo_8 rfl (rfl)
theorem dX12_lands_0 : decode cX12_lands 0 = .ok (.aload_n 0, 1) := by decide +kernel
theorem dX12_lands_1 : decode cX12_lands 1 = .ok (.invokevirtual 311, 3) := by decide +kernel
theorem dX12_lands_4 : decode cX12_lands 4 = .ok (.iconst 0, 1) := by decide +kernel
theorem dX12_lands_5 : decode cX12_lands 5 = .ok (.istore_n 1, 1) := by decide +kernel
theorem dX12_lands_6 : decode cX12_lands 6 = .ok (.iconst 0, 1) := by decide +kernel
theorem dX12_lands_7 : decode cX12_lands 7 = .ok (.istore_n 2, 1) := by decide +kernel
theorem dX12_lands_8 : decode cX12_lands 8 = .ok (.iload_n 2, 1) := by decide +kernel
theorem dX12_lands_9 : decode cX12_lands 9 = .ok (.bipush 10, 2) := by decide +kernel
theorem dX12_lands_11 : decode cX12_lands 11 = .ok (.if_icmp .ge 23, 3) := by decide +kernel
theorem dX12_lands_14 : decode cX12_lands 14 = .ok (.aload_n 0, 1) := by decide +kernel
theorem dX12_lands_15 : decode cX12_lands 15 = .ok (.iload_n 2, 1) := by decide +kernel
theorem dX12_lands_16 : decode cX12_lands 16 = .ok (.invokevirtual 426, 3) := by decide +kernel
theorem dX12_lands_19 : decode cX12_lands 19 = .ok (.ifCond .le 9, 3) := by decide +kernel
theorem dX12_lands_28 : decode cX12_lands 28 = .ok (.iinc 2 1, 3) := by decide +kernel
theorem dX12_lands_31 : decode cX12_lands 31 = .ok (.goto (-23), 3) := by decide +kernel
theorem dX12_lands_34 : decode cX12_lands 34 = .ok (.iload_n 1, 1) := by decide +kernel
theorem dX12_lands_35 : decode cX12_lands 35 = .ok (.ireturn, 1) := by decide +kernel
set_option maxHeartbeats 4000000 in
set_option maxRecDepth 100000 in
theorem q_lands {l : Launch} {D : va_G} {ids : List Nat} {ad : Nat → Nat} {ca : Nat → ClassId} {σ : HS} (hid : ∀ i, i < 277 → i ∈ ids) (h_236_2 : σ.1 236 2 = 0) (h_236_18 : σ.1 236 18 = 0) (h_236_54 : σ.1 236 54 = 0) (h_236_60 : σ.1 236 60 = 0) (h_245_0 : σ.1 245 0 = 0) (h_253_0 : σ.1 253 0 = 0) (h_266_0 : σ.1 266 0 = 0) (h_266_1 : σ.1 266 1 = 0) (h_266_2 : σ.1 266 2 = 0) (h_266_3 : σ.1 266 3 = 0) (h_266_4 : σ.1 266 4 = 0) (h_266_5 : σ.1 266 5 = 0) (h_266_6 : σ.1 266 6 = 0) (h_266_7 : σ.1 266 7 = 0) (h_266_8 : σ.1 266 8 = 0) (h_266_9 : σ.1 266 9 = 0) (h_266_10 : σ.1 266 10 = 0) (h_266_11 : σ.1 266 11 = 0) (h_266_12 : σ.1 266 12 = 0) (h_266_13 : σ.1 266 13 = 0) (h_266_14 : σ.1 266 14 = 0) (h_266_15 : σ.1 266 15 = 0) (h_266_16 : σ.1 266 16 = 0) (h_266_17 : σ.1 266 17 = 0) (h_266_18 : σ.1 266 18 = 0) (h_266_19 : σ.1 266 19 = 0) (h_266_20 : σ.1 266 20 = 0) (h_266_21 : σ.1 266 21 = 0) (h_266_22 : σ.1 266 22 = 0) (h_266_23 : σ.1 266 23 = 0) (h_266_24 : σ.1 266 24 = 0) (h_266_25 : σ.1 266 25 = 0) (h_266_26 : σ.1 266 26 = (-2)) (h_266_27 : σ.1 266 27 = 0) (h_266_28 : σ.1 266 28 = (-1)) : Ki l D ids ad ca yX12_lands cX12_lands 3 .int 1 23 [.ref (ad 236)] σ (fun r _ => r = 0) := by
  refine Ki.of (by decide) (Nat.le_of_ble_eq_true rfl) 2 (fun Γ C Rt => ?_)
  show AW ids ad ca Γ 0 [some (.ref (ad 236)), none, none] [] σ
  refine a_aload_n C dX12_lands_0 (i := 0) rfl rfl ?_
  refine a_callVv C (i := 236) kd_236 (hid 236 (by decide)) ⟨_, _, rfl⟩ (by decide) (m_copies hid h_236_2 h_236_18 h_236_54 h_236_60 h_253_0 h_266_0 h_266_1 h_266_2 h_266_3 h_266_4 h_266_5 h_266_6 h_266_7 h_266_8 h_266_9 h_266_10 h_266_11 h_266_12 h_266_13 h_266_14 h_266_15 h_266_16 h_266_17 h_266_18 h_266_19 h_266_20 h_266_21 h_266_22 h_266_23 h_266_24 h_266_25 h_266_26 h_266_27 h_266_28) mi_X12_copies ml_RX12_311 rfl rfl (Nat.le_of_ble_eq_true rfl) (Nat.le_of_ble_eq_true rfl) (Nat.le_of_ble_eq_true rfl) dX12_lands_1 (fun σ2 q3 => ?_)
  refine a_iconst C dX12_lands_4 (v := 0) rfl ?_
  refine a_istore_n C dX12_lands_5 (i := 1) rfl (by decide) rfl (vs1 := [some (.ref (ad 236)), some (.int 0), none]) rfl ?_
  refine a_iconst C dX12_lands_6 (v := 0) rfl ?_
  refine a_istore_n C dX12_lands_7 (i := 2) rfl (by decide) rfl (vs1 := [some (.ref (ad 236)), some (.int 0), some (.int 0)]) rfl ?_
  refine a_iload_n C dX12_lands_8 (i := 2) rfl rfl ?_
  refine a_bipush C dX12_lands_9 (v := 10) rfl ?_
  refine a_ic_ge C dX12_lands_11 (tgt := 34) rfl (fun h => absurd h (by decide)) (fun _ => ?_)
  refine a_aload_n C dX12_lands_14 (i := 0) rfl rfl ?_
  refine a_iload_n C dX12_lands_15 (i := 2) rfl rfl ?_
  refine a_callVi C (i := 236) kd_236 (hid 236 (by decide)) ⟨_, _, rfl⟩ (by decide) (m_landsAt hid q3.2.2.2.2.2.2.2.2.2.2.2.2.2.2.2.2.2.2.2.2.2.2.2.2.2.2.2.2.2.2.1 ((congrFun (q3.1.1 245 (by decide)) 0).trans h_245_0)) mi_X12_landsAt ml_RX12_426 rfl rfl (Nat.le_of_ble_eq_true rfl) (Nat.le_of_ble_eq_true rfl) (Nat.le_of_ble_eq_true rfl) dX12_lands_16 (fun r4 σ5 q6 => ?_)
  obtain ⟨rfl, q6⟩ := q6
  rw [q6]
  refine a_if_le C dX12_lands_19 (tgt := 28) rfl (fun _ => ?_) (fun h => absurd h (by decide))
  refine a_iinc C dX12_lands_28 rfl (v := 1) rfl (by decide) rfl (vs1 := [some (.ref (ad 236)), some (.int 0), some (.int 1)]) rfl ?_
  refine a_goto C dX12_lands_31 (tgt := 8) rfl ?_
  refine a_iload_n C dX12_lands_8 (i := 2) rfl rfl ?_
  refine a_bipush C dX12_lands_9 (v := 10) rfl ?_
  refine a_ic_ge C dX12_lands_11 (tgt := 34) rfl (fun h => absurd h (by decide)) (fun _ => ?_)
  refine a_aload_n C dX12_lands_14 (i := 0) rfl rfl ?_
  refine a_iload_n C dX12_lands_15 (i := 2) rfl rfl ?_
  refine a_callVi C (i := 236) kd_236 (hid 236 (by decide)) ⟨_, _, rfl⟩ (by decide) (m_landsAt hid q3.2.2.2.2.2.2.2.2.2.2.2.2.2.2.2.2.2.2.2.2.2.2.2.2.2.2.2.2.2.2.1 ((congrFun (q3.1.1 245 (by decide)) 0).trans h_245_0)) mi_X12_landsAt ml_RX12_426 rfl rfl (Nat.le_of_ble_eq_true rfl) (Nat.le_of_ble_eq_true rfl) (Nat.le_of_ble_eq_true rfl) dX12_lands_16 (fun r7 σ8 q9 => ?_)
  obtain ⟨rfl, q9⟩ := q9
  rw [q9]
  refine a_if_le C dX12_lands_19 (tgt := 28) rfl (fun _ => ?_) (fun h => absurd h (by decide))
  refine a_iinc C dX12_lands_28 rfl (v := 2) rfl (by decide) rfl (vs1 := [some (.ref (ad 236)), some (.int 0), some (.int 2)]) rfl ?_
  refine a_goto C dX12_lands_31 (tgt := 8) rfl ?_
  refine a_iload_n C dX12_lands_8 (i := 2) rfl rfl ?_
  refine a_bipush C dX12_lands_9 (v := 10) rfl ?_
  refine a_ic_ge C dX12_lands_11 (tgt := 34) rfl (fun h => absurd h (by decide)) (fun _ => ?_)
  refine a_aload_n C dX12_lands_14 (i := 0) rfl rfl ?_
  refine a_iload_n C dX12_lands_15 (i := 2) rfl rfl ?_
  refine a_callVi C (i := 236) kd_236 (hid 236 (by decide)) ⟨_, _, rfl⟩ (by decide) (m_landsAt hid q3.2.2.2.2.2.2.2.2.2.2.2.2.2.2.2.2.2.2.2.2.2.2.2.2.2.2.2.2.2.2.1 ((congrFun (q3.1.1 245 (by decide)) 0).trans h_245_0)) mi_X12_landsAt ml_RX12_426 rfl rfl (Nat.le_of_ble_eq_true rfl) (Nat.le_of_ble_eq_true rfl) (Nat.le_of_ble_eq_true rfl) dX12_lands_16 (fun r10 σ11 q12 => ?_)
  obtain ⟨rfl, q12⟩ := q12
  rw [q12]
  refine a_if_le C dX12_lands_19 (tgt := 28) rfl (fun _ => ?_) (fun h => absurd h (by decide))
  refine a_iinc C dX12_lands_28 rfl (v := 3) rfl (by decide) rfl (vs1 := [some (.ref (ad 236)), some (.int 0), some (.int 3)]) rfl ?_
  refine a_goto C dX12_lands_31 (tgt := 8) rfl ?_
  refine a_iload_n C dX12_lands_8 (i := 2) rfl rfl ?_
  refine a_bipush C dX12_lands_9 (v := 10) rfl ?_
  refine a_ic_ge C dX12_lands_11 (tgt := 34) rfl (fun h => absurd h (by decide)) (fun _ => ?_)
  refine a_aload_n C dX12_lands_14 (i := 0) rfl rfl ?_
  refine a_iload_n C dX12_lands_15 (i := 2) rfl rfl ?_
  refine a_callVi C (i := 236) kd_236 (hid 236 (by decide)) ⟨_, _, rfl⟩ (by decide) (m_landsAt hid q3.2.2.2.2.2.2.2.2.2.2.2.2.2.2.2.2.2.2.2.2.2.2.2.2.2.2.2.2.2.2.1 ((congrFun (q3.1.1 245 (by decide)) 0).trans h_245_0)) mi_X12_landsAt ml_RX12_426 rfl rfl (Nat.le_of_ble_eq_true rfl) (Nat.le_of_ble_eq_true rfl) (Nat.le_of_ble_eq_true rfl) dX12_lands_16 (fun r13 σ14 q15 => ?_)
  obtain ⟨rfl, q15⟩ := q15
  rw [q15]
  refine a_if_le C dX12_lands_19 (tgt := 28) rfl (fun _ => ?_) (fun h => absurd h (by decide))
  refine a_iinc C dX12_lands_28 rfl (v := 4) rfl (by decide) rfl (vs1 := [some (.ref (ad 236)), some (.int 0), some (.int 4)]) rfl ?_
  refine a_goto C dX12_lands_31 (tgt := 8) rfl ?_
  refine a_iload_n C dX12_lands_8 (i := 2) rfl rfl ?_
  refine a_bipush C dX12_lands_9 (v := 10) rfl ?_
  refine a_ic_ge C dX12_lands_11 (tgt := 34) rfl (fun h => absurd h (by decide)) (fun _ => ?_)
  refine a_aload_n C dX12_lands_14 (i := 0) rfl rfl ?_
  refine a_iload_n C dX12_lands_15 (i := 2) rfl rfl ?_
  refine a_callVi C (i := 236) kd_236 (hid 236 (by decide)) ⟨_, _, rfl⟩ (by decide) (m_landsAt hid q3.2.2.2.2.2.2.2.2.2.2.2.2.2.2.2.2.2.2.2.2.2.2.2.2.2.2.2.2.2.2.1 ((congrFun (q3.1.1 245 (by decide)) 0).trans h_245_0)) mi_X12_landsAt ml_RX12_426 rfl rfl (Nat.le_of_ble_eq_true rfl) (Nat.le_of_ble_eq_true rfl) (Nat.le_of_ble_eq_true rfl) dX12_lands_16 (fun r16 σ17 q18 => ?_)
  obtain ⟨rfl, q18⟩ := q18
  rw [q18]
  refine a_if_le C dX12_lands_19 (tgt := 28) rfl (fun _ => ?_) (fun h => absurd h (by decide))
  refine a_iinc C dX12_lands_28 rfl (v := 5) rfl (by decide) rfl (vs1 := [some (.ref (ad 236)), some (.int 0), some (.int 5)]) rfl ?_
  refine a_goto C dX12_lands_31 (tgt := 8) rfl ?_
  refine a_iload_n C dX12_lands_8 (i := 2) rfl rfl ?_
  refine a_bipush C dX12_lands_9 (v := 10) rfl ?_
  refine a_ic_ge C dX12_lands_11 (tgt := 34) rfl (fun h => absurd h (by decide)) (fun _ => ?_)
  refine a_aload_n C dX12_lands_14 (i := 0) rfl rfl ?_
  refine a_iload_n C dX12_lands_15 (i := 2) rfl rfl ?_
  refine a_callVi C (i := 236) kd_236 (hid 236 (by decide)) ⟨_, _, rfl⟩ (by decide) (m_landsAt hid q3.2.2.2.2.2.2.2.2.2.2.2.2.2.2.2.2.2.2.2.2.2.2.2.2.2.2.2.2.2.2.1 ((congrFun (q3.1.1 245 (by decide)) 0).trans h_245_0)) mi_X12_landsAt ml_RX12_426 rfl rfl (Nat.le_of_ble_eq_true rfl) (Nat.le_of_ble_eq_true rfl) (Nat.le_of_ble_eq_true rfl) dX12_lands_16 (fun r19 σ20 q21 => ?_)
  obtain ⟨rfl, q21⟩ := q21
  rw [q21]
  refine a_if_le C dX12_lands_19 (tgt := 28) rfl (fun _ => ?_) (fun h => absurd h (by decide))
  refine a_iinc C dX12_lands_28 rfl (v := 6) rfl (by decide) rfl (vs1 := [some (.ref (ad 236)), some (.int 0), some (.int 6)]) rfl ?_
  refine a_goto C dX12_lands_31 (tgt := 8) rfl ?_
  refine a_iload_n C dX12_lands_8 (i := 2) rfl rfl ?_
  refine a_bipush C dX12_lands_9 (v := 10) rfl ?_
  refine a_ic_ge C dX12_lands_11 (tgt := 34) rfl (fun h => absurd h (by decide)) (fun _ => ?_)
  refine a_aload_n C dX12_lands_14 (i := 0) rfl rfl ?_
  refine a_iload_n C dX12_lands_15 (i := 2) rfl rfl ?_
  refine a_callVi C (i := 236) kd_236 (hid 236 (by decide)) ⟨_, _, rfl⟩ (by decide) (m_landsAt hid q3.2.2.2.2.2.2.2.2.2.2.2.2.2.2.2.2.2.2.2.2.2.2.2.2.2.2.2.2.2.2.1 ((congrFun (q3.1.1 245 (by decide)) 0).trans h_245_0)) mi_X12_landsAt ml_RX12_426 rfl rfl (Nat.le_of_ble_eq_true rfl) (Nat.le_of_ble_eq_true rfl) (Nat.le_of_ble_eq_true rfl) dX12_lands_16 (fun r22 σ23 q24 => ?_)
  obtain ⟨rfl, q24⟩ := q24
  rw [q24]
  refine a_if_le C dX12_lands_19 (tgt := 28) rfl (fun _ => ?_) (fun h => absurd h (by decide))
  refine a_iinc C dX12_lands_28 rfl (v := 7) rfl (by decide) rfl (vs1 := [some (.ref (ad 236)), some (.int 0), some (.int 7)]) rfl ?_
  refine a_goto C dX12_lands_31 (tgt := 8) rfl ?_
  refine a_iload_n C dX12_lands_8 (i := 2) rfl rfl ?_
  refine a_bipush C dX12_lands_9 (v := 10) rfl ?_
  refine a_ic_ge C dX12_lands_11 (tgt := 34) rfl (fun h => absurd h (by decide)) (fun _ => ?_)
  refine a_aload_n C dX12_lands_14 (i := 0) rfl rfl ?_
  refine a_iload_n C dX12_lands_15 (i := 2) rfl rfl ?_
  refine a_callVi C (i := 236) kd_236 (hid 236 (by decide)) ⟨_, _, rfl⟩ (by decide) (m_landsAt hid q3.2.2.2.2.2.2.2.2.2.2.2.2.2.2.2.2.2.2.2.2.2.2.2.2.2.2.2.2.2.2.1 ((congrFun (q3.1.1 245 (by decide)) 0).trans h_245_0)) mi_X12_landsAt ml_RX12_426 rfl rfl (Nat.le_of_ble_eq_true rfl) (Nat.le_of_ble_eq_true rfl) (Nat.le_of_ble_eq_true rfl) dX12_lands_16 (fun r25 σ26 q27 => ?_)
  obtain ⟨rfl, q27⟩ := q27
  rw [q27]
  refine a_if_le C dX12_lands_19 (tgt := 28) rfl (fun _ => ?_) (fun h => absurd h (by decide))
  refine a_iinc C dX12_lands_28 rfl (v := 8) rfl (by decide) rfl (vs1 := [some (.ref (ad 236)), some (.int 0), some (.int 8)]) rfl ?_
  refine a_goto C dX12_lands_31 (tgt := 8) rfl ?_
  refine a_iload_n C dX12_lands_8 (i := 2) rfl rfl ?_
  refine a_bipush C dX12_lands_9 (v := 10) rfl ?_
  refine a_ic_ge C dX12_lands_11 (tgt := 34) rfl (fun h => absurd h (by decide)) (fun _ => ?_)
  refine a_aload_n C dX12_lands_14 (i := 0) rfl rfl ?_
  refine a_iload_n C dX12_lands_15 (i := 2) rfl rfl ?_
  refine a_callVi C (i := 236) kd_236 (hid 236 (by decide)) ⟨_, _, rfl⟩ (by decide) (m_landsAt hid q3.2.2.2.2.2.2.2.2.2.2.2.2.2.2.2.2.2.2.2.2.2.2.2.2.2.2.2.2.2.2.1 ((congrFun (q3.1.1 245 (by decide)) 0).trans h_245_0)) mi_X12_landsAt ml_RX12_426 rfl rfl (Nat.le_of_ble_eq_true rfl) (Nat.le_of_ble_eq_true rfl) (Nat.le_of_ble_eq_true rfl) dX12_lands_16 (fun r28 σ29 q30 => ?_)
  obtain ⟨rfl, q30⟩ := q30
  rw [q30]
  refine a_if_le C dX12_lands_19 (tgt := 28) rfl (fun _ => ?_) (fun h => absurd h (by decide))
  refine a_iinc C dX12_lands_28 rfl (v := 9) rfl (by decide) rfl (vs1 := [some (.ref (ad 236)), some (.int 0), some (.int 9)]) rfl ?_
  refine a_goto C dX12_lands_31 (tgt := 8) rfl ?_
  refine a_iload_n C dX12_lands_8 (i := 2) rfl rfl ?_
  refine a_bipush C dX12_lands_9 (v := 10) rfl ?_
  refine a_ic_ge C dX12_lands_11 (tgt := 34) rfl (fun h => absurd h (by decide)) (fun _ => ?_)
  refine a_aload_n C dX12_lands_14 (i := 0) rfl rfl ?_
  refine a_iload_n C dX12_lands_15 (i := 2) rfl rfl ?_
  refine a_callVi C (i := 236) kd_236 (hid 236 (by decide)) ⟨_, _, rfl⟩ (by decide) (m_landsAt hid q3.2.2.2.2.2.2.2.2.2.2.2.2.2.2.2.2.2.2.2.2.2.2.2.2.2.2.2.2.2.2.1 ((congrFun (q3.1.1 245 (by decide)) 0).trans h_245_0)) mi_X12_landsAt ml_RX12_426 rfl rfl (Nat.le_of_ble_eq_true rfl) (Nat.le_of_ble_eq_true rfl) (Nat.le_of_ble_eq_true rfl) dX12_lands_16 (fun r31 σ32 q33 => ?_)
  obtain ⟨rfl, q33⟩ := q33
  rw [q33]
  refine a_if_le C dX12_lands_19 (tgt := 28) rfl (fun _ => ?_) (fun h => absurd h (by decide))
  refine a_iinc C dX12_lands_28 rfl (v := 10) rfl (by decide) rfl (vs1 := [some (.ref (ad 236)), some (.int 0), some (.int 10)]) rfl ?_
  refine a_goto C dX12_lands_31 (tgt := 8) rfl ?_
  refine a_iload_n C dX12_lands_8 (i := 2) rfl rfl ?_
  refine a_bipush C dX12_lands_9 (v := 10) rfl ?_
  refine a_ic_ge C dX12_lands_11 (tgt := 34) rfl (fun _ => ?_) (fun h => absurd h (by decide))
  refine a_iload_n C dX12_lands_34 (i := 1) rfl rfl ?_
  exact a_iret Rt dX12_lands_35 rfl (rfl)
theorem dX12_gap_0 : decode cX12_gap 0 = .ok (.aload_n 0, 1) := by decide +kernel
theorem dX12_gap_1 : decode cX12_gap 1 = .ok (.invokevirtual 429, 3) := by decide +kernel
theorem dX12_gap_4 : decode cX12_gap 4 = .ok (.iconst 0, 1) := by decide +kernel
theorem dX12_gap_5 : decode cX12_gap 5 = .ok (.istore_n 1, 1) := by decide +kernel
theorem dX12_gap_6 : decode cX12_gap 6 = .ok (.iload_n 1, 1) := by decide +kernel
theorem dX12_gap_7 : decode cX12_gap 7 = .ok (.bipush 60, 2) := by decide +kernel
theorem dX12_gap_9 : decode cX12_gap 9 = .ok (.if_icmp .gt 22, 3) := by decide +kernel
theorem dX12_gap_12 : decode cX12_gap 12 = .ok (.aload_n 0, 1) := by decide +kernel
theorem dX12_gap_13 : decode cX12_gap 13 = .ok (.invokevirtual 387, 3) := by decide +kernel
theorem dX12_gap_16 : decode cX12_gap 16 = .ok (.aload_n 0, 1) := by decide +kernel
theorem dX12_gap_17 : decode cX12_gap 17 = .ok (.getfield 341, 3) := by decide +kernel
theorem dX12_gap_20 : decode cX12_gap 20 = .ok (.ifCond .ge 5, 3) := by decide +kernel
theorem dX12_gap_23 : decode cX12_gap 23 = .ok (.iload_n 1, 1) := by decide +kernel
theorem dX12_gap_24 : decode cX12_gap 24 = .ok (.ireturn, 1) := by decide +kernel
set_option maxHeartbeats 4000000 in
set_option maxRecDepth 100000 in
theorem q_gap {l : Launch} {D : va_G} {ids : List Nat} {ad : Nat → Nat} {ca : Nat → ClassId} {σ : HS} (hid : ∀ i, i < 277 → i ∈ ids) (h_236_2 : σ.1 236 2 = 0) (h_236_18 : σ.1 236 18 = 0) (h_236_54 : σ.1 236 54 = 0) (h_236_60 : σ.1 236 60 = 0) (h_245_0 : σ.1 245 0 = 0) (h_252_0 : σ.1 252 0 = 1) (h_253_0 : σ.1 253 0 = 0) (h_266_0 : σ.1 266 0 = 0) (h_266_1 : σ.1 266 1 = 0) (h_266_2 : σ.1 266 2 = 0) (h_266_3 : σ.1 266 3 = 0) (h_266_4 : σ.1 266 4 = 0) (h_266_5 : σ.1 266 5 = 0) (h_266_6 : σ.1 266 6 = 0) (h_266_7 : σ.1 266 7 = 0) (h_266_8 : σ.1 266 8 = 0) (h_266_9 : σ.1 266 9 = 0) (h_266_10 : σ.1 266 10 = 0) (h_266_11 : σ.1 266 11 = 0) (h_266_12 : σ.1 266 12 = 0) (h_266_13 : σ.1 266 13 = 0) (h_266_14 : σ.1 266 14 = 0) (h_266_15 : σ.1 266 15 = 0) (h_266_16 : σ.1 266 16 = 0) (h_266_17 : σ.1 266 17 = 0) (h_266_18 : σ.1 266 18 = 0) (h_266_19 : σ.1 266 19 = 0) (h_266_20 : σ.1 266 20 = 0) (h_266_21 : σ.1 266 21 = 0) (h_266_22 : σ.1 266 22 = 0) (h_266_23 : σ.1 266 23 = 0) (h_266_24 : σ.1 266 24 = 0) (h_266_25 : σ.1 266 25 = 0) (h_266_26 : σ.1 266 26 = (-2)) (h_266_27 : σ.1 266 27 = 0) (h_266_28 : σ.1 266 28 = (-1)) : Ki l D ids ad ca yX12_gap cX12_gap 2 .int 2 43 [.ref (ad 236)] σ (fun r _ => r = 0) := by
  refine Ki.of (by decide) (Nat.le_of_ble_eq_true rfl) 1 (fun Γ C Rt => ?_)
  show AW ids ad ca Γ 0 [some (.ref (ad 236)), none] [] σ
  refine a_aload_n C dX12_gap_0 (i := 0) rfl rfl ?_
  refine a_callVv C (i := 236) kd_236 (hid 236 (by decide)) ⟨_, _, rfl⟩ (by decide) (m_copiesStill hid h_236_2 h_236_18 h_236_54 h_236_60 h_253_0 h_266_0 h_266_1 h_266_2 h_266_3 h_266_4 h_266_5 h_266_6 h_266_7 h_266_8 h_266_9 h_266_10 h_266_11 h_266_12 h_266_13 h_266_14 h_266_15 h_266_16 h_266_17 h_266_18 h_266_19 h_266_20 h_266_21 h_266_22 h_266_23 h_266_24 h_266_25 h_266_26 h_266_27 h_266_28) mi_X12_copiesStill ml_RX12_429 rfl rfl (Nat.le_of_ble_eq_true rfl) (Nat.le_of_ble_eq_true rfl) (Nat.le_of_ble_eq_true rfl) dX12_gap_1 (fun σ2 q3 => ?_)
  refine a_iconst C dX12_gap_4 (v := 0) rfl ?_
  refine a_istore_n C dX12_gap_5 (i := 1) rfl (by decide) rfl (vs1 := [some (.ref (ad 236)), some (.int 0)]) rfl ?_
  refine a_iload_n C dX12_gap_6 (i := 1) rfl rfl ?_
  refine a_bipush C dX12_gap_7 (v := 60) rfl ?_
  refine a_ic_gt C dX12_gap_9 (tgt := 31) rfl (fun h => absurd h (by decide)) (fun _ => ?_)
  refine a_aload_n C dX12_gap_12 (i := 0) rfl rfl ?_
  refine a_callVv C (i := 236) kd_236 (hid 236 (by decide)) ⟨_, _, rfl⟩ (by decide) (m_beatGoes hid (bt := 0) q3.2.2.2.2.2.2.2.2.2.2.2.2.2.2.2.2.2.2.2.2.2.2.1 q3.2.2.2.2.2.2.2.2.2.2.2.2.2.2.2.2.2.2.2.2.2.2.2.2.2.2.2.2.2.2.2.2.2 q3.2.2.2.2.2.2.2.2.2.2.2.2.2.2.2.2.2.2.2.2.2.2.2.2.2.2.2.2.2.2.1 q3.2.2.2.2.2.2.2.2.2.2.2.2.2.2.2.2.2.2.2.2.2.2.2.2.2.2.2.2.2.2.2.1 q3.2.2.2.2.2.2.2.2.2.2.2.2.2.2.2.2.2.2.2.2.2.2.2.2.2.2.2.2.2.2.2.2.1 ((congrFun (q3.1.1 245 (by decide)) 0).trans h_245_0) ((congrFun (q3.1.1 252 (by decide)) 0).trans h_252_0) q3.2.2.2.2.2.2.2.2.2.2.2.2.2.2.2.2.2.2.2.2.2.2.2.1 q3.2.2.2.2.2.2.2.2.2.2.2.2.2.2.2.2.2.2.2.2.2.2.2.2.1 q3.2.2.2.2.2.2.2.2.2.2.2.2.2.2.2.2.2.2.2.2.2.2.2.2.2.2.1 q3.2.2.2.2.2.2.2.2.2.2.2.2.2.2.2.2.2.2.2.2.2.2.2.2.2.2.2.1 q3.2.2.2.2.2.2.2.2.2.2.2.2.2.2.2.2.2.2.2.2.2.2.2.2.2.2.2.2.1) mi_X12_beatGoes ml_RX12_387 rfl rfl (Nat.le_of_ble_eq_true rfl) (Nat.le_of_ble_eq_true rfl) (Nat.le_of_ble_eq_true rfl) dX12_gap_13 (fun σ5 q6 => ?_)
  refine a_aload_n C dX12_gap_16 (i := 0) rfl rfl ?_
  refine a_get C fl_RX12_341 (i := 236) kd_236 (hid 236 (by decide)) (v := .int (-2)) (congrArg (fun z => some (Value.int z)) q6.2.2.2.2.2.2.2.2.1) dX12_gap_17 ?_
  refine a_if_ge C dX12_gap_20 (tgt := 25) rfl (fun h => absurd h (by decide)) (fun _ => ?_)
  refine a_iload_n C dX12_gap_23 (i := 1) rfl rfl ?_
  exact a_iret Rt dX12_gap_24 rfl (rfl)
theorem dX12_handover_0 : decode cX12_handover 0 = .ok (.aload_n 0, 1) := by decide +kernel
theorem dX12_handover_1 : decode cX12_handover 1 = .ok (.invokevirtual 429, 3) := by decide +kernel
theorem dX12_handover_4 : decode cX12_handover 4 = .ok (.aload_n 0, 1) := by decide +kernel
theorem dX12_handover_5 : decode cX12_handover 5 = .ok (.iconst 0, 1) := by decide +kernel
theorem dX12_handover_6 : decode cX12_handover 6 = .ok (.invokevirtual 350, 3) := by decide +kernel
theorem dX12_handover_9 : decode cX12_handover 9 = .ok (.istore_n 1, 1) := by decide +kernel
theorem dX12_handover_10 : decode cX12_handover 10 = .ok (.iconst 0, 1) := by decide +kernel
theorem dX12_handover_11 : decode cX12_handover 11 = .ok (.istore_n 2, 1) := by decide +kernel
theorem dX12_handover_12 : decode cX12_handover 12 = .ok (.iload_n 2, 1) := by decide +kernel
theorem dX12_handover_13 : decode cX12_handover 13 = .ok (.bipush 60, 2) := by decide +kernel
theorem dX12_handover_15 : decode cX12_handover 15 = .ok (.if_icmp .gt 50, 3) := by decide +kernel
theorem dX12_handover_18 : decode cX12_handover 18 = .ok (.iload_n 1, 1) := by decide +kernel
theorem dX12_handover_19 : decode cX12_handover 19 = .ok (.ifCond .ne 5, 3) := by decide +kernel
theorem dX12_handover_22 : decode cX12_handover 22 = .ok (.iload_n 2, 1) := by decide +kernel
theorem dX12_handover_23 : decode cX12_handover 23 = .ok (.ireturn, 1) := by decide +kernel
set_option maxHeartbeats 4000000 in
set_option maxRecDepth 100000 in
theorem q_handover {l : Launch} {D : va_G} {ids : List Nat} {ad : Nat → Nat} {ca : Nat → ClassId} {σ : HS} (hid : ∀ i, i < 277 → i ∈ ids) (h_236_2 : σ.1 236 2 = 0) (h_236_18 : σ.1 236 18 = 0) (h_236_54 : σ.1 236 54 = 0) (h_236_60 : σ.1 236 60 = 0) (h_245_0 : σ.1 245 0 = 0) (h_253_0 : σ.1 253 0 = 0) (h_266_0 : σ.1 266 0 = 0) (h_266_1 : σ.1 266 1 = 0) (h_266_2 : σ.1 266 2 = 0) (h_266_3 : σ.1 266 3 = 0) (h_266_4 : σ.1 266 4 = 0) (h_266_5 : σ.1 266 5 = 0) (h_266_6 : σ.1 266 6 = 0) (h_266_7 : σ.1 266 7 = 0) (h_266_8 : σ.1 266 8 = 0) (h_266_9 : σ.1 266 9 = 0) (h_266_10 : σ.1 266 10 = 0) (h_266_11 : σ.1 266 11 = 0) (h_266_12 : σ.1 266 12 = 0) (h_266_13 : σ.1 266 13 = 0) (h_266_14 : σ.1 266 14 = 0) (h_266_15 : σ.1 266 15 = 0) (h_266_16 : σ.1 266 16 = 0) (h_266_17 : σ.1 266 17 = 0) (h_266_18 : σ.1 266 18 = 0) (h_266_19 : σ.1 266 19 = 0) (h_266_20 : σ.1 266 20 = 0) (h_266_21 : σ.1 266 21 = 0) (h_266_22 : σ.1 266 22 = 0) (h_266_23 : σ.1 266 23 = 0) (h_266_24 : σ.1 266 24 = 0) (h_266_25 : σ.1 266 25 = 0) (h_266_26 : σ.1 266 26 = (-2)) (h_266_27 : σ.1 266 27 = 0) (h_266_28 : σ.1 266 28 = (-1)) : Ki l D ids ad ca yX12_handover cX12_handover 3 .int 2 41 [.ref (ad 236)] σ (fun r _ => r = 0) := by
  refine Ki.of (by decide) (Nat.le_of_ble_eq_true rfl) 2 (fun Γ C Rt => ?_)
  show AW ids ad ca Γ 0 [some (.ref (ad 236)), none, none] [] σ
  refine a_aload_n C dX12_handover_0 (i := 0) rfl rfl ?_
  refine a_callVv C (i := 236) kd_236 (hid 236 (by decide)) ⟨_, _, rfl⟩ (by decide) (m_copiesStill hid h_236_2 h_236_18 h_236_54 h_236_60 h_253_0 h_266_0 h_266_1 h_266_2 h_266_3 h_266_4 h_266_5 h_266_6 h_266_7 h_266_8 h_266_9 h_266_10 h_266_11 h_266_12 h_266_13 h_266_14 h_266_15 h_266_16 h_266_17 h_266_18 h_266_19 h_266_20 h_266_21 h_266_22 h_266_23 h_266_24 h_266_25 h_266_26 h_266_27 h_266_28) mi_X12_copiesStill ml_RX12_429 rfl rfl (Nat.le_of_ble_eq_true rfl) (Nat.le_of_ble_eq_true rfl) (Nat.le_of_ble_eq_true rfl) dX12_handover_1 (fun σ2 q3 => ?_)
  refine a_aload_n C dX12_handover_4 (i := 0) rfl rfl ?_
  refine a_iconst C dX12_handover_5 (v := 0) rfl ?_
  refine a_callVi C (i := 236) kd_236 (hid 236 (by decide)) ⟨_, _, rfl⟩ (by decide) (m_thingsSo hid q3.2.2.2.2.2.2.2.2.2.2.2.2.2.2.2.2.2.2.2.2.2.2.2.2.2.2.2.2.2.2.1 ((congrFun (q3.1.1 245 (by decide)) 0).trans h_245_0)) mi_X12_thingsSo ml_RX12_350 rfl rfl (Nat.le_of_ble_eq_true rfl) (Nat.le_of_ble_eq_true rfl) (Nat.le_of_ble_eq_true rfl) dX12_handover_6 (fun r4 σ5 q6 => ?_)
  obtain ⟨rfl, q6⟩ := q6
  rw [q6]
  refine a_istore_n C dX12_handover_9 (i := 1) rfl (by decide) rfl (vs1 := [some (.ref (ad 236)), some (.int 0), none]) rfl ?_
  refine a_iconst C dX12_handover_10 (v := 0) rfl ?_
  refine a_istore_n C dX12_handover_11 (i := 2) rfl (by decide) rfl (vs1 := [some (.ref (ad 236)), some (.int 0), some (.int 0)]) rfl ?_
  refine a_iload_n C dX12_handover_12 (i := 2) rfl rfl ?_
  refine a_bipush C dX12_handover_13 (v := 60) rfl ?_
  refine a_ic_gt C dX12_handover_15 (tgt := 65) rfl (fun h => absurd h (by decide)) (fun _ => ?_)
  refine a_iload_n C dX12_handover_18 (i := 1) rfl rfl ?_
  refine a_if_ne C dX12_handover_19 (tgt := 24) rfl (fun h => absurd h (by decide)) (fun _ => ?_)
  refine a_iload_n C dX12_handover_22 (i := 2) rfl rfl ?_
  exact a_iret Rt dX12_handover_23 rfl (rfl)
theorem dX12_down_0 : decode cX12_down 0 = .ok (.aload_n 0, 1) := by decide +kernel
theorem dX12_down_1 : decode cX12_down 1 = .ok (.invokevirtual 429, 3) := by decide +kernel
theorem dX12_down_4 : decode cX12_down 4 = .ok (.iconst 0, 1) := by decide +kernel
theorem dX12_down_5 : decode cX12_down 5 = .ok (.istore_n 1, 1) := by decide +kernel
theorem dX12_down_6 : decode cX12_down 6 = .ok (.iload_n 1, 1) := by decide +kernel
theorem dX12_down_7 : decode cX12_down 7 = .ok (.sipush 200, 3) := by decide +kernel
theorem dX12_down_10 : decode cX12_down 10 = .ok (.if_icmp .gt 23, 3) := by decide +kernel
theorem dX12_down_13 : decode cX12_down 13 = .ok (.aload_n 0, 1) := by decide +kernel
theorem dX12_down_14 : decode cX12_down 14 = .ok (.iconst 0, 1) := by decide +kernel
theorem dX12_down_15 : decode cX12_down 15 = .ok (.invokevirtual 350, 3) := by decide +kernel
theorem dX12_down_18 : decode cX12_down 18 = .ok (.ifCond .ne 5, 3) := by decide +kernel
theorem dX12_down_21 : decode cX12_down 21 = .ok (.iload_n 1, 1) := by decide +kernel
theorem dX12_down_22 : decode cX12_down 22 = .ok (.ireturn, 1) := by decide +kernel
set_option maxHeartbeats 4000000 in
set_option maxRecDepth 100000 in
theorem q_down {l : Launch} {D : va_G} {ids : List Nat} {ad : Nat → Nat} {ca : Nat → ClassId} {σ : HS} (hid : ∀ i, i < 277 → i ∈ ids) (h_236_2 : σ.1 236 2 = 0) (h_236_18 : σ.1 236 18 = 0) (h_236_54 : σ.1 236 54 = 0) (h_236_60 : σ.1 236 60 = 0) (h_245_0 : σ.1 245 0 = 0) (h_253_0 : σ.1 253 0 = 0) (h_266_0 : σ.1 266 0 = 0) (h_266_1 : σ.1 266 1 = 0) (h_266_2 : σ.1 266 2 = 0) (h_266_3 : σ.1 266 3 = 0) (h_266_4 : σ.1 266 4 = 0) (h_266_5 : σ.1 266 5 = 0) (h_266_6 : σ.1 266 6 = 0) (h_266_7 : σ.1 266 7 = 0) (h_266_8 : σ.1 266 8 = 0) (h_266_9 : σ.1 266 9 = 0) (h_266_10 : σ.1 266 10 = 0) (h_266_11 : σ.1 266 11 = 0) (h_266_12 : σ.1 266 12 = 0) (h_266_13 : σ.1 266 13 = 0) (h_266_14 : σ.1 266 14 = 0) (h_266_15 : σ.1 266 15 = 0) (h_266_16 : σ.1 266 16 = 0) (h_266_17 : σ.1 266 17 = 0) (h_266_18 : σ.1 266 18 = 0) (h_266_19 : σ.1 266 19 = 0) (h_266_20 : σ.1 266 20 = 0) (h_266_21 : σ.1 266 21 = 0) (h_266_22 : σ.1 266 22 = 0) (h_266_23 : σ.1 266 23 = 0) (h_266_24 : σ.1 266 24 = 0) (h_266_25 : σ.1 266 25 = 0) (h_266_26 : σ.1 266 26 = (-2)) (h_266_27 : σ.1 266 27 = 0) (h_266_28 : σ.1 266 28 = (-1)) : Ki l D ids ad ca yX12_down cX12_down 2 .int 2 41 [.ref (ad 236)] σ (fun r _ => r = 0) := by
  refine Ki.of (by decide) (Nat.le_of_ble_eq_true rfl) 1 (fun Γ C Rt => ?_)
  show AW ids ad ca Γ 0 [some (.ref (ad 236)), none] [] σ
  refine a_aload_n C dX12_down_0 (i := 0) rfl rfl ?_
  refine a_callVv C (i := 236) kd_236 (hid 236 (by decide)) ⟨_, _, rfl⟩ (by decide) (m_copiesStill hid h_236_2 h_236_18 h_236_54 h_236_60 h_253_0 h_266_0 h_266_1 h_266_2 h_266_3 h_266_4 h_266_5 h_266_6 h_266_7 h_266_8 h_266_9 h_266_10 h_266_11 h_266_12 h_266_13 h_266_14 h_266_15 h_266_16 h_266_17 h_266_18 h_266_19 h_266_20 h_266_21 h_266_22 h_266_23 h_266_24 h_266_25 h_266_26 h_266_27 h_266_28) mi_X12_copiesStill ml_RX12_429 rfl rfl (Nat.le_of_ble_eq_true rfl) (Nat.le_of_ble_eq_true rfl) (Nat.le_of_ble_eq_true rfl) dX12_down_1 (fun σ2 q3 => ?_)
  refine a_iconst C dX12_down_4 (v := 0) rfl ?_
  refine a_istore_n C dX12_down_5 (i := 1) rfl (by decide) rfl (vs1 := [some (.ref (ad 236)), some (.int 0)]) rfl ?_
  refine a_iload_n C dX12_down_6 (i := 1) rfl rfl ?_
  refine a_sipush C dX12_down_7 (v := 200) rfl ?_
  refine a_ic_gt C dX12_down_10 (tgt := 33) rfl (fun h => absurd h (by decide)) (fun _ => ?_)
  refine a_aload_n C dX12_down_13 (i := 0) rfl rfl ?_
  refine a_iconst C dX12_down_14 (v := 0) rfl ?_
  refine a_callVi C (i := 236) kd_236 (hid 236 (by decide)) ⟨_, _, rfl⟩ (by decide) (m_thingsSo hid q3.2.2.2.2.2.2.2.2.2.2.2.2.2.2.2.2.2.2.2.2.2.2.2.2.2.2.2.2.2.2.1 ((congrFun (q3.1.1 245 (by decide)) 0).trans h_245_0)) mi_X12_thingsSo ml_RX12_350 rfl rfl (Nat.le_of_ble_eq_true rfl) (Nat.le_of_ble_eq_true rfl) (Nat.le_of_ble_eq_true rfl) dX12_down_15 (fun r4 σ5 q6 => ?_)
  obtain ⟨rfl, q6⟩ := q6
  rw [q6]
  refine a_if_ne C dX12_down_18 (tgt := 23) rfl (fun h => absurd h (by decide)) (fun _ => ?_)
  refine a_iload_n C dX12_down_21 (i := 1) rfl rfl ?_
  exact a_iret Rt dX12_down_22 rfl (rfl)
theorem dX12_put_0 : decode cX12_put 0 = .ok (.bipush 24, 2) := by decide +kernel
theorem dX12_put_2 : decode cX12_put 2 = .ok (.istore_n 2, 1) := by decide +kernel
theorem dX12_put_3 : decode cX12_put 3 = .ok (.iload_n 2, 1) := by decide +kernel
theorem dX12_put_4 : decode cX12_put 4 = .ok (.ifCond .lt 32, 3) := by decide +kernel
theorem dX12_put_7 : decode cX12_put 7 = .ok (.aload_n 0, 1) := by decide +kernel
theorem dX12_put_8 : decode cX12_put 8 = .ok (.getfield 13, 3) := by decide +kernel
theorem dX12_put_11 : decode cX12_put 11 = .ok (.aload_n 0, 1) := by decide +kernel
theorem dX12_put_12 : decode cX12_put 12 = .ok (.getfield 154, 3) := by decide +kernel
theorem dX12_put_15 : decode cX12_put 15 = .ok (.iload_n 1, 1) := by decide +kernel
theorem dX12_put_16 : decode cX12_put 16 = .ok (.iload_n 2, 1) := by decide +kernel
theorem dX12_put_17 : decode cX12_put 17 = .ok (.ishr, 1) := by decide +kernel
theorem dX12_put_18 : decode cX12_put 18 = .ok (.i2b, 1) := by decide +kernel
theorem dX12_put_19 : decode cX12_put 19 = .ok (.bastore, 1) := by decide +kernel
theorem dX12_put_20 : decode cX12_put 20 = .ok (.aload_n 0, 1) := by decide +kernel
theorem dX12_put_21 : decode cX12_put 21 = .ok (.dup, 1) := by decide +kernel
theorem dX12_put_22 : decode cX12_put 22 = .ok (.getfield 154, 3) := by decide +kernel
theorem dX12_put_25 : decode cX12_put 25 = .ok (.iconst 1, 1) := by decide +kernel
theorem dX12_put_26 : decode cX12_put 26 = .ok (.iadd, 1) := by decide +kernel
theorem dX12_put_27 : decode cX12_put 27 = .ok (.putfield 154, 3) := by decide +kernel
theorem dX12_put_30 : decode cX12_put 30 = .ok (.iinc 2 (-8), 3) := by decide +kernel
theorem dX12_put_33 : decode cX12_put 33 = .ok (.goto (-30), 3) := by decide +kernel
theorem dX12_put_36 : decode cX12_put 36 = .ok (.return_, 1) := by decide +kernel
set_option maxHeartbeats 4000000 in
set_option maxRecDepth 100000 in
theorem m_put_0 {l : Launch} {D : va_G} {ids : List Nat} {ad : Nat → Nat} {ca : Nat → ClassId} {σ : HS} {p0 : Int32} (hid : ∀ i, i < 277 → i ∈ ids) (h_236_2 : σ.1 236 2 = 0) : Kv l D ids ad ca yX12_put cX12_put 3 0 0 [.ref (ad 236), .int p0] σ (fun σ1 => only [236, 237] σ σ1 ∧ σ1.1 236 2 = 4) := by
  refine Kv.of (by decide) (Nat.le_of_ble_eq_true rfl) 1 (fun Γ C Rt => ?_)
  show AW ids ad ca Γ 0 [some (.ref (ad 236)), some (.int p0), none] [] σ
  refine a_bipush C dX12_put_0 (v := 24) rfl ?_
  refine a_istore_n C dX12_put_2 (i := 2) rfl (by decide) rfl (vs1 := [some (.ref (ad 236)), some (.int p0), some (.int 24)]) rfl ?_
  refine a_iload_n C dX12_put_3 (i := 2) rfl rfl ?_
  refine a_if_lt C dX12_put_4 (tgt := 36) rfl (fun h => absurd h (by decide)) (fun _ => ?_)
  refine a_aload_n C dX12_put_7 (i := 0) rfl rfl ?_
  refine a_get C fl_RX12_13 (i := 236) kd_236 (hid 236 (by decide)) (v := .ref (ad 237)) rfl dX12_put_8 ?_
  refine a_aload_n C dX12_put_11 (i := 0) rfl rfl ?_
  refine a_get C fl_RX12_154 (i := 236) kd_236 (hid 236 (by decide)) (v := .int 0) (congrArg (fun z => some (Value.int z)) h_236_2) dX12_put_12 ?_
  refine a_iload_n C dX12_put_15 (i := 1) rfl rfl ?_
  refine a_iload_n C dX12_put_16 (i := 2) rfl rfl ?_
  refine a_ishr C dX12_put_17 ?_
  refine a_i2b C dX12_put_18 ?_
  refine a_bast C (i := 237) 0 (pk_vb _) kd_237 (hid 237 (by decide)) (by decide) rfl (by rw [al_237]; decide) dX12_put_19 ?_
  refine a_aload_n C dX12_put_20 (i := 0) rfl rfl ?_
  refine a_dup C dX12_put_21 rfl ?_
  refine a_get C fl_RX12_154 (i := 236) kd_236 (hid 236 (by decide)) (v := .int 0) (congrArg (fun z => some (Value.int z)) h_236_2) dX12_put_22 ?_
  refine a_iconst C dX12_put_25 (v := 1) rfl ?_
  refine a_iadd C dX12_put_26 ?_
  refine a_put C fp_RX12_154 (i := 236) kd_236 (hid 236 (by decide)) rfl rfl dX12_put_27 ?_
  refine a_iinc C dX12_put_30 rfl (v := 16) rfl (by decide) rfl (vs1 := [some (.ref (ad 236)), some (.int p0), some (.int 16)]) rfl ?_
  refine a_goto C dX12_put_33 (tgt := 3) rfl ?_
  refine a_iload_n C dX12_put_3 (i := 2) rfl rfl ?_
  refine a_if_lt C dX12_put_4 (tgt := 36) rfl (fun h => absurd h (by decide)) (fun _ => ?_)
  refine a_aload_n C dX12_put_7 (i := 0) rfl rfl ?_
  refine a_get C fl_RX12_13 (i := 236) kd_236 (hid 236 (by decide)) (v := .ref (ad 237)) rfl dX12_put_8 ?_
  refine a_aload_n C dX12_put_11 (i := 0) rfl rfl ?_
  refine a_get C fl_RX12_154 (i := 236) kd_236 (hid 236 (by decide)) (v := .int 1) rfl dX12_put_12 ?_
  refine a_iload_n C dX12_put_15 (i := 1) rfl rfl ?_
  refine a_iload_n C dX12_put_16 (i := 2) rfl rfl ?_
  refine a_ishr C dX12_put_17 ?_
  refine a_i2b C dX12_put_18 ?_
  refine a_bast C (i := 237) 1 (pk_vb _) kd_237 (hid 237 (by decide)) (by decide) rfl (by rw [al_237]; decide) dX12_put_19 ?_
  refine a_aload_n C dX12_put_20 (i := 0) rfl rfl ?_
  refine a_dup C dX12_put_21 rfl ?_
  refine a_get C fl_RX12_154 (i := 236) kd_236 (hid 236 (by decide)) (v := .int 1) rfl dX12_put_22 ?_
  refine a_iconst C dX12_put_25 (v := 1) rfl ?_
  refine a_iadd C dX12_put_26 ?_
  refine a_put C fp_RX12_154 (i := 236) kd_236 (hid 236 (by decide)) rfl rfl dX12_put_27 ?_
  refine a_iinc C dX12_put_30 rfl (v := 8) rfl (by decide) rfl (vs1 := [some (.ref (ad 236)), some (.int p0), some (.int 8)]) rfl ?_
  refine a_goto C dX12_put_33 (tgt := 3) rfl ?_
  refine a_iload_n C dX12_put_3 (i := 2) rfl rfl ?_
  refine a_if_lt C dX12_put_4 (tgt := 36) rfl (fun h => absurd h (by decide)) (fun _ => ?_)
  refine a_aload_n C dX12_put_7 (i := 0) rfl rfl ?_
  refine a_get C fl_RX12_13 (i := 236) kd_236 (hid 236 (by decide)) (v := .ref (ad 237)) rfl dX12_put_8 ?_
  refine a_aload_n C dX12_put_11 (i := 0) rfl rfl ?_
  refine a_get C fl_RX12_154 (i := 236) kd_236 (hid 236 (by decide)) (v := .int 2) rfl dX12_put_12 ?_
  refine a_iload_n C dX12_put_15 (i := 1) rfl rfl ?_
  refine a_iload_n C dX12_put_16 (i := 2) rfl rfl ?_
  refine a_ishr C dX12_put_17 ?_
  refine a_i2b C dX12_put_18 ?_
  refine a_bast C (i := 237) 2 (pk_vb _) kd_237 (hid 237 (by decide)) (by decide) rfl (by rw [al_237]; decide) dX12_put_19 ?_
  refine a_aload_n C dX12_put_20 (i := 0) rfl rfl ?_
  refine a_dup C dX12_put_21 rfl ?_
  refine a_get C fl_RX12_154 (i := 236) kd_236 (hid 236 (by decide)) (v := .int 2) rfl dX12_put_22 ?_
  refine a_iconst C dX12_put_25 (v := 1) rfl ?_
  refine a_iadd C dX12_put_26 ?_
  refine a_put C fp_RX12_154 (i := 236) kd_236 (hid 236 (by decide)) rfl rfl dX12_put_27 ?_
  refine a_iinc C dX12_put_30 rfl (v := 0) rfl (by decide) rfl (vs1 := [some (.ref (ad 236)), some (.int p0), some (.int 0)]) rfl ?_
  refine a_goto C dX12_put_33 (tgt := 3) rfl ?_
  refine a_iload_n C dX12_put_3 (i := 2) rfl rfl ?_
  refine a_if_lt C dX12_put_4 (tgt := 36) rfl (fun h => absurd h (by decide)) (fun _ => ?_)
  refine a_aload_n C dX12_put_7 (i := 0) rfl rfl ?_
  refine a_get C fl_RX12_13 (i := 236) kd_236 (hid 236 (by decide)) (v := .ref (ad 237)) rfl dX12_put_8 ?_
  refine a_aload_n C dX12_put_11 (i := 0) rfl rfl ?_
  refine a_get C fl_RX12_154 (i := 236) kd_236 (hid 236 (by decide)) (v := .int 3) rfl dX12_put_12 ?_
  refine a_iload_n C dX12_put_15 (i := 1) rfl rfl ?_
  refine a_iload_n C dX12_put_16 (i := 2) rfl rfl ?_
  refine a_ishr C dX12_put_17 ?_
  refine a_i2b C dX12_put_18 ?_
  refine a_bast C (i := 237) 3 (pk_vb _) kd_237 (hid 237 (by decide)) (by decide) rfl (by rw [al_237]; decide) dX12_put_19 ?_
  refine a_aload_n C dX12_put_20 (i := 0) rfl rfl ?_
  refine a_dup C dX12_put_21 rfl ?_
  refine a_get C fl_RX12_154 (i := 236) kd_236 (hid 236 (by decide)) (v := .int 3) rfl dX12_put_22 ?_
  refine a_iconst C dX12_put_25 (v := 1) rfl ?_
  refine a_iadd C dX12_put_26 ?_
  refine a_put C fp_RX12_154 (i := 236) kd_236 (hid 236 (by decide)) rfl rfl dX12_put_27 ?_
  refine a_iinc C dX12_put_30 rfl (v := (-8)) rfl (by decide) rfl (vs1 := [some (.ref (ad 236)), some (.int p0), some (.int (-8))]) rfl ?_
  refine a_goto C dX12_put_33 (tgt := 3) rfl ?_
  refine a_iload_n C dX12_put_3 (i := 2) rfl rfl ?_
  refine a_if_lt C dX12_put_4 (tgt := 36) rfl (fun _ => ?_) (fun h => absurd h (by decide))
  exact a_vret Rt dX12_put_36 (⟨(only.I (only.I (only.I (only.I (only.I (only.I (only.I (only.I only.rf (by decide)) (by decide)) (by decide)) (by decide)) (by decide)) (by decide)) (by decide)) (by decide)), rfl⟩)
set_option maxHeartbeats 4000000 in
set_option maxRecDepth 100000 in
theorem m_put_4 {l : Launch} {D : va_G} {ids : List Nat} {ad : Nat → Nat} {ca : Nat → ClassId} {σ : HS} {p0 : Int32} (hid : ∀ i, i < 277 → i ∈ ids) (h_236_2 : σ.1 236 2 = 4) : Kv l D ids ad ca yX12_put cX12_put 3 0 0 [.ref (ad 236), .int p0] σ (fun σ1 => only [236, 237] σ σ1 ∧ σ1.1 236 2 = 8) := by
  refine Kv.of (by decide) (Nat.le_of_ble_eq_true rfl) 1 (fun Γ C Rt => ?_)
  show AW ids ad ca Γ 0 [some (.ref (ad 236)), some (.int p0), none] [] σ
  refine a_bipush C dX12_put_0 (v := 24) rfl ?_
  refine a_istore_n C dX12_put_2 (i := 2) rfl (by decide) rfl (vs1 := [some (.ref (ad 236)), some (.int p0), some (.int 24)]) rfl ?_
  refine a_iload_n C dX12_put_3 (i := 2) rfl rfl ?_
  refine a_if_lt C dX12_put_4 (tgt := 36) rfl (fun h => absurd h (by decide)) (fun _ => ?_)
  refine a_aload_n C dX12_put_7 (i := 0) rfl rfl ?_
  refine a_get C fl_RX12_13 (i := 236) kd_236 (hid 236 (by decide)) (v := .ref (ad 237)) rfl dX12_put_8 ?_
  refine a_aload_n C dX12_put_11 (i := 0) rfl rfl ?_
  refine a_get C fl_RX12_154 (i := 236) kd_236 (hid 236 (by decide)) (v := .int 4) (congrArg (fun z => some (Value.int z)) h_236_2) dX12_put_12 ?_
  refine a_iload_n C dX12_put_15 (i := 1) rfl rfl ?_
  refine a_iload_n C dX12_put_16 (i := 2) rfl rfl ?_
  refine a_ishr C dX12_put_17 ?_
  refine a_i2b C dX12_put_18 ?_
  refine a_bast C (i := 237) 4 (pk_vb _) kd_237 (hid 237 (by decide)) (by decide) rfl (by rw [al_237]; decide) dX12_put_19 ?_
  refine a_aload_n C dX12_put_20 (i := 0) rfl rfl ?_
  refine a_dup C dX12_put_21 rfl ?_
  refine a_get C fl_RX12_154 (i := 236) kd_236 (hid 236 (by decide)) (v := .int 4) (congrArg (fun z => some (Value.int z)) h_236_2) dX12_put_22 ?_
  refine a_iconst C dX12_put_25 (v := 1) rfl ?_
  refine a_iadd C dX12_put_26 ?_
  refine a_put C fp_RX12_154 (i := 236) kd_236 (hid 236 (by decide)) rfl rfl dX12_put_27 ?_
  refine a_iinc C dX12_put_30 rfl (v := 16) rfl (by decide) rfl (vs1 := [some (.ref (ad 236)), some (.int p0), some (.int 16)]) rfl ?_
  refine a_goto C dX12_put_33 (tgt := 3) rfl ?_
  refine a_iload_n C dX12_put_3 (i := 2) rfl rfl ?_
  refine a_if_lt C dX12_put_4 (tgt := 36) rfl (fun h => absurd h (by decide)) (fun _ => ?_)
  refine a_aload_n C dX12_put_7 (i := 0) rfl rfl ?_
  refine a_get C fl_RX12_13 (i := 236) kd_236 (hid 236 (by decide)) (v := .ref (ad 237)) rfl dX12_put_8 ?_
  refine a_aload_n C dX12_put_11 (i := 0) rfl rfl ?_
  refine a_get C fl_RX12_154 (i := 236) kd_236 (hid 236 (by decide)) (v := .int 5) rfl dX12_put_12 ?_
  refine a_iload_n C dX12_put_15 (i := 1) rfl rfl ?_
  refine a_iload_n C dX12_put_16 (i := 2) rfl rfl ?_
  refine a_ishr C dX12_put_17 ?_
  refine a_i2b C dX12_put_18 ?_
  refine a_bast C (i := 237) 5 (pk_vb _) kd_237 (hid 237 (by decide)) (by decide) rfl (by rw [al_237]; decide) dX12_put_19 ?_
  refine a_aload_n C dX12_put_20 (i := 0) rfl rfl ?_
  refine a_dup C dX12_put_21 rfl ?_
  refine a_get C fl_RX12_154 (i := 236) kd_236 (hid 236 (by decide)) (v := .int 5) rfl dX12_put_22 ?_
  refine a_iconst C dX12_put_25 (v := 1) rfl ?_
  refine a_iadd C dX12_put_26 ?_
  refine a_put C fp_RX12_154 (i := 236) kd_236 (hid 236 (by decide)) rfl rfl dX12_put_27 ?_
  refine a_iinc C dX12_put_30 rfl (v := 8) rfl (by decide) rfl (vs1 := [some (.ref (ad 236)), some (.int p0), some (.int 8)]) rfl ?_
  refine a_goto C dX12_put_33 (tgt := 3) rfl ?_
  refine a_iload_n C dX12_put_3 (i := 2) rfl rfl ?_
  refine a_if_lt C dX12_put_4 (tgt := 36) rfl (fun h => absurd h (by decide)) (fun _ => ?_)
  refine a_aload_n C dX12_put_7 (i := 0) rfl rfl ?_
  refine a_get C fl_RX12_13 (i := 236) kd_236 (hid 236 (by decide)) (v := .ref (ad 237)) rfl dX12_put_8 ?_
  refine a_aload_n C dX12_put_11 (i := 0) rfl rfl ?_
  refine a_get C fl_RX12_154 (i := 236) kd_236 (hid 236 (by decide)) (v := .int 6) rfl dX12_put_12 ?_
  refine a_iload_n C dX12_put_15 (i := 1) rfl rfl ?_
  refine a_iload_n C dX12_put_16 (i := 2) rfl rfl ?_
  refine a_ishr C dX12_put_17 ?_
  refine a_i2b C dX12_put_18 ?_
  refine a_bast C (i := 237) 6 (pk_vb _) kd_237 (hid 237 (by decide)) (by decide) rfl (by rw [al_237]; decide) dX12_put_19 ?_
  refine a_aload_n C dX12_put_20 (i := 0) rfl rfl ?_
  refine a_dup C dX12_put_21 rfl ?_
  refine a_get C fl_RX12_154 (i := 236) kd_236 (hid 236 (by decide)) (v := .int 6) rfl dX12_put_22 ?_
  refine a_iconst C dX12_put_25 (v := 1) rfl ?_
  refine a_iadd C dX12_put_26 ?_
  refine a_put C fp_RX12_154 (i := 236) kd_236 (hid 236 (by decide)) rfl rfl dX12_put_27 ?_
  refine a_iinc C dX12_put_30 rfl (v := 0) rfl (by decide) rfl (vs1 := [some (.ref (ad 236)), some (.int p0), some (.int 0)]) rfl ?_
  refine a_goto C dX12_put_33 (tgt := 3) rfl ?_
  refine a_iload_n C dX12_put_3 (i := 2) rfl rfl ?_
  refine a_if_lt C dX12_put_4 (tgt := 36) rfl (fun h => absurd h (by decide)) (fun _ => ?_)
  refine a_aload_n C dX12_put_7 (i := 0) rfl rfl ?_
  refine a_get C fl_RX12_13 (i := 236) kd_236 (hid 236 (by decide)) (v := .ref (ad 237)) rfl dX12_put_8 ?_
  refine a_aload_n C dX12_put_11 (i := 0) rfl rfl ?_
  refine a_get C fl_RX12_154 (i := 236) kd_236 (hid 236 (by decide)) (v := .int 7) rfl dX12_put_12 ?_
  refine a_iload_n C dX12_put_15 (i := 1) rfl rfl ?_
  refine a_iload_n C dX12_put_16 (i := 2) rfl rfl ?_
  refine a_ishr C dX12_put_17 ?_
  refine a_i2b C dX12_put_18 ?_
  refine a_bast C (i := 237) 7 (pk_vb _) kd_237 (hid 237 (by decide)) (by decide) rfl (by rw [al_237]; decide) dX12_put_19 ?_
  refine a_aload_n C dX12_put_20 (i := 0) rfl rfl ?_
  refine a_dup C dX12_put_21 rfl ?_
  refine a_get C fl_RX12_154 (i := 236) kd_236 (hid 236 (by decide)) (v := .int 7) rfl dX12_put_22 ?_
  refine a_iconst C dX12_put_25 (v := 1) rfl ?_
  refine a_iadd C dX12_put_26 ?_
  refine a_put C fp_RX12_154 (i := 236) kd_236 (hid 236 (by decide)) rfl rfl dX12_put_27 ?_
  refine a_iinc C dX12_put_30 rfl (v := (-8)) rfl (by decide) rfl (vs1 := [some (.ref (ad 236)), some (.int p0), some (.int (-8))]) rfl ?_
  refine a_goto C dX12_put_33 (tgt := 3) rfl ?_
  refine a_iload_n C dX12_put_3 (i := 2) rfl rfl ?_
  refine a_if_lt C dX12_put_4 (tgt := 36) rfl (fun _ => ?_) (fun h => absurd h (by decide))
  exact a_vret Rt dX12_put_36 (⟨(only.I (only.I (only.I (only.I (only.I (only.I (only.I (only.I only.rf (by decide)) (by decide)) (by decide)) (by decide)) (by decide)) (by decide)) (by decide)) (by decide)), rfl⟩)
set_option maxHeartbeats 4000000 in
set_option maxRecDepth 100000 in
theorem m_put_8 {l : Launch} {D : va_G} {ids : List Nat} {ad : Nat → Nat} {ca : Nat → ClassId} {σ : HS} {p0 : Int32} (hid : ∀ i, i < 277 → i ∈ ids) (h_236_2 : σ.1 236 2 = 8) : Kv l D ids ad ca yX12_put cX12_put 3 0 0 [.ref (ad 236), .int p0] σ (fun σ1 => only [236, 237] σ σ1 ∧ σ1.1 236 2 = 12) := by
  refine Kv.of (by decide) (Nat.le_of_ble_eq_true rfl) 1 (fun Γ C Rt => ?_)
  show AW ids ad ca Γ 0 [some (.ref (ad 236)), some (.int p0), none] [] σ
  refine a_bipush C dX12_put_0 (v := 24) rfl ?_
  refine a_istore_n C dX12_put_2 (i := 2) rfl (by decide) rfl (vs1 := [some (.ref (ad 236)), some (.int p0), some (.int 24)]) rfl ?_
  refine a_iload_n C dX12_put_3 (i := 2) rfl rfl ?_
  refine a_if_lt C dX12_put_4 (tgt := 36) rfl (fun h => absurd h (by decide)) (fun _ => ?_)
  refine a_aload_n C dX12_put_7 (i := 0) rfl rfl ?_
  refine a_get C fl_RX12_13 (i := 236) kd_236 (hid 236 (by decide)) (v := .ref (ad 237)) rfl dX12_put_8 ?_
  refine a_aload_n C dX12_put_11 (i := 0) rfl rfl ?_
  refine a_get C fl_RX12_154 (i := 236) kd_236 (hid 236 (by decide)) (v := .int 8) (congrArg (fun z => some (Value.int z)) h_236_2) dX12_put_12 ?_
  refine a_iload_n C dX12_put_15 (i := 1) rfl rfl ?_
  refine a_iload_n C dX12_put_16 (i := 2) rfl rfl ?_
  refine a_ishr C dX12_put_17 ?_
  refine a_i2b C dX12_put_18 ?_
  refine a_bast C (i := 237) 8 (pk_vb _) kd_237 (hid 237 (by decide)) (by decide) rfl (by rw [al_237]; decide) dX12_put_19 ?_
  refine a_aload_n C dX12_put_20 (i := 0) rfl rfl ?_
  refine a_dup C dX12_put_21 rfl ?_
  refine a_get C fl_RX12_154 (i := 236) kd_236 (hid 236 (by decide)) (v := .int 8) (congrArg (fun z => some (Value.int z)) h_236_2) dX12_put_22 ?_
  refine a_iconst C dX12_put_25 (v := 1) rfl ?_
  refine a_iadd C dX12_put_26 ?_
  refine a_put C fp_RX12_154 (i := 236) kd_236 (hid 236 (by decide)) rfl rfl dX12_put_27 ?_
  refine a_iinc C dX12_put_30 rfl (v := 16) rfl (by decide) rfl (vs1 := [some (.ref (ad 236)), some (.int p0), some (.int 16)]) rfl ?_
  refine a_goto C dX12_put_33 (tgt := 3) rfl ?_
  refine a_iload_n C dX12_put_3 (i := 2) rfl rfl ?_
  refine a_if_lt C dX12_put_4 (tgt := 36) rfl (fun h => absurd h (by decide)) (fun _ => ?_)
  refine a_aload_n C dX12_put_7 (i := 0) rfl rfl ?_
  refine a_get C fl_RX12_13 (i := 236) kd_236 (hid 236 (by decide)) (v := .ref (ad 237)) rfl dX12_put_8 ?_
  refine a_aload_n C dX12_put_11 (i := 0) rfl rfl ?_
  refine a_get C fl_RX12_154 (i := 236) kd_236 (hid 236 (by decide)) (v := .int 9) rfl dX12_put_12 ?_
  refine a_iload_n C dX12_put_15 (i := 1) rfl rfl ?_
  refine a_iload_n C dX12_put_16 (i := 2) rfl rfl ?_
  refine a_ishr C dX12_put_17 ?_
  refine a_i2b C dX12_put_18 ?_
  refine a_bast C (i := 237) 9 (pk_vb _) kd_237 (hid 237 (by decide)) (by decide) rfl (by rw [al_237]; decide) dX12_put_19 ?_
  refine a_aload_n C dX12_put_20 (i := 0) rfl rfl ?_
  refine a_dup C dX12_put_21 rfl ?_
  refine a_get C fl_RX12_154 (i := 236) kd_236 (hid 236 (by decide)) (v := .int 9) rfl dX12_put_22 ?_
  refine a_iconst C dX12_put_25 (v := 1) rfl ?_
  refine a_iadd C dX12_put_26 ?_
  refine a_put C fp_RX12_154 (i := 236) kd_236 (hid 236 (by decide)) rfl rfl dX12_put_27 ?_
  refine a_iinc C dX12_put_30 rfl (v := 8) rfl (by decide) rfl (vs1 := [some (.ref (ad 236)), some (.int p0), some (.int 8)]) rfl ?_
  refine a_goto C dX12_put_33 (tgt := 3) rfl ?_
  refine a_iload_n C dX12_put_3 (i := 2) rfl rfl ?_
  refine a_if_lt C dX12_put_4 (tgt := 36) rfl (fun h => absurd h (by decide)) (fun _ => ?_)
  refine a_aload_n C dX12_put_7 (i := 0) rfl rfl ?_
  refine a_get C fl_RX12_13 (i := 236) kd_236 (hid 236 (by decide)) (v := .ref (ad 237)) rfl dX12_put_8 ?_
  refine a_aload_n C dX12_put_11 (i := 0) rfl rfl ?_
  refine a_get C fl_RX12_154 (i := 236) kd_236 (hid 236 (by decide)) (v := .int 10) rfl dX12_put_12 ?_
  refine a_iload_n C dX12_put_15 (i := 1) rfl rfl ?_
  refine a_iload_n C dX12_put_16 (i := 2) rfl rfl ?_
  refine a_ishr C dX12_put_17 ?_
  refine a_i2b C dX12_put_18 ?_
  refine a_bast C (i := 237) 10 (pk_vb _) kd_237 (hid 237 (by decide)) (by decide) rfl (by rw [al_237]; decide) dX12_put_19 ?_
  refine a_aload_n C dX12_put_20 (i := 0) rfl rfl ?_
  refine a_dup C dX12_put_21 rfl ?_
  refine a_get C fl_RX12_154 (i := 236) kd_236 (hid 236 (by decide)) (v := .int 10) rfl dX12_put_22 ?_
  refine a_iconst C dX12_put_25 (v := 1) rfl ?_
  refine a_iadd C dX12_put_26 ?_
  refine a_put C fp_RX12_154 (i := 236) kd_236 (hid 236 (by decide)) rfl rfl dX12_put_27 ?_
  refine a_iinc C dX12_put_30 rfl (v := 0) rfl (by decide) rfl (vs1 := [some (.ref (ad 236)), some (.int p0), some (.int 0)]) rfl ?_
  refine a_goto C dX12_put_33 (tgt := 3) rfl ?_
  refine a_iload_n C dX12_put_3 (i := 2) rfl rfl ?_
  refine a_if_lt C dX12_put_4 (tgt := 36) rfl (fun h => absurd h (by decide)) (fun _ => ?_)
  refine a_aload_n C dX12_put_7 (i := 0) rfl rfl ?_
  refine a_get C fl_RX12_13 (i := 236) kd_236 (hid 236 (by decide)) (v := .ref (ad 237)) rfl dX12_put_8 ?_
  refine a_aload_n C dX12_put_11 (i := 0) rfl rfl ?_
  refine a_get C fl_RX12_154 (i := 236) kd_236 (hid 236 (by decide)) (v := .int 11) rfl dX12_put_12 ?_
  refine a_iload_n C dX12_put_15 (i := 1) rfl rfl ?_
  refine a_iload_n C dX12_put_16 (i := 2) rfl rfl ?_
  refine a_ishr C dX12_put_17 ?_
  refine a_i2b C dX12_put_18 ?_
  refine a_bast C (i := 237) 11 (pk_vb _) kd_237 (hid 237 (by decide)) (by decide) rfl (by rw [al_237]; decide) dX12_put_19 ?_
  refine a_aload_n C dX12_put_20 (i := 0) rfl rfl ?_
  refine a_dup C dX12_put_21 rfl ?_
  refine a_get C fl_RX12_154 (i := 236) kd_236 (hid 236 (by decide)) (v := .int 11) rfl dX12_put_22 ?_
  refine a_iconst C dX12_put_25 (v := 1) rfl ?_
  refine a_iadd C dX12_put_26 ?_
  refine a_put C fp_RX12_154 (i := 236) kd_236 (hid 236 (by decide)) rfl rfl dX12_put_27 ?_
  refine a_iinc C dX12_put_30 rfl (v := (-8)) rfl (by decide) rfl (vs1 := [some (.ref (ad 236)), some (.int p0), some (.int (-8))]) rfl ?_
  refine a_goto C dX12_put_33 (tgt := 3) rfl ?_
  refine a_iload_n C dX12_put_3 (i := 2) rfl rfl ?_
  refine a_if_lt C dX12_put_4 (tgt := 36) rfl (fun _ => ?_) (fun h => absurd h (by decide))
  exact a_vret Rt dX12_put_36 (⟨(only.I (only.I (only.I (only.I (only.I (only.I (only.I (only.I only.rf (by decide)) (by decide)) (by decide)) (by decide)) (by decide)) (by decide)) (by decide)) (by decide)), rfl⟩)
set_option maxHeartbeats 4000000 in
set_option maxRecDepth 100000 in
theorem m_put_12 {l : Launch} {D : va_G} {ids : List Nat} {ad : Nat → Nat} {ca : Nat → ClassId} {σ : HS} {p0 : Int32} (hid : ∀ i, i < 277 → i ∈ ids) (h_236_2 : σ.1 236 2 = 12) : Kv l D ids ad ca yX12_put cX12_put 3 0 0 [.ref (ad 236), .int p0] σ (fun σ1 => only [236, 237] σ σ1 ∧ σ1.1 236 2 = 16) := by
  refine Kv.of (by decide) (Nat.le_of_ble_eq_true rfl) 1 (fun Γ C Rt => ?_)
  show AW ids ad ca Γ 0 [some (.ref (ad 236)), some (.int p0), none] [] σ
  refine a_bipush C dX12_put_0 (v := 24) rfl ?_
  refine a_istore_n C dX12_put_2 (i := 2) rfl (by decide) rfl (vs1 := [some (.ref (ad 236)), some (.int p0), some (.int 24)]) rfl ?_
  refine a_iload_n C dX12_put_3 (i := 2) rfl rfl ?_
  refine a_if_lt C dX12_put_4 (tgt := 36) rfl (fun h => absurd h (by decide)) (fun _ => ?_)
  refine a_aload_n C dX12_put_7 (i := 0) rfl rfl ?_
  refine a_get C fl_RX12_13 (i := 236) kd_236 (hid 236 (by decide)) (v := .ref (ad 237)) rfl dX12_put_8 ?_
  refine a_aload_n C dX12_put_11 (i := 0) rfl rfl ?_
  refine a_get C fl_RX12_154 (i := 236) kd_236 (hid 236 (by decide)) (v := .int 12) (congrArg (fun z => some (Value.int z)) h_236_2) dX12_put_12 ?_
  refine a_iload_n C dX12_put_15 (i := 1) rfl rfl ?_
  refine a_iload_n C dX12_put_16 (i := 2) rfl rfl ?_
  refine a_ishr C dX12_put_17 ?_
  refine a_i2b C dX12_put_18 ?_
  refine a_bast C (i := 237) 12 (pk_vb _) kd_237 (hid 237 (by decide)) (by decide) rfl (by rw [al_237]; decide) dX12_put_19 ?_
  refine a_aload_n C dX12_put_20 (i := 0) rfl rfl ?_
  refine a_dup C dX12_put_21 rfl ?_
  refine a_get C fl_RX12_154 (i := 236) kd_236 (hid 236 (by decide)) (v := .int 12) (congrArg (fun z => some (Value.int z)) h_236_2) dX12_put_22 ?_
  refine a_iconst C dX12_put_25 (v := 1) rfl ?_
  refine a_iadd C dX12_put_26 ?_
  refine a_put C fp_RX12_154 (i := 236) kd_236 (hid 236 (by decide)) rfl rfl dX12_put_27 ?_
  refine a_iinc C dX12_put_30 rfl (v := 16) rfl (by decide) rfl (vs1 := [some (.ref (ad 236)), some (.int p0), some (.int 16)]) rfl ?_
  refine a_goto C dX12_put_33 (tgt := 3) rfl ?_
  refine a_iload_n C dX12_put_3 (i := 2) rfl rfl ?_
  refine a_if_lt C dX12_put_4 (tgt := 36) rfl (fun h => absurd h (by decide)) (fun _ => ?_)
  refine a_aload_n C dX12_put_7 (i := 0) rfl rfl ?_
  refine a_get C fl_RX12_13 (i := 236) kd_236 (hid 236 (by decide)) (v := .ref (ad 237)) rfl dX12_put_8 ?_
  refine a_aload_n C dX12_put_11 (i := 0) rfl rfl ?_
  refine a_get C fl_RX12_154 (i := 236) kd_236 (hid 236 (by decide)) (v := .int 13) rfl dX12_put_12 ?_
  refine a_iload_n C dX12_put_15 (i := 1) rfl rfl ?_
  refine a_iload_n C dX12_put_16 (i := 2) rfl rfl ?_
  refine a_ishr C dX12_put_17 ?_
  refine a_i2b C dX12_put_18 ?_
  refine a_bast C (i := 237) 13 (pk_vb _) kd_237 (hid 237 (by decide)) (by decide) rfl (by rw [al_237]; decide) dX12_put_19 ?_
  refine a_aload_n C dX12_put_20 (i := 0) rfl rfl ?_
  refine a_dup C dX12_put_21 rfl ?_
  refine a_get C fl_RX12_154 (i := 236) kd_236 (hid 236 (by decide)) (v := .int 13) rfl dX12_put_22 ?_
  refine a_iconst C dX12_put_25 (v := 1) rfl ?_
  refine a_iadd C dX12_put_26 ?_
  refine a_put C fp_RX12_154 (i := 236) kd_236 (hid 236 (by decide)) rfl rfl dX12_put_27 ?_
  refine a_iinc C dX12_put_30 rfl (v := 8) rfl (by decide) rfl (vs1 := [some (.ref (ad 236)), some (.int p0), some (.int 8)]) rfl ?_
  refine a_goto C dX12_put_33 (tgt := 3) rfl ?_
  refine a_iload_n C dX12_put_3 (i := 2) rfl rfl ?_
  refine a_if_lt C dX12_put_4 (tgt := 36) rfl (fun h => absurd h (by decide)) (fun _ => ?_)
  refine a_aload_n C dX12_put_7 (i := 0) rfl rfl ?_
  refine a_get C fl_RX12_13 (i := 236) kd_236 (hid 236 (by decide)) (v := .ref (ad 237)) rfl dX12_put_8 ?_
  refine a_aload_n C dX12_put_11 (i := 0) rfl rfl ?_
  refine a_get C fl_RX12_154 (i := 236) kd_236 (hid 236 (by decide)) (v := .int 14) rfl dX12_put_12 ?_
  refine a_iload_n C dX12_put_15 (i := 1) rfl rfl ?_
  refine a_iload_n C dX12_put_16 (i := 2) rfl rfl ?_
  refine a_ishr C dX12_put_17 ?_
  refine a_i2b C dX12_put_18 ?_
  refine a_bast C (i := 237) 14 (pk_vb _) kd_237 (hid 237 (by decide)) (by decide) rfl (by rw [al_237]; decide) dX12_put_19 ?_
  refine a_aload_n C dX12_put_20 (i := 0) rfl rfl ?_
  refine a_dup C dX12_put_21 rfl ?_
  refine a_get C fl_RX12_154 (i := 236) kd_236 (hid 236 (by decide)) (v := .int 14) rfl dX12_put_22 ?_
  refine a_iconst C dX12_put_25 (v := 1) rfl ?_
  refine a_iadd C dX12_put_26 ?_
  refine a_put C fp_RX12_154 (i := 236) kd_236 (hid 236 (by decide)) rfl rfl dX12_put_27 ?_
  refine a_iinc C dX12_put_30 rfl (v := 0) rfl (by decide) rfl (vs1 := [some (.ref (ad 236)), some (.int p0), some (.int 0)]) rfl ?_
  refine a_goto C dX12_put_33 (tgt := 3) rfl ?_
  refine a_iload_n C dX12_put_3 (i := 2) rfl rfl ?_
  refine a_if_lt C dX12_put_4 (tgt := 36) rfl (fun h => absurd h (by decide)) (fun _ => ?_)
  refine a_aload_n C dX12_put_7 (i := 0) rfl rfl ?_
  refine a_get C fl_RX12_13 (i := 236) kd_236 (hid 236 (by decide)) (v := .ref (ad 237)) rfl dX12_put_8 ?_
  refine a_aload_n C dX12_put_11 (i := 0) rfl rfl ?_
  refine a_get C fl_RX12_154 (i := 236) kd_236 (hid 236 (by decide)) (v := .int 15) rfl dX12_put_12 ?_
  refine a_iload_n C dX12_put_15 (i := 1) rfl rfl ?_
  refine a_iload_n C dX12_put_16 (i := 2) rfl rfl ?_
  refine a_ishr C dX12_put_17 ?_
  refine a_i2b C dX12_put_18 ?_
  refine a_bast C (i := 237) 15 (pk_vb _) kd_237 (hid 237 (by decide)) (by decide) rfl (by rw [al_237]; decide) dX12_put_19 ?_
  refine a_aload_n C dX12_put_20 (i := 0) rfl rfl ?_
  refine a_dup C dX12_put_21 rfl ?_
  refine a_get C fl_RX12_154 (i := 236) kd_236 (hid 236 (by decide)) (v := .int 15) rfl dX12_put_22 ?_
  refine a_iconst C dX12_put_25 (v := 1) rfl ?_
  refine a_iadd C dX12_put_26 ?_
  refine a_put C fp_RX12_154 (i := 236) kd_236 (hid 236 (by decide)) rfl rfl dX12_put_27 ?_
  refine a_iinc C dX12_put_30 rfl (v := (-8)) rfl (by decide) rfl (vs1 := [some (.ref (ad 236)), some (.int p0), some (.int (-8))]) rfl ?_
  refine a_goto C dX12_put_33 (tgt := 3) rfl ?_
  refine a_iload_n C dX12_put_3 (i := 2) rfl rfl ?_
  refine a_if_lt C dX12_put_4 (tgt := 36) rfl (fun _ => ?_) (fun h => absurd h (by decide))
  exact a_vret Rt dX12_put_36 (⟨(only.I (only.I (only.I (only.I (only.I (only.I (only.I (only.I only.rf (by decide)) (by decide)) (by decide)) (by decide)) (by decide)) (by decide)) (by decide)) (by decide)), rfl⟩)
set_option maxHeartbeats 4000000 in
set_option maxRecDepth 100000 in
theorem m_put_16 {l : Launch} {D : va_G} {ids : List Nat} {ad : Nat → Nat} {ca : Nat → ClassId} {σ : HS} {p0 : Int32} (hid : ∀ i, i < 277 → i ∈ ids) (h_236_2 : σ.1 236 2 = 16) : Kv l D ids ad ca yX12_put cX12_put 3 0 0 [.ref (ad 236), .int p0] σ (fun σ1 => only [236, 237] σ σ1 ∧ σ1.1 236 2 = 20) := by
  refine Kv.of (by decide) (Nat.le_of_ble_eq_true rfl) 1 (fun Γ C Rt => ?_)
  show AW ids ad ca Γ 0 [some (.ref (ad 236)), some (.int p0), none] [] σ
  refine a_bipush C dX12_put_0 (v := 24) rfl ?_
  refine a_istore_n C dX12_put_2 (i := 2) rfl (by decide) rfl (vs1 := [some (.ref (ad 236)), some (.int p0), some (.int 24)]) rfl ?_
  refine a_iload_n C dX12_put_3 (i := 2) rfl rfl ?_
  refine a_if_lt C dX12_put_4 (tgt := 36) rfl (fun h => absurd h (by decide)) (fun _ => ?_)
  refine a_aload_n C dX12_put_7 (i := 0) rfl rfl ?_
  refine a_get C fl_RX12_13 (i := 236) kd_236 (hid 236 (by decide)) (v := .ref (ad 237)) rfl dX12_put_8 ?_
  refine a_aload_n C dX12_put_11 (i := 0) rfl rfl ?_
  refine a_get C fl_RX12_154 (i := 236) kd_236 (hid 236 (by decide)) (v := .int 16) (congrArg (fun z => some (Value.int z)) h_236_2) dX12_put_12 ?_
  refine a_iload_n C dX12_put_15 (i := 1) rfl rfl ?_
  refine a_iload_n C dX12_put_16 (i := 2) rfl rfl ?_
  refine a_ishr C dX12_put_17 ?_
  refine a_i2b C dX12_put_18 ?_
  refine a_bast C (i := 237) 16 (pk_vb _) kd_237 (hid 237 (by decide)) (by decide) rfl (by rw [al_237]; decide) dX12_put_19 ?_
  refine a_aload_n C dX12_put_20 (i := 0) rfl rfl ?_
  refine a_dup C dX12_put_21 rfl ?_
  refine a_get C fl_RX12_154 (i := 236) kd_236 (hid 236 (by decide)) (v := .int 16) (congrArg (fun z => some (Value.int z)) h_236_2) dX12_put_22 ?_
  refine a_iconst C dX12_put_25 (v := 1) rfl ?_
  refine a_iadd C dX12_put_26 ?_
  refine a_put C fp_RX12_154 (i := 236) kd_236 (hid 236 (by decide)) rfl rfl dX12_put_27 ?_
  refine a_iinc C dX12_put_30 rfl (v := 16) rfl (by decide) rfl (vs1 := [some (.ref (ad 236)), some (.int p0), some (.int 16)]) rfl ?_
  refine a_goto C dX12_put_33 (tgt := 3) rfl ?_
  refine a_iload_n C dX12_put_3 (i := 2) rfl rfl ?_
  refine a_if_lt C dX12_put_4 (tgt := 36) rfl (fun h => absurd h (by decide)) (fun _ => ?_)
  refine a_aload_n C dX12_put_7 (i := 0) rfl rfl ?_
  refine a_get C fl_RX12_13 (i := 236) kd_236 (hid 236 (by decide)) (v := .ref (ad 237)) rfl dX12_put_8 ?_
  refine a_aload_n C dX12_put_11 (i := 0) rfl rfl ?_
  refine a_get C fl_RX12_154 (i := 236) kd_236 (hid 236 (by decide)) (v := .int 17) rfl dX12_put_12 ?_
  refine a_iload_n C dX12_put_15 (i := 1) rfl rfl ?_
  refine a_iload_n C dX12_put_16 (i := 2) rfl rfl ?_
  refine a_ishr C dX12_put_17 ?_
  refine a_i2b C dX12_put_18 ?_
  refine a_bast C (i := 237) 17 (pk_vb _) kd_237 (hid 237 (by decide)) (by decide) rfl (by rw [al_237]; decide) dX12_put_19 ?_
  refine a_aload_n C dX12_put_20 (i := 0) rfl rfl ?_
  refine a_dup C dX12_put_21 rfl ?_
  refine a_get C fl_RX12_154 (i := 236) kd_236 (hid 236 (by decide)) (v := .int 17) rfl dX12_put_22 ?_
  refine a_iconst C dX12_put_25 (v := 1) rfl ?_
  refine a_iadd C dX12_put_26 ?_
  refine a_put C fp_RX12_154 (i := 236) kd_236 (hid 236 (by decide)) rfl rfl dX12_put_27 ?_
  refine a_iinc C dX12_put_30 rfl (v := 8) rfl (by decide) rfl (vs1 := [some (.ref (ad 236)), some (.int p0), some (.int 8)]) rfl ?_
  refine a_goto C dX12_put_33 (tgt := 3) rfl ?_
  refine a_iload_n C dX12_put_3 (i := 2) rfl rfl ?_
  refine a_if_lt C dX12_put_4 (tgt := 36) rfl (fun h => absurd h (by decide)) (fun _ => ?_)
  refine a_aload_n C dX12_put_7 (i := 0) rfl rfl ?_
  refine a_get C fl_RX12_13 (i := 236) kd_236 (hid 236 (by decide)) (v := .ref (ad 237)) rfl dX12_put_8 ?_
  refine a_aload_n C dX12_put_11 (i := 0) rfl rfl ?_
  refine a_get C fl_RX12_154 (i := 236) kd_236 (hid 236 (by decide)) (v := .int 18) rfl dX12_put_12 ?_
  refine a_iload_n C dX12_put_15 (i := 1) rfl rfl ?_
  refine a_iload_n C dX12_put_16 (i := 2) rfl rfl ?_
  refine a_ishr C dX12_put_17 ?_
  refine a_i2b C dX12_put_18 ?_
  refine a_bast C (i := 237) 18 (pk_vb _) kd_237 (hid 237 (by decide)) (by decide) rfl (by rw [al_237]; decide) dX12_put_19 ?_
  refine a_aload_n C dX12_put_20 (i := 0) rfl rfl ?_
  refine a_dup C dX12_put_21 rfl ?_
  refine a_get C fl_RX12_154 (i := 236) kd_236 (hid 236 (by decide)) (v := .int 18) rfl dX12_put_22 ?_
  refine a_iconst C dX12_put_25 (v := 1) rfl ?_
  refine a_iadd C dX12_put_26 ?_
  refine a_put C fp_RX12_154 (i := 236) kd_236 (hid 236 (by decide)) rfl rfl dX12_put_27 ?_
  refine a_iinc C dX12_put_30 rfl (v := 0) rfl (by decide) rfl (vs1 := [some (.ref (ad 236)), some (.int p0), some (.int 0)]) rfl ?_
  refine a_goto C dX12_put_33 (tgt := 3) rfl ?_
  refine a_iload_n C dX12_put_3 (i := 2) rfl rfl ?_
  refine a_if_lt C dX12_put_4 (tgt := 36) rfl (fun h => absurd h (by decide)) (fun _ => ?_)
  refine a_aload_n C dX12_put_7 (i := 0) rfl rfl ?_
  refine a_get C fl_RX12_13 (i := 236) kd_236 (hid 236 (by decide)) (v := .ref (ad 237)) rfl dX12_put_8 ?_
  refine a_aload_n C dX12_put_11 (i := 0) rfl rfl ?_
  refine a_get C fl_RX12_154 (i := 236) kd_236 (hid 236 (by decide)) (v := .int 19) rfl dX12_put_12 ?_
  refine a_iload_n C dX12_put_15 (i := 1) rfl rfl ?_
  refine a_iload_n C dX12_put_16 (i := 2) rfl rfl ?_
  refine a_ishr C dX12_put_17 ?_
  refine a_i2b C dX12_put_18 ?_
  refine a_bast C (i := 237) 19 (pk_vb _) kd_237 (hid 237 (by decide)) (by decide) rfl (by rw [al_237]; decide) dX12_put_19 ?_
  refine a_aload_n C dX12_put_20 (i := 0) rfl rfl ?_
  refine a_dup C dX12_put_21 rfl ?_
  refine a_get C fl_RX12_154 (i := 236) kd_236 (hid 236 (by decide)) (v := .int 19) rfl dX12_put_22 ?_
  refine a_iconst C dX12_put_25 (v := 1) rfl ?_
  refine a_iadd C dX12_put_26 ?_
  refine a_put C fp_RX12_154 (i := 236) kd_236 (hid 236 (by decide)) rfl rfl dX12_put_27 ?_
  refine a_iinc C dX12_put_30 rfl (v := (-8)) rfl (by decide) rfl (vs1 := [some (.ref (ad 236)), some (.int p0), some (.int (-8))]) rfl ?_
  refine a_goto C dX12_put_33 (tgt := 3) rfl ?_
  refine a_iload_n C dX12_put_3 (i := 2) rfl rfl ?_
  refine a_if_lt C dX12_put_4 (tgt := 36) rfl (fun _ => ?_) (fun h => absurd h (by decide))
  exact a_vret Rt dX12_put_36 (⟨(only.I (only.I (only.I (only.I (only.I (only.I (only.I (only.I only.rf (by decide)) (by decide)) (by decide)) (by decide)) (by decide)) (by decide)) (by decide)) (by decide)), rfl⟩)
theorem dX12_feed_0 : decode cX12_feed 0 = .ok (.aload_n 0, 1) := by decide +kernel
theorem dX12_feed_1 : decode cX12_feed 1 = .ok (.getfield 154, 3) := by decide +kernel
theorem dX12_feed_4 : decode cX12_feed 4 = .ok (.bipush 20, 2) := by decide +kernel
theorem dX12_feed_6 : decode cX12_feed 6 = .ok (.iadd, 1) := by decide +kernel
theorem dX12_feed_7 : decode cX12_feed 7 = .ok (.sipush 2000, 3) := by decide +kernel
theorem dX12_feed_10 : decode cX12_feed 10 = .ok (.if_icmp .le 5, 3) := by decide +kernel
theorem dX12_feed_15 : decode cX12_feed 15 = .ok (.aload_n 0, 1) := by decide +kernel
theorem dX12_feed_16 : decode cX12_feed 16 = .ok (.iload_n 1, 1) := by decide +kernel
theorem dX12_feed_17 : decode cX12_feed 17 = .ok (.invokevirtual 157, 3) := by decide +kernel
theorem dX12_feed_20 : decode cX12_feed 20 = .ok (.aload_n 0, 1) := by decide +kernel
theorem dX12_feed_21 : decode cX12_feed 21 = .ok (.iload_n 2, 1) := by decide +kernel
theorem dX12_feed_22 : decode cX12_feed 22 = .ok (.invokevirtual 157, 3) := by decide +kernel
theorem dX12_feed_25 : decode cX12_feed 25 = .ok (.aload_n 0, 1) := by decide +kernel
theorem dX12_feed_26 : decode cX12_feed 26 = .ok (.iload_n 3, 1) := by decide +kernel
theorem dX12_feed_27 : decode cX12_feed 27 = .ok (.invokevirtual 157, 3) := by decide +kernel
theorem dX12_feed_30 : decode cX12_feed 30 = .ok (.aload_n 0, 1) := by decide +kernel
theorem dX12_feed_31 : decode cX12_feed 31 = .ok (.iload 4, 2) := by decide +kernel
theorem dX12_feed_33 : decode cX12_feed 33 = .ok (.invokevirtual 157, 3) := by decide +kernel
theorem dX12_feed_36 : decode cX12_feed 36 = .ok (.aload_n 0, 1) := by decide +kernel
theorem dX12_feed_37 : decode cX12_feed 37 = .ok (.iload 5, 2) := by decide +kernel
theorem dX12_feed_39 : decode cX12_feed 39 = .ok (.invokevirtual 157, 3) := by decide +kernel
theorem dX12_feed_42 : decode cX12_feed 42 = .ok (.aload_n 0, 1) := by decide +kernel
theorem dX12_feed_43 : decode cX12_feed 43 = .ok (.getfield 154, 3) := by decide +kernel
theorem dX12_feed_46 : decode cX12_feed 46 = .ok (.ireturn, 1) := by decide +kernel
set_option maxHeartbeats 4000000 in
set_option maxRecDepth 100000 in
theorem q_feed {l : Launch} {D : va_G} {ids : List Nat} {ad : Nat → Nat} {ca : Nat → ClassId} {σ : HS} {p0 : Int32} {p1 : Int32} {p2 : Int32} {p3 : Int32} {p4 : Int32} (hid : ∀ i, i < 277 → i ∈ ids) (h_236_2 : σ.1 236 2 = 0) : Ki l D ids ad ca yX12_feed cX12_feed 6 .int 1 22 [.ref (ad 236), .int p0, .int p1, .int p2, .int p3, .int p4] σ (fun r _ => r = 20) := by
  refine Ki.of (by decide) (Nat.le_of_ble_eq_true rfl) 0 (fun Γ C Rt => ?_)
  show AW ids ad ca Γ 0 [some (.ref (ad 236)), some (.int p0), some (.int p1), some (.int p2), some (.int p3), some (.int p4)] [] σ
  refine a_aload_n C dX12_feed_0 (i := 0) rfl rfl ?_
  refine a_get C fl_RX12_154 (i := 236) kd_236 (hid 236 (by decide)) (v := .int 0) (congrArg (fun z => some (Value.int z)) h_236_2) dX12_feed_1 ?_
  refine a_bipush C dX12_feed_4 (v := 20) rfl ?_
  refine a_iadd C dX12_feed_6 ?_
  refine a_sipush C dX12_feed_7 (v := 2000) rfl ?_
  refine a_ic_le C dX12_feed_10 (tgt := 15) rfl (fun _ => ?_) (fun h => absurd h (by decide))
  refine a_aload_n C dX12_feed_15 (i := 0) rfl rfl ?_
  refine a_iload_n C dX12_feed_16 (i := 1) rfl rfl ?_
  refine a_callVv C (i := 236) kd_236 (hid 236 (by decide)) ⟨_, _, rfl⟩ (by decide) (m_put_0 hid h_236_2) mi_X12_put ml_RX12_157 rfl rfl (Nat.le_of_ble_eq_true rfl) (Nat.le_of_ble_eq_true rfl) (Nat.le_of_ble_eq_true rfl) dX12_feed_17 (fun σ2 q3 => ?_)
  refine a_aload_n C dX12_feed_20 (i := 0) rfl rfl ?_
  refine a_iload_n C dX12_feed_21 (i := 2) rfl rfl ?_
  refine a_callVv C (i := 236) kd_236 (hid 236 (by decide)) ⟨_, _, rfl⟩ (by decide) (m_put_4 hid q3.2) mi_X12_put ml_RX12_157 rfl rfl (Nat.le_of_ble_eq_true rfl) (Nat.le_of_ble_eq_true rfl) (Nat.le_of_ble_eq_true rfl) dX12_feed_22 (fun σ5 q6 => ?_)
  refine a_aload_n C dX12_feed_25 (i := 0) rfl rfl ?_
  refine a_iload_n C dX12_feed_26 (i := 3) rfl rfl ?_
  refine a_callVv C (i := 236) kd_236 (hid 236 (by decide)) ⟨_, _, rfl⟩ (by decide) (m_put_8 hid q6.2) mi_X12_put ml_RX12_157 rfl rfl (Nat.le_of_ble_eq_true rfl) (Nat.le_of_ble_eq_true rfl) (Nat.le_of_ble_eq_true rfl) dX12_feed_27 (fun σ8 q9 => ?_)
  refine a_aload_n C dX12_feed_30 (i := 0) rfl rfl ?_
  refine a_iload C dX12_feed_31 rfl ?_
  refine a_callVv C (i := 236) kd_236 (hid 236 (by decide)) ⟨_, _, rfl⟩ (by decide) (m_put_12 hid q9.2) mi_X12_put ml_RX12_157 rfl rfl (Nat.le_of_ble_eq_true rfl) (Nat.le_of_ble_eq_true rfl) (Nat.le_of_ble_eq_true rfl) dX12_feed_33 (fun σ11 q12 => ?_)
  refine a_aload_n C dX12_feed_36 (i := 0) rfl rfl ?_
  refine a_iload C dX12_feed_37 rfl ?_
  refine a_callVv C (i := 236) kd_236 (hid 236 (by decide)) ⟨_, _, rfl⟩ (by decide) (m_put_16 hid q12.2) mi_X12_put ml_RX12_157 rfl rfl (Nat.le_of_ble_eq_true rfl) (Nat.le_of_ble_eq_true rfl) (Nat.le_of_ble_eq_true rfl) dX12_feed_39 (fun σ14 q15 => ?_)
  refine a_aload_n C dX12_feed_42 (i := 0) rfl rfl ?_
  refine a_get C fl_RX12_154 (i := 236) kd_236 (hid 236 (by decide)) (v := .int 20) (congrArg (fun z => some (Value.int z)) q15.2) dX12_feed_43 ?_
  exact a_iret Rt dX12_feed_46 rfl (rfl)
theorem dX12_back_0 : decode cX12_back 0 = .ok (.iload_n 1, 1) := by decide +kernel
theorem dX12_back_1 : decode cX12_back 1 = .ok (.ifCond .lt 11, 3) := by decide +kernel
theorem dX12_back_4 : decode cX12_back 4 = .ok (.iload_n 1, 1) := by decide +kernel
theorem dX12_back_5 : decode cX12_back 5 = .ok (.aload_n 0, 1) := by decide +kernel
theorem dX12_back_6 : decode cX12_back 6 = .ok (.getfield 154, 3) := by decide +kernel
theorem dX12_back_9 : decode cX12_back 9 = .ok (.if_icmp .le 5, 3) := by decide +kernel
theorem dX12_back_14 : decode cX12_back 14 = .ok (.aload_n 0, 1) := by decide +kernel
theorem dX12_back_15 : decode cX12_back 15 = .ok (.dup, 1) := by decide +kernel
theorem dX12_back_16 : decode cX12_back 16 = .ok (.getfield 154, 3) := by decide +kernel
theorem dX12_back_19 : decode cX12_back 19 = .ok (.iload_n 1, 1) := by decide +kernel
theorem dX12_back_20 : decode cX12_back 20 = .ok (.isub, 1) := by decide +kernel
theorem dX12_back_21 : decode cX12_back 21 = .ok (.putfield 154, 3) := by decide +kernel
theorem dX12_back_24 : decode cX12_back 24 = .ok (.aload_n 0, 1) := by decide +kernel
theorem dX12_back_25 : decode cX12_back 25 = .ok (.getfield 154, 3) := by decide +kernel
theorem dX12_back_28 : decode cX12_back 28 = .ok (.ireturn, 1) := by decide +kernel
set_option maxHeartbeats 4000000 in
set_option maxRecDepth 100000 in
theorem q_back0 {l : Launch} {D : va_G} {ids : List Nat} {ad : Nat → Nat} {ca : Nat → ClassId} {σ : HS} (hid : ∀ i, i < 277 → i ∈ ids) (h_236_2 : σ.1 236 2 = 0) : Ki l D ids ad ca yX12_back cX12_back 2 .int 0 0 [.ref (ad 236), .int 0] σ (fun r _ => r = 0) := by
  refine Ki.of (by decide) (Nat.le_of_ble_eq_true rfl) 0 (fun Γ C Rt => ?_)
  show AW ids ad ca Γ 0 [some (.ref (ad 236)), some (.int 0)] [] σ
  refine a_iload_n C dX12_back_0 (i := 1) rfl rfl ?_
  refine a_if_lt C dX12_back_1 (tgt := 12) rfl (fun h => absurd h (by decide)) (fun _ => ?_)
  refine a_iload_n C dX12_back_4 (i := 1) rfl rfl ?_
  refine a_aload_n C dX12_back_5 (i := 0) rfl rfl ?_
  refine a_get C fl_RX12_154 (i := 236) kd_236 (hid 236 (by decide)) (v := .int 0) (congrArg (fun z => some (Value.int z)) h_236_2) dX12_back_6 ?_
  refine a_ic_le C dX12_back_9 (tgt := 14) rfl (fun _ => ?_) (fun h => absurd h (by decide))
  refine a_aload_n C dX12_back_14 (i := 0) rfl rfl ?_
  refine a_dup C dX12_back_15 rfl ?_
  refine a_get C fl_RX12_154 (i := 236) kd_236 (hid 236 (by decide)) (v := .int 0) (congrArg (fun z => some (Value.int z)) h_236_2) dX12_back_16 ?_
  refine a_iload_n C dX12_back_19 (i := 1) rfl rfl ?_
  refine a_isub C dX12_back_20 ?_
  refine a_put C fp_RX12_154 (i := 236) kd_236 (hid 236 (by decide)) rfl rfl dX12_back_21 ?_
  refine a_aload_n C dX12_back_24 (i := 0) rfl rfl ?_
  refine a_get C fl_RX12_154 (i := 236) kd_236 (hid 236 (by decide)) (v := .int 0) rfl dX12_back_25 ?_
  exact a_iret Rt dX12_back_28 rfl (rfl)
theorem dX12_back_12 : decode cX12_back 12 = .ok (.iconst (-1), 1) := by decide +kernel
theorem dX12_back_13 : decode cX12_back 13 = .ok (.ireturn, 1) := by decide +kernel
set_option maxHeartbeats 4000000 in
set_option maxRecDepth 100000 in
theorem q_back1 {l : Launch} {D : va_G} {ids : List Nat} {ad : Nat → Nat} {ca : Nat → ClassId} {σ : HS} {p0 : Int32} (hid : ∀ i, i < 277 → i ∈ ids) (ho : p0 < 0 ∨ 0 < p0) (h_236_2 : σ.1 236 2 = 0) : Ki l D ids ad ca yX12_back cX12_back 2 .int 0 0 [.ref (ad 236), .int p0] σ (fun r _ => r = (-1)) := by
  refine Ki.of (by decide) (Nat.le_of_ble_eq_true rfl) 0 (fun Γ C Rt => ?_)
  show AW ids ad ca Γ 0 [some (.ref (ad 236)), some (.int p0)] [] σ
  refine a_iload_n C dX12_back_0 (i := 1) rfl rfl ?_
  refine a_if_lt C dX12_back_1 (tgt := 12) rfl (fun c1 => ?_) (fun c1 => ?_)
  ·
    refine a_iconst C dX12_back_12 (v := (-1)) rfl ?_
    exact a_iret Rt dX12_back_13 rfl (rfl)
  ·
    refine a_iload_n C dX12_back_4 (i := 1) rfl rfl ?_
    refine a_aload_n C dX12_back_5 (i := 0) rfl rfl ?_
    refine a_get C fl_RX12_154 (i := 236) kd_236 (hid 236 (by decide)) (v := .int 0) (congrArg (fun z => some (Value.int z)) h_236_2) dX12_back_6 ?_
    refine a_ic_le C dX12_back_9 (tgt := 14) rfl (fun c2 => absurd c2 (Int32.not_le.mpr (ho.resolve_left c1))) (fun c2 => ?_)
    refine a_iconst C dX12_back_12 (v := (-1)) rfl ?_
    exact a_iret Rt dX12_back_13 rfl (rfl)
theorem dX12_tell_0 : decode cX12_tell 0 = .ok (.aload_n 0, 1) := by decide +kernel
theorem dX12_tell_1 : decode cX12_tell 1 = .ok (.getfield 242, 3) := by decide +kernel
theorem dX12_tell_4 : decode cX12_tell 4 = .ok (.bipush 20, 2) := by decide +kernel
theorem dX12_tell_6 : decode cX12_tell 6 = .ok (.if_icmp .eq 13, 3) := by decide +kernel
theorem dX12_tell_9 : decode cX12_tell 9 = .ok (.iload_n 1, 1) := by decide +kernel
theorem dX12_tell_10 : decode cX12_tell 10 = .ok (.iconst 0, 1) := by decide +kernel
theorem dX12_tell_11 : decode cX12_tell 11 = .ok (.bipush 40, 2) := by decide +kernel
theorem dX12_tell_13 : decode cX12_tell 13 = .ok (.invokestatic 301, 3) := by decide +kernel
theorem dX12_tell_16 : decode cX12_tell 16 = .ok (.ifCond .ne 5, 3) := by decide +kernel
theorem dX12_tell_21 : decode cX12_tell 21 = .ok (.aload_n 0, 1) := by decide +kernel
theorem dX12_tell_22 : decode cX12_tell 22 = .ok (.getfield 125, 3) := by decide +kernel
theorem dX12_tell_25 : decode cX12_tell 25 = .ok (.aload_n 0, 1) := by decide +kernel
theorem dX12_tell_26 : decode cX12_tell 26 = .ok (.getfield 242, 3) := by decide +kernel
theorem dX12_tell_29 : decode cX12_tell 29 = .ok (.iload_n 1, 1) := by decide +kernel
theorem dX12_tell_30 : decode cX12_tell 30 = .ok (.iastore, 1) := by decide +kernel
theorem dX12_tell_31 : decode cX12_tell 31 = .ok (.aload_n 0, 1) := by decide +kernel
theorem dX12_tell_32 : decode cX12_tell 32 = .ok (.getfield 128, 3) := by decide +kernel
theorem dX12_tell_35 : decode cX12_tell 35 = .ok (.aload_n 0, 1) := by decide +kernel
theorem dX12_tell_36 : decode cX12_tell 36 = .ok (.getfield 242, 3) := by decide +kernel
theorem dX12_tell_39 : decode cX12_tell 39 = .ok (.iload_n 2, 1) := by decide +kernel
theorem dX12_tell_40 : decode cX12_tell 40 = .ok (.bastore, 1) := by decide +kernel
theorem dX12_tell_41 : decode cX12_tell 41 = .ok (.aload_n 0, 1) := by decide +kernel
theorem dX12_tell_42 : decode cX12_tell 42 = .ok (.dup, 1) := by decide +kernel
theorem dX12_tell_43 : decode cX12_tell 43 = .ok (.getfield 242, 3) := by decide +kernel
theorem dX12_tell_46 : decode cX12_tell 46 = .ok (.iconst 1, 1) := by decide +kernel
theorem dX12_tell_47 : decode cX12_tell 47 = .ok (.iadd, 1) := by decide +kernel
theorem dX12_tell_48 : decode cX12_tell 48 = .ok (.putfield 242, 3) := by decide +kernel
theorem dX12_tell_51 : decode cX12_tell 51 = .ok (.aload_n 0, 1) := by decide +kernel
theorem dX12_tell_52 : decode cX12_tell 52 = .ok (.getfield 242, 3) := by decide +kernel
theorem dX12_tell_55 : decode cX12_tell 55 = .ok (.iconst 1, 1) := by decide +kernel
theorem dX12_tell_56 : decode cX12_tell 56 = .ok (.isub, 1) := by decide +kernel
theorem dX12_tell_57 : decode cX12_tell 57 = .ok (.ireturn, 1) := by decide +kernel
set_option maxHeartbeats 4000000 in
set_option maxRecDepth 100000 in
theorem q_tell_in {l : Launch} {D : va_G} {ids : List Nat} {ad : Nat → Nat} {ca : Nat → ClassId} {σ : HS} {p0 : Int32} {p1 : Int32} (hid : ∀ i, i < 277 → i ∈ ids) (h1 : ¬ p0 < 0) (h2 : p0 ≤ 40) (hz : vp_nar .boolean p1 = p1) (h_236_60 : σ.1 236 60 = 0) : Ki l D ids ad ca yX12_tell cX12_tell 3 .int 1 22 [.ref (ad 236), .int p0, .int p1] σ (fun r _ => r = 0) := by
  refine Ki.of (by decide) (Nat.le_of_ble_eq_true rfl) 0 (fun Γ C Rt => ?_)
  show AW ids ad ca Γ 0 [some (.ref (ad 236)), some (.int p0), some (.int p1)] [] σ
  refine a_aload_n C dX12_tell_0 (i := 0) rfl rfl ?_
  refine a_get C fl_RX12_242 (i := 236) kd_236 (hid 236 (by decide)) (v := .int 0) (congrArg (fun z => some (Value.int z)) h_236_60) dX12_tell_1 ?_
  refine a_bipush C dX12_tell_4 (v := 20) rfl ?_
  refine a_ic_eq C dX12_tell_6 (tgt := 19) rfl (fun h => absurd h (by decide)) (fun _ => ?_)
  refine a_iload_n C dX12_tell_9 (i := 1) rfl rfl ?_
  refine a_iconst C dX12_tell_10 (v := 0) rfl ?_
  refine a_bipush C dX12_tell_11 (v := 40) rfl ?_
  refine a_callSi C (m_in_yes hid h1 h2) ms_X12_in ml_RX12_301 rfl rfl (Nat.le_of_ble_eq_true rfl) (Nat.le_of_ble_eq_true rfl) (Nat.le_of_ble_eq_true rfl) dX12_tell_13 (fun r1 σ2 q3 => ?_)
  obtain ⟨rfl, q3⟩ := q3
  rw [q3]
  refine a_if_ne C dX12_tell_16 (tgt := 21) rfl (fun _ => ?_) (fun h => absurd h (by decide))
  refine a_aload_n C dX12_tell_21 (i := 0) rfl rfl ?_
  refine a_get C fl_RX12_125 (i := 236) kd_236 (hid 236 (by decide)) (v := .ref (ad 272)) rfl dX12_tell_22 ?_
  refine a_aload_n C dX12_tell_25 (i := 0) rfl rfl ?_
  refine a_get C fl_RX12_242 (i := 236) kd_236 (hid 236 (by decide)) (v := .int 0) (congrArg (fun z => some (Value.int z)) h_236_60) dX12_tell_26 ?_
  refine a_iload_n C dX12_tell_29 (i := 1) rfl rfl ?_
  refine a_iast C (i := 272) 0 kd_272 (hid 272 (by decide)) (by decide) rfl (by rw [al_272]; decide) dX12_tell_30 ?_
  refine a_aload_n C dX12_tell_31 (i := 0) rfl rfl ?_
  refine a_get C fl_RX12_128 (i := 236) kd_236 (hid 236 (by decide)) (v := .ref (ad 273)) rfl dX12_tell_32 ?_
  refine a_aload_n C dX12_tell_35 (i := 0) rfl rfl ?_
  refine a_get C fl_RX12_242 (i := 236) kd_236 (hid 236 (by decide)) (v := .int 0) (congrArg (fun z => some (Value.int z)) h_236_60) dX12_tell_36 ?_
  refine a_iload_n C dX12_tell_39 (i := 2) rfl rfl ?_
  refine a_zast C (i := 273) 0 hz kd_273 (hid 273 (by decide)) (by decide) rfl (by rw [al_273]; decide) dX12_tell_40 ?_
  refine a_aload_n C dX12_tell_41 (i := 0) rfl rfl ?_
  refine a_dup C dX12_tell_42 rfl ?_
  refine a_get C fl_RX12_242 (i := 236) kd_236 (hid 236 (by decide)) (v := .int 0) (congrArg (fun z => some (Value.int z)) h_236_60) dX12_tell_43 ?_
  refine a_iconst C dX12_tell_46 (v := 1) rfl ?_
  refine a_iadd C dX12_tell_47 ?_
  refine a_put C fp_RX12_242 (i := 236) kd_236 (hid 236 (by decide)) rfl rfl dX12_tell_48 ?_
  refine a_aload_n C dX12_tell_51 (i := 0) rfl rfl ?_
  refine a_get C fl_RX12_242 (i := 236) kd_236 (hid 236 (by decide)) (v := .int 1) rfl dX12_tell_52 ?_
  refine a_iconst C dX12_tell_55 (v := 1) rfl ?_
  refine a_isub C dX12_tell_56 ?_
  exact a_iret Rt dX12_tell_57 rfl (rfl)
theorem dX12_tell_19 : decode cX12_tell 19 = .ok (.iconst (-1), 1) := by decide +kernel
theorem dX12_tell_20 : decode cX12_tell 20 = .ok (.ireturn, 1) := by decide +kernel
set_option maxHeartbeats 4000000 in
set_option maxRecDepth 100000 in
theorem q_tell_out {l : Launch} {D : va_G} {ids : List Nat} {ad : Nat → Nat} {ca : Nat → ClassId} {σ : HS} {p0 : Int32} {p1 : Int32} (hid : ∀ i, i < 277 → i ∈ ids) (ho : p0 < 0 ∨ 40 < p0) (h_236_60 : σ.1 236 60 = 0) : Ki l D ids ad ca yX12_tell cX12_tell 3 .int 1 22 [.ref (ad 236), .int p0, .int p1] σ (fun r _ => r = (-1)) := by
  refine Ki.of (by decide) (Nat.le_of_ble_eq_true rfl) 0 (fun Γ C Rt => ?_)
  show AW ids ad ca Γ 0 [some (.ref (ad 236)), some (.int p0), some (.int p1)] [] σ
  refine a_aload_n C dX12_tell_0 (i := 0) rfl rfl ?_
  refine a_get C fl_RX12_242 (i := 236) kd_236 (hid 236 (by decide)) (v := .int 0) (congrArg (fun z => some (Value.int z)) h_236_60) dX12_tell_1 ?_
  refine a_bipush C dX12_tell_4 (v := 20) rfl ?_
  refine a_ic_eq C dX12_tell_6 (tgt := 19) rfl (fun h => absurd h (by decide)) (fun _ => ?_)
  refine a_iload_n C dX12_tell_9 (i := 1) rfl rfl ?_
  refine a_iconst C dX12_tell_10 (v := 0) rfl ?_
  refine a_bipush C dX12_tell_11 (v := 40) rfl ?_
  refine a_callSi C (m_in_no hid ho) ms_X12_in ml_RX12_301 rfl rfl (Nat.le_of_ble_eq_true rfl) (Nat.le_of_ble_eq_true rfl) (Nat.le_of_ble_eq_true rfl) dX12_tell_13 (fun r1 σ2 q3 => ?_)
  obtain ⟨rfl, q3⟩ := q3
  rw [q3]
  refine a_if_ne C dX12_tell_16 (tgt := 21) rfl (fun h => absurd h (by decide)) (fun _ => ?_)
  refine a_iconst C dX12_tell_19 (v := (-1)) rfl ?_
  exact a_iret Rt dX12_tell_20 rfl (rfl)
theorem dX12_count_0 : decode cX12_count 0 = .ok (.aload_n 0, 1) := by decide +kernel
theorem dX12_count_1 : decode cX12_count 1 = .ok (.invokevirtual 311, 3) := by decide +kernel
theorem dX12_count_4 : decode cX12_count 4 = .ok (.iload_n 1, 1) := by decide +kernel
theorem dX12_count_5 : decode cX12_count 5 = .ok (.tableswitch 244 0 17 #[87, 97, 107, 115, 123, 129, 135, 135, 135, 145, 153, 158, 163, 168, 173, 218, 228, 238], 87) := by decide +kernel
theorem dX12_count_92 : decode cX12_count 92 = .ok (.aload_n 0, 1) := by decide +kernel
theorem dX12_count_93 : decode cX12_count 93 = .ok (.getfield 43, 3) := by decide +kernel
theorem dX12_count_96 : decode cX12_count 96 = .ok (.aload_n 0, 1) := by decide +kernel
theorem dX12_count_97 : decode cX12_count 97 = .ok (.getfield 221, 3) := by decide +kernel
theorem dX12_count_100 : decode cX12_count 100 = .ok (.iaload, 1) := by decide +kernel
theorem dX12_count_101 : decode cX12_count 101 = .ok (.ireturn, 1) := by decide +kernel
set_option maxHeartbeats 4000000 in
set_option maxRecDepth 100000 in
theorem q_count_0 {l : Launch} {D : va_G} {ids : List Nat} {ad : Nat → Nat} {ca : Nat → ClassId} {σ : HS} (hid : ∀ i, i < 277 → i ∈ ids) (h_236_2 : σ.1 236 2 = 0) (h_236_18 : σ.1 236 18 = 0) (h_236_54 : σ.1 236 54 = 0) (h_236_60 : σ.1 236 60 = 0) (h_245_0 : σ.1 245 0 = 0) (h_253_0 : σ.1 253 0 = 0) (h_266_0 : σ.1 266 0 = 0) (h_266_1 : σ.1 266 1 = 0) (h_266_2 : σ.1 266 2 = 0) (h_266_3 : σ.1 266 3 = 0) (h_266_4 : σ.1 266 4 = 0) (h_266_5 : σ.1 266 5 = 0) (h_266_6 : σ.1 266 6 = 0) (h_266_7 : σ.1 266 7 = 0) (h_266_8 : σ.1 266 8 = 0) (h_266_9 : σ.1 266 9 = 0) (h_266_10 : σ.1 266 10 = 0) (h_266_11 : σ.1 266 11 = 0) (h_266_12 : σ.1 266 12 = 0) (h_266_13 : σ.1 266 13 = 0) (h_266_14 : σ.1 266 14 = 0) (h_266_15 : σ.1 266 15 = 0) (h_266_16 : σ.1 266 16 = 0) (h_266_17 : σ.1 266 17 = 0) (h_266_18 : σ.1 266 18 = 0) (h_266_19 : σ.1 266 19 = 0) (h_266_20 : σ.1 266 20 = 0) (h_266_21 : σ.1 266 21 = 0) (h_266_22 : σ.1 266 22 = 0) (h_266_23 : σ.1 266 23 = 0) (h_266_24 : σ.1 266 24 = 0) (h_266_25 : σ.1 266 25 = 0) (h_266_26 : σ.1 266 26 = (-2)) (h_266_27 : σ.1 266 27 = 0) (h_266_28 : σ.1 266 28 = (-1)) : Ki l D ids ad ca yX12_count cX12_count 2 .int 1 21 [.ref (ad 236), .int 0] σ (fun r _ => r = 0) := by
  refine Ki.of (by decide) (Nat.le_of_ble_eq_true rfl) 0 (fun Γ C Rt => ?_)
  show AW ids ad ca Γ 0 [some (.ref (ad 236)), some (.int 0)] [] σ
  refine a_aload_n C dX12_count_0 (i := 0) rfl rfl ?_
  refine a_callVv C (i := 236) kd_236 (hid 236 (by decide)) ⟨_, _, rfl⟩ (by decide) (m_copies hid h_236_2 h_236_18 h_236_54 h_236_60 h_253_0 h_266_0 h_266_1 h_266_2 h_266_3 h_266_4 h_266_5 h_266_6 h_266_7 h_266_8 h_266_9 h_266_10 h_266_11 h_266_12 h_266_13 h_266_14 h_266_15 h_266_16 h_266_17 h_266_18 h_266_19 h_266_20 h_266_21 h_266_22 h_266_23 h_266_24 h_266_25 h_266_26 h_266_27 h_266_28) mi_X12_copies ml_RX12_311 rfl rfl (Nat.le_of_ble_eq_true rfl) (Nat.le_of_ble_eq_true rfl) (Nat.le_of_ble_eq_true rfl) dX12_count_1 (fun σ2 q3 => ?_)
  refine a_iload_n C dX12_count_4 (i := 1) rfl rfl ?_
  refine a_tableIn C dX12_count_5 (by decide) (by decide) rfl (tgt := 92) rfl ?_
  refine a_aload_n C dX12_count_92 (i := 0) rfl rfl ?_
  refine a_get C fl_RX12_43 (i := 236) kd_236 (hid 236 (by decide)) (v := .ref (ad 245)) rfl dX12_count_93 ?_
  refine a_aload_n C dX12_count_96 (i := 0) rfl rfl ?_
  refine a_get C fl_RX12_221 (i := 236) kd_236 (hid 236 (by decide)) (v := .int 0) (congrArg (fun z => some (Value.int z)) q3.2.2.2.2.2.2.2.2.2.2.2.2.2.2.2.2.2.2.2.2.2.2.2.2.2.2.2.2.2.2.1) dX12_count_97 ?_
  refine a_iald C (i := 245) 0 kd_245 (hid 245 (by decide)) (by decide) rfl (by rw [al_245]; decide) dX12_count_100 (v := 0) ((congrFun (q3.1.1 245 (by decide)) 0).trans h_245_0) ?_
  exact a_iret Rt dX12_count_101 rfl (rfl)
theorem dX12_count_102 : decode cX12_count 102 = .ok (.aload_n 0, 1) := by decide +kernel
theorem dX12_count_103 : decode cX12_count 103 = .ok (.getfield 55, 3) := by decide +kernel
theorem dX12_count_106 : decode cX12_count 106 = .ok (.aload_n 0, 1) := by decide +kernel
theorem dX12_count_107 : decode cX12_count 107 = .ok (.getfield 221, 3) := by decide +kernel
theorem dX12_count_110 : decode cX12_count 110 = .ok (.iaload, 1) := by decide +kernel
theorem dX12_count_111 : decode cX12_count 111 = .ok (.ireturn, 1) := by decide +kernel
set_option maxHeartbeats 4000000 in
set_option maxRecDepth 100000 in
theorem q_count_1 {l : Launch} {D : va_G} {ids : List Nat} {ad : Nat → Nat} {ca : Nat → ClassId} {σ : HS} (hid : ∀ i, i < 277 → i ∈ ids) (h_236_2 : σ.1 236 2 = 0) (h_236_18 : σ.1 236 18 = 0) (h_236_54 : σ.1 236 54 = 0) (h_236_60 : σ.1 236 60 = 0) (h_249_0 : σ.1 249 0 = 0) (h_253_0 : σ.1 253 0 = 0) (h_266_0 : σ.1 266 0 = 0) (h_266_1 : σ.1 266 1 = 0) (h_266_2 : σ.1 266 2 = 0) (h_266_3 : σ.1 266 3 = 0) (h_266_4 : σ.1 266 4 = 0) (h_266_5 : σ.1 266 5 = 0) (h_266_6 : σ.1 266 6 = 0) (h_266_7 : σ.1 266 7 = 0) (h_266_8 : σ.1 266 8 = 0) (h_266_9 : σ.1 266 9 = 0) (h_266_10 : σ.1 266 10 = 0) (h_266_11 : σ.1 266 11 = 0) (h_266_12 : σ.1 266 12 = 0) (h_266_13 : σ.1 266 13 = 0) (h_266_14 : σ.1 266 14 = 0) (h_266_15 : σ.1 266 15 = 0) (h_266_16 : σ.1 266 16 = 0) (h_266_17 : σ.1 266 17 = 0) (h_266_18 : σ.1 266 18 = 0) (h_266_19 : σ.1 266 19 = 0) (h_266_20 : σ.1 266 20 = 0) (h_266_21 : σ.1 266 21 = 0) (h_266_22 : σ.1 266 22 = 0) (h_266_23 : σ.1 266 23 = 0) (h_266_24 : σ.1 266 24 = 0) (h_266_25 : σ.1 266 25 = 0) (h_266_26 : σ.1 266 26 = (-2)) (h_266_27 : σ.1 266 27 = 0) (h_266_28 : σ.1 266 28 = (-1)) : Ki l D ids ad ca yX12_count cX12_count 2 .int 1 21 [.ref (ad 236), .int 1] σ (fun r _ => r = 0) := by
  refine Ki.of (by decide) (Nat.le_of_ble_eq_true rfl) 0 (fun Γ C Rt => ?_)
  show AW ids ad ca Γ 0 [some (.ref (ad 236)), some (.int 1)] [] σ
  refine a_aload_n C dX12_count_0 (i := 0) rfl rfl ?_
  refine a_callVv C (i := 236) kd_236 (hid 236 (by decide)) ⟨_, _, rfl⟩ (by decide) (m_copies hid h_236_2 h_236_18 h_236_54 h_236_60 h_253_0 h_266_0 h_266_1 h_266_2 h_266_3 h_266_4 h_266_5 h_266_6 h_266_7 h_266_8 h_266_9 h_266_10 h_266_11 h_266_12 h_266_13 h_266_14 h_266_15 h_266_16 h_266_17 h_266_18 h_266_19 h_266_20 h_266_21 h_266_22 h_266_23 h_266_24 h_266_25 h_266_26 h_266_27 h_266_28) mi_X12_copies ml_RX12_311 rfl rfl (Nat.le_of_ble_eq_true rfl) (Nat.le_of_ble_eq_true rfl) (Nat.le_of_ble_eq_true rfl) dX12_count_1 (fun σ2 q3 => ?_)
  refine a_iload_n C dX12_count_4 (i := 1) rfl rfl ?_
  refine a_tableIn C dX12_count_5 (by decide) (by decide) rfl (tgt := 102) rfl ?_
  refine a_aload_n C dX12_count_102 (i := 0) rfl rfl ?_
  refine a_get C fl_RX12_55 (i := 236) kd_236 (hid 236 (by decide)) (v := .ref (ad 249)) rfl dX12_count_103 ?_
  refine a_aload_n C dX12_count_106 (i := 0) rfl rfl ?_
  refine a_get C fl_RX12_221 (i := 236) kd_236 (hid 236 (by decide)) (v := .int 0) (congrArg (fun z => some (Value.int z)) q3.2.2.2.2.2.2.2.2.2.2.2.2.2.2.2.2.2.2.2.2.2.2.2.2.2.2.2.2.2.2.1) dX12_count_107 ?_
  refine a_iald C (i := 249) 0 kd_249 (hid 249 (by decide)) (by decide) rfl (by rw [al_249]; decide) dX12_count_110 (v := 0) ((congrFun (q3.1.1 249 (by decide)) 0).trans h_249_0) ?_
  exact a_iret Rt dX12_count_111 rfl (rfl)
theorem dX12_count_112 : decode cX12_count 112 = .ok (.aload_n 0, 1) := by decide +kernel
theorem dX12_count_113 : decode cX12_count 113 = .ok (.getfield 110, 3) := by decide +kernel
theorem dX12_count_116 : decode cX12_count 116 = .ok (.bipush 21, 2) := by decide +kernel
theorem dX12_count_118 : decode cX12_count 118 = .ok (.iaload, 1) := by decide +kernel
theorem dX12_count_119 : decode cX12_count 119 = .ok (.ireturn, 1) := by decide +kernel
set_option maxHeartbeats 4000000 in
set_option maxRecDepth 100000 in
theorem q_count_2 {l : Launch} {D : va_G} {ids : List Nat} {ad : Nat → Nat} {ca : Nat → ClassId} {σ : HS} (hid : ∀ i, i < 277 → i ∈ ids) (h_236_2 : σ.1 236 2 = 0) (h_236_18 : σ.1 236 18 = 0) (h_236_54 : σ.1 236 54 = 0) (h_236_60 : σ.1 236 60 = 0) (h_253_0 : σ.1 253 0 = 0) (h_266_0 : σ.1 266 0 = 0) (h_266_1 : σ.1 266 1 = 0) (h_266_2 : σ.1 266 2 = 0) (h_266_3 : σ.1 266 3 = 0) (h_266_4 : σ.1 266 4 = 0) (h_266_5 : σ.1 266 5 = 0) (h_266_6 : σ.1 266 6 = 0) (h_266_7 : σ.1 266 7 = 0) (h_266_8 : σ.1 266 8 = 0) (h_266_9 : σ.1 266 9 = 0) (h_266_10 : σ.1 266 10 = 0) (h_266_11 : σ.1 266 11 = 0) (h_266_12 : σ.1 266 12 = 0) (h_266_13 : σ.1 266 13 = 0) (h_266_14 : σ.1 266 14 = 0) (h_266_15 : σ.1 266 15 = 0) (h_266_16 : σ.1 266 16 = 0) (h_266_17 : σ.1 266 17 = 0) (h_266_18 : σ.1 266 18 = 0) (h_266_19 : σ.1 266 19 = 0) (h_266_20 : σ.1 266 20 = 0) (h_266_21 : σ.1 266 21 = 0) (h_266_22 : σ.1 266 22 = 0) (h_266_23 : σ.1 266 23 = 0) (h_266_24 : σ.1 266 24 = 0) (h_266_25 : σ.1 266 25 = 0) (h_266_26 : σ.1 266 26 = (-2)) (h_266_27 : σ.1 266 27 = 0) (h_266_28 : σ.1 266 28 = (-1)) : Ki l D ids ad ca yX12_count cX12_count 2 .int 1 21 [.ref (ad 236), .int 2] σ (fun r _ => r = 0) := by
  refine Ki.of (by decide) (Nat.le_of_ble_eq_true rfl) 0 (fun Γ C Rt => ?_)
  show AW ids ad ca Γ 0 [some (.ref (ad 236)), some (.int 2)] [] σ
  refine a_aload_n C dX12_count_0 (i := 0) rfl rfl ?_
  refine a_callVv C (i := 236) kd_236 (hid 236 (by decide)) ⟨_, _, rfl⟩ (by decide) (m_copies hid h_236_2 h_236_18 h_236_54 h_236_60 h_253_0 h_266_0 h_266_1 h_266_2 h_266_3 h_266_4 h_266_5 h_266_6 h_266_7 h_266_8 h_266_9 h_266_10 h_266_11 h_266_12 h_266_13 h_266_14 h_266_15 h_266_16 h_266_17 h_266_18 h_266_19 h_266_20 h_266_21 h_266_22 h_266_23 h_266_24 h_266_25 h_266_26 h_266_27 h_266_28) mi_X12_copies ml_RX12_311 rfl rfl (Nat.le_of_ble_eq_true rfl) (Nat.le_of_ble_eq_true rfl) (Nat.le_of_ble_eq_true rfl) dX12_count_1 (fun σ2 q3 => ?_)
  refine a_iload_n C dX12_count_4 (i := 1) rfl rfl ?_
  refine a_tableIn C dX12_count_5 (by decide) (by decide) rfl (tgt := 112) rfl ?_
  refine a_aload_n C dX12_count_112 (i := 0) rfl rfl ?_
  refine a_get C fl_RX12_110 (i := 236) kd_236 (hid 236 (by decide)) (v := .ref (ad 267)) rfl dX12_count_113 ?_
  refine a_bipush C dX12_count_116 (v := 21) rfl ?_
  refine a_iald C (i := 267) 21 kd_267 (hid 267 (by decide)) (by decide) rfl (by rw [al_267]; decide) dX12_count_118 (v := 0) q3.2.2.2.2.2.2.2.2.2.2.2.2.2.2.2.2.2.2.2.2.2.2.1 ?_
  exact a_iret Rt dX12_count_119 rfl (rfl)
theorem dX12_count_120 : decode cX12_count 120 = .ok (.aload_n 0, 1) := by decide +kernel
theorem dX12_count_121 : decode cX12_count 121 = .ok (.getfield 110, 3) := by decide +kernel
theorem dX12_count_124 : decode cX12_count 124 = .ok (.bipush 22, 2) := by decide +kernel
theorem dX12_count_126 : decode cX12_count 126 = .ok (.iaload, 1) := by decide +kernel
theorem dX12_count_127 : decode cX12_count 127 = .ok (.ireturn, 1) := by decide +kernel
set_option maxHeartbeats 4000000 in
set_option maxRecDepth 100000 in
theorem q_count_3 {l : Launch} {D : va_G} {ids : List Nat} {ad : Nat → Nat} {ca : Nat → ClassId} {σ : HS} (hid : ∀ i, i < 277 → i ∈ ids) (h_236_2 : σ.1 236 2 = 0) (h_236_18 : σ.1 236 18 = 0) (h_236_54 : σ.1 236 54 = 0) (h_236_60 : σ.1 236 60 = 0) (h_253_0 : σ.1 253 0 = 0) (h_266_0 : σ.1 266 0 = 0) (h_266_1 : σ.1 266 1 = 0) (h_266_2 : σ.1 266 2 = 0) (h_266_3 : σ.1 266 3 = 0) (h_266_4 : σ.1 266 4 = 0) (h_266_5 : σ.1 266 5 = 0) (h_266_6 : σ.1 266 6 = 0) (h_266_7 : σ.1 266 7 = 0) (h_266_8 : σ.1 266 8 = 0) (h_266_9 : σ.1 266 9 = 0) (h_266_10 : σ.1 266 10 = 0) (h_266_11 : σ.1 266 11 = 0) (h_266_12 : σ.1 266 12 = 0) (h_266_13 : σ.1 266 13 = 0) (h_266_14 : σ.1 266 14 = 0) (h_266_15 : σ.1 266 15 = 0) (h_266_16 : σ.1 266 16 = 0) (h_266_17 : σ.1 266 17 = 0) (h_266_18 : σ.1 266 18 = 0) (h_266_19 : σ.1 266 19 = 0) (h_266_20 : σ.1 266 20 = 0) (h_266_21 : σ.1 266 21 = 0) (h_266_22 : σ.1 266 22 = 0) (h_266_23 : σ.1 266 23 = 0) (h_266_24 : σ.1 266 24 = 0) (h_266_25 : σ.1 266 25 = 0) (h_266_26 : σ.1 266 26 = (-2)) (h_266_27 : σ.1 266 27 = 0) (h_266_28 : σ.1 266 28 = (-1)) : Ki l D ids ad ca yX12_count cX12_count 2 .int 1 21 [.ref (ad 236), .int 3] σ (fun r _ => r = 0) := by
  refine Ki.of (by decide) (Nat.le_of_ble_eq_true rfl) 0 (fun Γ C Rt => ?_)
  show AW ids ad ca Γ 0 [some (.ref (ad 236)), some (.int 3)] [] σ
  refine a_aload_n C dX12_count_0 (i := 0) rfl rfl ?_
  refine a_callVv C (i := 236) kd_236 (hid 236 (by decide)) ⟨_, _, rfl⟩ (by decide) (m_copies hid h_236_2 h_236_18 h_236_54 h_236_60 h_253_0 h_266_0 h_266_1 h_266_2 h_266_3 h_266_4 h_266_5 h_266_6 h_266_7 h_266_8 h_266_9 h_266_10 h_266_11 h_266_12 h_266_13 h_266_14 h_266_15 h_266_16 h_266_17 h_266_18 h_266_19 h_266_20 h_266_21 h_266_22 h_266_23 h_266_24 h_266_25 h_266_26 h_266_27 h_266_28) mi_X12_copies ml_RX12_311 rfl rfl (Nat.le_of_ble_eq_true rfl) (Nat.le_of_ble_eq_true rfl) (Nat.le_of_ble_eq_true rfl) dX12_count_1 (fun σ2 q3 => ?_)
  refine a_iload_n C dX12_count_4 (i := 1) rfl rfl ?_
  refine a_tableIn C dX12_count_5 (by decide) (by decide) rfl (tgt := 120) rfl ?_
  refine a_aload_n C dX12_count_120 (i := 0) rfl rfl ?_
  refine a_get C fl_RX12_110 (i := 236) kd_236 (hid 236 (by decide)) (v := .ref (ad 267)) rfl dX12_count_121 ?_
  refine a_bipush C dX12_count_124 (v := 22) rfl ?_
  refine a_iald C (i := 267) 22 kd_267 (hid 267 (by decide)) (by decide) rfl (by rw [al_267]; decide) dX12_count_126 (v := 0) q3.2.2.2.2.2.2.2.2.2.2.2.2.2.2.2.2.2.2.2.2.2.2.2.1 ?_
  exact a_iret Rt dX12_count_127 rfl (rfl)
theorem dX12_count_128 : decode cX12_count 128 = .ok (.aload_n 0, 1) := by decide +kernel
theorem dX12_count_129 : decode cX12_count 129 = .ok (.iconst 0, 1) := by decide +kernel
theorem dX12_count_130 : decode cX12_count 130 = .ok (.invokevirtual 350, 3) := by decide +kernel
theorem dX12_count_133 : decode cX12_count 133 = .ok (.ireturn, 1) := by decide +kernel
set_option maxHeartbeats 4000000 in
set_option maxRecDepth 100000 in
theorem q_count_4 {l : Launch} {D : va_G} {ids : List Nat} {ad : Nat → Nat} {ca : Nat → ClassId} {σ : HS} (hid : ∀ i, i < 277 → i ∈ ids) (h_236_2 : σ.1 236 2 = 0) (h_236_18 : σ.1 236 18 = 0) (h_236_54 : σ.1 236 54 = 0) (h_236_60 : σ.1 236 60 = 0) (h_245_0 : σ.1 245 0 = 0) (h_253_0 : σ.1 253 0 = 0) (h_266_0 : σ.1 266 0 = 0) (h_266_1 : σ.1 266 1 = 0) (h_266_2 : σ.1 266 2 = 0) (h_266_3 : σ.1 266 3 = 0) (h_266_4 : σ.1 266 4 = 0) (h_266_5 : σ.1 266 5 = 0) (h_266_6 : σ.1 266 6 = 0) (h_266_7 : σ.1 266 7 = 0) (h_266_8 : σ.1 266 8 = 0) (h_266_9 : σ.1 266 9 = 0) (h_266_10 : σ.1 266 10 = 0) (h_266_11 : σ.1 266 11 = 0) (h_266_12 : σ.1 266 12 = 0) (h_266_13 : σ.1 266 13 = 0) (h_266_14 : σ.1 266 14 = 0) (h_266_15 : σ.1 266 15 = 0) (h_266_16 : σ.1 266 16 = 0) (h_266_17 : σ.1 266 17 = 0) (h_266_18 : σ.1 266 18 = 0) (h_266_19 : σ.1 266 19 = 0) (h_266_20 : σ.1 266 20 = 0) (h_266_21 : σ.1 266 21 = 0) (h_266_22 : σ.1 266 22 = 0) (h_266_23 : σ.1 266 23 = 0) (h_266_24 : σ.1 266 24 = 0) (h_266_25 : σ.1 266 25 = 0) (h_266_26 : σ.1 266 26 = (-2)) (h_266_27 : σ.1 266 27 = 0) (h_266_28 : σ.1 266 28 = (-1)) : Ki l D ids ad ca yX12_count cX12_count 2 .int 1 23 [.ref (ad 236), .int 4] σ (fun r _ => r = 0) := by
  refine Ki.of (by decide) (Nat.le_of_ble_eq_true rfl) 0 (fun Γ C Rt => ?_)
  show AW ids ad ca Γ 0 [some (.ref (ad 236)), some (.int 4)] [] σ
  refine a_aload_n C dX12_count_0 (i := 0) rfl rfl ?_
  refine a_callVv C (i := 236) kd_236 (hid 236 (by decide)) ⟨_, _, rfl⟩ (by decide) (m_copies hid h_236_2 h_236_18 h_236_54 h_236_60 h_253_0 h_266_0 h_266_1 h_266_2 h_266_3 h_266_4 h_266_5 h_266_6 h_266_7 h_266_8 h_266_9 h_266_10 h_266_11 h_266_12 h_266_13 h_266_14 h_266_15 h_266_16 h_266_17 h_266_18 h_266_19 h_266_20 h_266_21 h_266_22 h_266_23 h_266_24 h_266_25 h_266_26 h_266_27 h_266_28) mi_X12_copies ml_RX12_311 rfl rfl (Nat.le_of_ble_eq_true rfl) (Nat.le_of_ble_eq_true rfl) (Nat.le_of_ble_eq_true rfl) dX12_count_1 (fun σ2 q3 => ?_)
  refine a_iload_n C dX12_count_4 (i := 1) rfl rfl ?_
  refine a_tableIn C dX12_count_5 (by decide) (by decide) rfl (tgt := 128) rfl ?_
  refine a_aload_n C dX12_count_128 (i := 0) rfl rfl ?_
  refine a_iconst C dX12_count_129 (v := 0) rfl ?_
  refine a_callVi C (i := 236) kd_236 (hid 236 (by decide)) ⟨_, _, rfl⟩ (by decide) (m_thingsSo hid q3.2.2.2.2.2.2.2.2.2.2.2.2.2.2.2.2.2.2.2.2.2.2.2.2.2.2.2.2.2.2.1 ((congrFun (q3.1.1 245 (by decide)) 0).trans h_245_0)) mi_X12_thingsSo ml_RX12_350 rfl rfl (Nat.le_of_ble_eq_true rfl) (Nat.le_of_ble_eq_true rfl) (Nat.le_of_ble_eq_true rfl) dX12_count_130 (fun r4 σ5 q6 => ?_)
  obtain ⟨rfl, q6⟩ := q6
  rw [q6]
  exact a_iret Rt dX12_count_133 rfl (rfl)
theorem dX12_count_134 : decode cX12_count 134 = .ok (.aload_n 0, 1) := by decide +kernel
theorem dX12_count_135 : decode cX12_count 135 = .ok (.iconst 2, 1) := by decide +kernel
theorem dX12_count_136 : decode cX12_count 136 = .ok (.invokevirtual 350, 3) := by decide +kernel
theorem dX12_count_139 : decode cX12_count 139 = .ok (.ireturn, 1) := by decide +kernel
set_option maxHeartbeats 4000000 in
set_option maxRecDepth 100000 in
theorem q_count_5 {l : Launch} {D : va_G} {ids : List Nat} {ad : Nat → Nat} {ca : Nat → ClassId} {σ : HS} (hid : ∀ i, i < 277 → i ∈ ids) (h_236_2 : σ.1 236 2 = 0) (h_236_18 : σ.1 236 18 = 0) (h_236_54 : σ.1 236 54 = 0) (h_236_60 : σ.1 236 60 = 0) (h_245_0 : σ.1 245 0 = 0) (h_253_0 : σ.1 253 0 = 0) (h_266_0 : σ.1 266 0 = 0) (h_266_1 : σ.1 266 1 = 0) (h_266_2 : σ.1 266 2 = 0) (h_266_3 : σ.1 266 3 = 0) (h_266_4 : σ.1 266 4 = 0) (h_266_5 : σ.1 266 5 = 0) (h_266_6 : σ.1 266 6 = 0) (h_266_7 : σ.1 266 7 = 0) (h_266_8 : σ.1 266 8 = 0) (h_266_9 : σ.1 266 9 = 0) (h_266_10 : σ.1 266 10 = 0) (h_266_11 : σ.1 266 11 = 0) (h_266_12 : σ.1 266 12 = 0) (h_266_13 : σ.1 266 13 = 0) (h_266_14 : σ.1 266 14 = 0) (h_266_15 : σ.1 266 15 = 0) (h_266_16 : σ.1 266 16 = 0) (h_266_17 : σ.1 266 17 = 0) (h_266_18 : σ.1 266 18 = 0) (h_266_19 : σ.1 266 19 = 0) (h_266_20 : σ.1 266 20 = 0) (h_266_21 : σ.1 266 21 = 0) (h_266_22 : σ.1 266 22 = 0) (h_266_23 : σ.1 266 23 = 0) (h_266_24 : σ.1 266 24 = 0) (h_266_25 : σ.1 266 25 = 0) (h_266_26 : σ.1 266 26 = (-2)) (h_266_27 : σ.1 266 27 = 0) (h_266_28 : σ.1 266 28 = (-1)) : Ki l D ids ad ca yX12_count cX12_count 2 .int 1 23 [.ref (ad 236), .int 5] σ (fun r _ => r = 0) := by
  refine Ki.of (by decide) (Nat.le_of_ble_eq_true rfl) 0 (fun Γ C Rt => ?_)
  show AW ids ad ca Γ 0 [some (.ref (ad 236)), some (.int 5)] [] σ
  refine a_aload_n C dX12_count_0 (i := 0) rfl rfl ?_
  refine a_callVv C (i := 236) kd_236 (hid 236 (by decide)) ⟨_, _, rfl⟩ (by decide) (m_copies hid h_236_2 h_236_18 h_236_54 h_236_60 h_253_0 h_266_0 h_266_1 h_266_2 h_266_3 h_266_4 h_266_5 h_266_6 h_266_7 h_266_8 h_266_9 h_266_10 h_266_11 h_266_12 h_266_13 h_266_14 h_266_15 h_266_16 h_266_17 h_266_18 h_266_19 h_266_20 h_266_21 h_266_22 h_266_23 h_266_24 h_266_25 h_266_26 h_266_27 h_266_28) mi_X12_copies ml_RX12_311 rfl rfl (Nat.le_of_ble_eq_true rfl) (Nat.le_of_ble_eq_true rfl) (Nat.le_of_ble_eq_true rfl) dX12_count_1 (fun σ2 q3 => ?_)
  refine a_iload_n C dX12_count_4 (i := 1) rfl rfl ?_
  refine a_tableIn C dX12_count_5 (by decide) (by decide) rfl (tgt := 134) rfl ?_
  refine a_aload_n C dX12_count_134 (i := 0) rfl rfl ?_
  refine a_iconst C dX12_count_135 (v := 2) rfl ?_
  refine a_callVi C (i := 236) kd_236 (hid 236 (by decide)) ⟨_, _, rfl⟩ (by decide) (m_thingsSo hid q3.2.2.2.2.2.2.2.2.2.2.2.2.2.2.2.2.2.2.2.2.2.2.2.2.2.2.2.2.2.2.1 ((congrFun (q3.1.1 245 (by decide)) 0).trans h_245_0)) mi_X12_thingsSo ml_RX12_350 rfl rfl (Nat.le_of_ble_eq_true rfl) (Nat.le_of_ble_eq_true rfl) (Nat.le_of_ble_eq_true rfl) dX12_count_136 (fun r4 σ5 q6 => ?_)
  obtain ⟨rfl, q6⟩ := q6
  rw [q6]
  exact a_iret Rt dX12_count_139 rfl (rfl)
theorem dX12_count_140 : decode cX12_count 140 = .ok (.aload_n 0, 1) := by decide +kernel
theorem dX12_count_141 : decode cX12_count 141 = .ok (.getfield 110, 3) := by decide +kernel
theorem dX12_count_144 : decode cX12_count 144 = .ok (.bipush 17, 2) := by decide +kernel
theorem dX12_count_146 : decode cX12_count 146 = .ok (.iload_n 1, 1) := by decide +kernel
theorem dX12_count_147 : decode cX12_count 147 = .ok (.iadd, 1) := by decide +kernel
theorem dX12_count_148 : decode cX12_count 148 = .ok (.iaload, 1) := by decide +kernel
theorem dX12_count_149 : decode cX12_count 149 = .ok (.ireturn, 1) := by decide +kernel
set_option maxHeartbeats 4000000 in
set_option maxRecDepth 100000 in
theorem q_count_6 {l : Launch} {D : va_G} {ids : List Nat} {ad : Nat → Nat} {ca : Nat → ClassId} {σ : HS} (hid : ∀ i, i < 277 → i ∈ ids) (h_236_2 : σ.1 236 2 = 0) (h_236_18 : σ.1 236 18 = 0) (h_236_54 : σ.1 236 54 = 0) (h_236_60 : σ.1 236 60 = 0) (h_253_0 : σ.1 253 0 = 0) (h_266_0 : σ.1 266 0 = 0) (h_266_1 : σ.1 266 1 = 0) (h_266_2 : σ.1 266 2 = 0) (h_266_3 : σ.1 266 3 = 0) (h_266_4 : σ.1 266 4 = 0) (h_266_5 : σ.1 266 5 = 0) (h_266_6 : σ.1 266 6 = 0) (h_266_7 : σ.1 266 7 = 0) (h_266_8 : σ.1 266 8 = 0) (h_266_9 : σ.1 266 9 = 0) (h_266_10 : σ.1 266 10 = 0) (h_266_11 : σ.1 266 11 = 0) (h_266_12 : σ.1 266 12 = 0) (h_266_13 : σ.1 266 13 = 0) (h_266_14 : σ.1 266 14 = 0) (h_266_15 : σ.1 266 15 = 0) (h_266_16 : σ.1 266 16 = 0) (h_266_17 : σ.1 266 17 = 0) (h_266_18 : σ.1 266 18 = 0) (h_266_19 : σ.1 266 19 = 0) (h_266_20 : σ.1 266 20 = 0) (h_266_21 : σ.1 266 21 = 0) (h_266_22 : σ.1 266 22 = 0) (h_266_23 : σ.1 266 23 = 0) (h_266_24 : σ.1 266 24 = 0) (h_266_25 : σ.1 266 25 = 0) (h_266_26 : σ.1 266 26 = (-2)) (h_266_27 : σ.1 266 27 = 0) (h_266_28 : σ.1 266 28 = (-1)) : Ki l D ids ad ca yX12_count cX12_count 2 .int 1 21 [.ref (ad 236), .int 6] σ (fun r _ => r = 0) := by
  refine Ki.of (by decide) (Nat.le_of_ble_eq_true rfl) 0 (fun Γ C Rt => ?_)
  show AW ids ad ca Γ 0 [some (.ref (ad 236)), some (.int 6)] [] σ
  refine a_aload_n C dX12_count_0 (i := 0) rfl rfl ?_
  refine a_callVv C (i := 236) kd_236 (hid 236 (by decide)) ⟨_, _, rfl⟩ (by decide) (m_copies hid h_236_2 h_236_18 h_236_54 h_236_60 h_253_0 h_266_0 h_266_1 h_266_2 h_266_3 h_266_4 h_266_5 h_266_6 h_266_7 h_266_8 h_266_9 h_266_10 h_266_11 h_266_12 h_266_13 h_266_14 h_266_15 h_266_16 h_266_17 h_266_18 h_266_19 h_266_20 h_266_21 h_266_22 h_266_23 h_266_24 h_266_25 h_266_26 h_266_27 h_266_28) mi_X12_copies ml_RX12_311 rfl rfl (Nat.le_of_ble_eq_true rfl) (Nat.le_of_ble_eq_true rfl) (Nat.le_of_ble_eq_true rfl) dX12_count_1 (fun σ2 q3 => ?_)
  refine a_iload_n C dX12_count_4 (i := 1) rfl rfl ?_
  refine a_tableIn C dX12_count_5 (by decide) (by decide) rfl (tgt := 140) rfl ?_
  refine a_aload_n C dX12_count_140 (i := 0) rfl rfl ?_
  refine a_get C fl_RX12_110 (i := 236) kd_236 (hid 236 (by decide)) (v := .ref (ad 267)) rfl dX12_count_141 ?_
  refine a_bipush C dX12_count_144 (v := 17) rfl ?_
  refine a_iload_n C dX12_count_146 (i := 1) rfl rfl ?_
  refine a_iadd C dX12_count_147 ?_
  refine a_iald C (i := 267) 23 kd_267 (hid 267 (by decide)) (by decide) rfl (by rw [al_267]; decide) dX12_count_148 (v := 0) q3.2.2.2.2.2.2.2.2.2.2.2.2.2.2.2.2.2.2.2.2.2.2.2.2.1 ?_
  exact a_iret Rt dX12_count_149 rfl (rfl)
set_option maxHeartbeats 4000000 in
set_option maxRecDepth 100000 in
theorem q_count_7 {l : Launch} {D : va_G} {ids : List Nat} {ad : Nat → Nat} {ca : Nat → ClassId} {σ : HS} (hid : ∀ i, i < 277 → i ∈ ids) (h_236_2 : σ.1 236 2 = 0) (h_236_18 : σ.1 236 18 = 0) (h_236_54 : σ.1 236 54 = 0) (h_236_60 : σ.1 236 60 = 0) (h_253_0 : σ.1 253 0 = 0) (h_266_0 : σ.1 266 0 = 0) (h_266_1 : σ.1 266 1 = 0) (h_266_2 : σ.1 266 2 = 0) (h_266_3 : σ.1 266 3 = 0) (h_266_4 : σ.1 266 4 = 0) (h_266_5 : σ.1 266 5 = 0) (h_266_6 : σ.1 266 6 = 0) (h_266_7 : σ.1 266 7 = 0) (h_266_8 : σ.1 266 8 = 0) (h_266_9 : σ.1 266 9 = 0) (h_266_10 : σ.1 266 10 = 0) (h_266_11 : σ.1 266 11 = 0) (h_266_12 : σ.1 266 12 = 0) (h_266_13 : σ.1 266 13 = 0) (h_266_14 : σ.1 266 14 = 0) (h_266_15 : σ.1 266 15 = 0) (h_266_16 : σ.1 266 16 = 0) (h_266_17 : σ.1 266 17 = 0) (h_266_18 : σ.1 266 18 = 0) (h_266_19 : σ.1 266 19 = 0) (h_266_20 : σ.1 266 20 = 0) (h_266_21 : σ.1 266 21 = 0) (h_266_22 : σ.1 266 22 = 0) (h_266_23 : σ.1 266 23 = 0) (h_266_24 : σ.1 266 24 = 0) (h_266_25 : σ.1 266 25 = 0) (h_266_26 : σ.1 266 26 = (-2)) (h_266_27 : σ.1 266 27 = 0) (h_266_28 : σ.1 266 28 = (-1)) : Ki l D ids ad ca yX12_count cX12_count 2 .int 1 21 [.ref (ad 236), .int 7] σ (fun r _ => r = 0) := by
  refine Ki.of (by decide) (Nat.le_of_ble_eq_true rfl) 0 (fun Γ C Rt => ?_)
  show AW ids ad ca Γ 0 [some (.ref (ad 236)), some (.int 7)] [] σ
  refine a_aload_n C dX12_count_0 (i := 0) rfl rfl ?_
  refine a_callVv C (i := 236) kd_236 (hid 236 (by decide)) ⟨_, _, rfl⟩ (by decide) (m_copies hid h_236_2 h_236_18 h_236_54 h_236_60 h_253_0 h_266_0 h_266_1 h_266_2 h_266_3 h_266_4 h_266_5 h_266_6 h_266_7 h_266_8 h_266_9 h_266_10 h_266_11 h_266_12 h_266_13 h_266_14 h_266_15 h_266_16 h_266_17 h_266_18 h_266_19 h_266_20 h_266_21 h_266_22 h_266_23 h_266_24 h_266_25 h_266_26 h_266_27 h_266_28) mi_X12_copies ml_RX12_311 rfl rfl (Nat.le_of_ble_eq_true rfl) (Nat.le_of_ble_eq_true rfl) (Nat.le_of_ble_eq_true rfl) dX12_count_1 (fun σ2 q3 => ?_)
  refine a_iload_n C dX12_count_4 (i := 1) rfl rfl ?_
  refine a_tableIn C dX12_count_5 (by decide) (by decide) rfl (tgt := 140) rfl ?_
  refine a_aload_n C dX12_count_140 (i := 0) rfl rfl ?_
  refine a_get C fl_RX12_110 (i := 236) kd_236 (hid 236 (by decide)) (v := .ref (ad 267)) rfl dX12_count_141 ?_
  refine a_bipush C dX12_count_144 (v := 17) rfl ?_
  refine a_iload_n C dX12_count_146 (i := 1) rfl rfl ?_
  refine a_iadd C dX12_count_147 ?_
  refine a_iald C (i := 267) 24 kd_267 (hid 267 (by decide)) (by decide) rfl (by rw [al_267]; decide) dX12_count_148 (v := 0) q3.2.2.2.2.2.2.2.2.2.2.2.2.2.2.2.2.2.2.2.2.2.2.2.2.2.1 ?_
  exact a_iret Rt dX12_count_149 rfl (rfl)
set_option maxHeartbeats 4000000 in
set_option maxRecDepth 100000 in
theorem q_count_8 {l : Launch} {D : va_G} {ids : List Nat} {ad : Nat → Nat} {ca : Nat → ClassId} {σ : HS} (hid : ∀ i, i < 277 → i ∈ ids) (h_236_2 : σ.1 236 2 = 0) (h_236_18 : σ.1 236 18 = 0) (h_236_54 : σ.1 236 54 = 0) (h_236_60 : σ.1 236 60 = 0) (h_253_0 : σ.1 253 0 = 0) (h_266_0 : σ.1 266 0 = 0) (h_266_1 : σ.1 266 1 = 0) (h_266_2 : σ.1 266 2 = 0) (h_266_3 : σ.1 266 3 = 0) (h_266_4 : σ.1 266 4 = 0) (h_266_5 : σ.1 266 5 = 0) (h_266_6 : σ.1 266 6 = 0) (h_266_7 : σ.1 266 7 = 0) (h_266_8 : σ.1 266 8 = 0) (h_266_9 : σ.1 266 9 = 0) (h_266_10 : σ.1 266 10 = 0) (h_266_11 : σ.1 266 11 = 0) (h_266_12 : σ.1 266 12 = 0) (h_266_13 : σ.1 266 13 = 0) (h_266_14 : σ.1 266 14 = 0) (h_266_15 : σ.1 266 15 = 0) (h_266_16 : σ.1 266 16 = 0) (h_266_17 : σ.1 266 17 = 0) (h_266_18 : σ.1 266 18 = 0) (h_266_19 : σ.1 266 19 = 0) (h_266_20 : σ.1 266 20 = 0) (h_266_21 : σ.1 266 21 = 0) (h_266_22 : σ.1 266 22 = 0) (h_266_23 : σ.1 266 23 = 0) (h_266_24 : σ.1 266 24 = 0) (h_266_25 : σ.1 266 25 = 0) (h_266_26 : σ.1 266 26 = (-2)) (h_266_27 : σ.1 266 27 = 0) (h_266_28 : σ.1 266 28 = (-1)) : Ki l D ids ad ca yX12_count cX12_count 2 .int 1 21 [.ref (ad 236), .int 8] σ (fun r _ => r = 0) := by
  refine Ki.of (by decide) (Nat.le_of_ble_eq_true rfl) 0 (fun Γ C Rt => ?_)
  show AW ids ad ca Γ 0 [some (.ref (ad 236)), some (.int 8)] [] σ
  refine a_aload_n C dX12_count_0 (i := 0) rfl rfl ?_
  refine a_callVv C (i := 236) kd_236 (hid 236 (by decide)) ⟨_, _, rfl⟩ (by decide) (m_copies hid h_236_2 h_236_18 h_236_54 h_236_60 h_253_0 h_266_0 h_266_1 h_266_2 h_266_3 h_266_4 h_266_5 h_266_6 h_266_7 h_266_8 h_266_9 h_266_10 h_266_11 h_266_12 h_266_13 h_266_14 h_266_15 h_266_16 h_266_17 h_266_18 h_266_19 h_266_20 h_266_21 h_266_22 h_266_23 h_266_24 h_266_25 h_266_26 h_266_27 h_266_28) mi_X12_copies ml_RX12_311 rfl rfl (Nat.le_of_ble_eq_true rfl) (Nat.le_of_ble_eq_true rfl) (Nat.le_of_ble_eq_true rfl) dX12_count_1 (fun σ2 q3 => ?_)
  refine a_iload_n C dX12_count_4 (i := 1) rfl rfl ?_
  refine a_tableIn C dX12_count_5 (by decide) (by decide) rfl (tgt := 140) rfl ?_
  refine a_aload_n C dX12_count_140 (i := 0) rfl rfl ?_
  refine a_get C fl_RX12_110 (i := 236) kd_236 (hid 236 (by decide)) (v := .ref (ad 267)) rfl dX12_count_141 ?_
  refine a_bipush C dX12_count_144 (v := 17) rfl ?_
  refine a_iload_n C dX12_count_146 (i := 1) rfl rfl ?_
  refine a_iadd C dX12_count_147 ?_
  refine a_iald C (i := 267) 25 kd_267 (hid 267 (by decide)) (by decide) rfl (by rw [al_267]; decide) dX12_count_148 (v := 0) q3.2.2.2.2.2.2.2.2.2.2.2.2.2.2.2.2.2.2.2.2.2.2.2.2.2.2.1 ?_
  exact a_iret Rt dX12_count_149 rfl (rfl)
theorem dX12_count_150 : decode cX12_count 150 = .ok (.aload_n 0, 1) := by decide +kernel
theorem dX12_count_151 : decode cX12_count 151 = .ok (.getfield 110, 3) := by decide +kernel
theorem dX12_count_154 : decode cX12_count 154 = .ok (.bipush 26, 2) := by decide +kernel
theorem dX12_count_156 : decode cX12_count 156 = .ok (.iaload, 1) := by decide +kernel
theorem dX12_count_157 : decode cX12_count 157 = .ok (.ireturn, 1) := by decide +kernel
set_option maxHeartbeats 4000000 in
set_option maxRecDepth 100000 in
theorem q_count_9 {l : Launch} {D : va_G} {ids : List Nat} {ad : Nat → Nat} {ca : Nat → ClassId} {σ : HS} (hid : ∀ i, i < 277 → i ∈ ids) (h_236_2 : σ.1 236 2 = 0) (h_236_18 : σ.1 236 18 = 0) (h_236_54 : σ.1 236 54 = 0) (h_236_60 : σ.1 236 60 = 0) (h_253_0 : σ.1 253 0 = 0) (h_266_0 : σ.1 266 0 = 0) (h_266_1 : σ.1 266 1 = 0) (h_266_2 : σ.1 266 2 = 0) (h_266_3 : σ.1 266 3 = 0) (h_266_4 : σ.1 266 4 = 0) (h_266_5 : σ.1 266 5 = 0) (h_266_6 : σ.1 266 6 = 0) (h_266_7 : σ.1 266 7 = 0) (h_266_8 : σ.1 266 8 = 0) (h_266_9 : σ.1 266 9 = 0) (h_266_10 : σ.1 266 10 = 0) (h_266_11 : σ.1 266 11 = 0) (h_266_12 : σ.1 266 12 = 0) (h_266_13 : σ.1 266 13 = 0) (h_266_14 : σ.1 266 14 = 0) (h_266_15 : σ.1 266 15 = 0) (h_266_16 : σ.1 266 16 = 0) (h_266_17 : σ.1 266 17 = 0) (h_266_18 : σ.1 266 18 = 0) (h_266_19 : σ.1 266 19 = 0) (h_266_20 : σ.1 266 20 = 0) (h_266_21 : σ.1 266 21 = 0) (h_266_22 : σ.1 266 22 = 0) (h_266_23 : σ.1 266 23 = 0) (h_266_24 : σ.1 266 24 = 0) (h_266_25 : σ.1 266 25 = 0) (h_266_26 : σ.1 266 26 = (-2)) (h_266_27 : σ.1 266 27 = 0) (h_266_28 : σ.1 266 28 = (-1)) : Ki l D ids ad ca yX12_count cX12_count 2 .int 1 21 [.ref (ad 236), .int 9] σ (fun r _ => r = (-2)) := by
  refine Ki.of (by decide) (Nat.le_of_ble_eq_true rfl) 0 (fun Γ C Rt => ?_)
  show AW ids ad ca Γ 0 [some (.ref (ad 236)), some (.int 9)] [] σ
  refine a_aload_n C dX12_count_0 (i := 0) rfl rfl ?_
  refine a_callVv C (i := 236) kd_236 (hid 236 (by decide)) ⟨_, _, rfl⟩ (by decide) (m_copies hid h_236_2 h_236_18 h_236_54 h_236_60 h_253_0 h_266_0 h_266_1 h_266_2 h_266_3 h_266_4 h_266_5 h_266_6 h_266_7 h_266_8 h_266_9 h_266_10 h_266_11 h_266_12 h_266_13 h_266_14 h_266_15 h_266_16 h_266_17 h_266_18 h_266_19 h_266_20 h_266_21 h_266_22 h_266_23 h_266_24 h_266_25 h_266_26 h_266_27 h_266_28) mi_X12_copies ml_RX12_311 rfl rfl (Nat.le_of_ble_eq_true rfl) (Nat.le_of_ble_eq_true rfl) (Nat.le_of_ble_eq_true rfl) dX12_count_1 (fun σ2 q3 => ?_)
  refine a_iload_n C dX12_count_4 (i := 1) rfl rfl ?_
  refine a_tableIn C dX12_count_5 (by decide) (by decide) rfl (tgt := 150) rfl ?_
  refine a_aload_n C dX12_count_150 (i := 0) rfl rfl ?_
  refine a_get C fl_RX12_110 (i := 236) kd_236 (hid 236 (by decide)) (v := .ref (ad 267)) rfl dX12_count_151 ?_
  refine a_bipush C dX12_count_154 (v := 26) rfl ?_
  refine a_iald C (i := 267) 26 kd_267 (hid 267 (by decide)) (by decide) rfl (by rw [al_267]; decide) dX12_count_156 (v := (-2)) q3.2.2.2.2.2.2.2.2.2.2.2.2.2.2.2.2.2.2.2.2.2.2.2.2.2.2.2.1 ?_
  exact a_iret Rt dX12_count_157 rfl (rfl)
theorem dX12_count_158 : decode cX12_count 158 = .ok (.aload_n 0, 1) := by decide +kernel
theorem dX12_count_159 : decode cX12_count 159 = .ok (.invokevirtual 347, 3) := by decide +kernel
theorem dX12_count_162 : decode cX12_count 162 = .ok (.ireturn, 1) := by decide +kernel
set_option maxHeartbeats 4000000 in
set_option maxRecDepth 100000 in
theorem q_count_10 {l : Launch} {D : va_G} {ids : List Nat} {ad : Nat → Nat} {ca : Nat → ClassId} {σ : HS} (hid : ∀ i, i < 277 → i ∈ ids) (h_236_2 : σ.1 236 2 = 0) (h_236_18 : σ.1 236 18 = 0) (h_236_54 : σ.1 236 54 = 0) (h_236_60 : σ.1 236 60 = 0) (h_253_0 : σ.1 253 0 = 0) (h_266_0 : σ.1 266 0 = 0) (h_266_1 : σ.1 266 1 = 0) (h_266_2 : σ.1 266 2 = 0) (h_266_3 : σ.1 266 3 = 0) (h_266_4 : σ.1 266 4 = 0) (h_266_5 : σ.1 266 5 = 0) (h_266_6 : σ.1 266 6 = 0) (h_266_7 : σ.1 266 7 = 0) (h_266_8 : σ.1 266 8 = 0) (h_266_9 : σ.1 266 9 = 0) (h_266_10 : σ.1 266 10 = 0) (h_266_11 : σ.1 266 11 = 0) (h_266_12 : σ.1 266 12 = 0) (h_266_13 : σ.1 266 13 = 0) (h_266_14 : σ.1 266 14 = 0) (h_266_15 : σ.1 266 15 = 0) (h_266_16 : σ.1 266 16 = 0) (h_266_17 : σ.1 266 17 = 0) (h_266_18 : σ.1 266 18 = 0) (h_266_19 : σ.1 266 19 = 0) (h_266_20 : σ.1 266 20 = 0) (h_266_21 : σ.1 266 21 = 0) (h_266_22 : σ.1 266 22 = 0) (h_266_23 : σ.1 266 23 = 0) (h_266_24 : σ.1 266 24 = 0) (h_266_25 : σ.1 266 25 = 0) (h_266_26 : σ.1 266 26 = (-2)) (h_266_27 : σ.1 266 27 = 0) (h_266_28 : σ.1 266 28 = (-1)) : Ki l D ids ad ca yX12_count cX12_count 2 .int 1 21 [.ref (ad 236), .int 10] σ (fun r _ => r = 3) := by
  refine Ki.of (by decide) (Nat.le_of_ble_eq_true rfl) 0 (fun Γ C Rt => ?_)
  show AW ids ad ca Γ 0 [some (.ref (ad 236)), some (.int 10)] [] σ
  refine a_aload_n C dX12_count_0 (i := 0) rfl rfl ?_
  refine a_callVv C (i := 236) kd_236 (hid 236 (by decide)) ⟨_, _, rfl⟩ (by decide) (m_copies hid h_236_2 h_236_18 h_236_54 h_236_60 h_253_0 h_266_0 h_266_1 h_266_2 h_266_3 h_266_4 h_266_5 h_266_6 h_266_7 h_266_8 h_266_9 h_266_10 h_266_11 h_266_12 h_266_13 h_266_14 h_266_15 h_266_16 h_266_17 h_266_18 h_266_19 h_266_20 h_266_21 h_266_22 h_266_23 h_266_24 h_266_25 h_266_26 h_266_27 h_266_28) mi_X12_copies ml_RX12_311 rfl rfl (Nat.le_of_ble_eq_true rfl) (Nat.le_of_ble_eq_true rfl) (Nat.le_of_ble_eq_true rfl) dX12_count_1 (fun σ2 q3 => ?_)
  refine a_iload_n C dX12_count_4 (i := 1) rfl rfl ?_
  refine a_tableIn C dX12_count_5 (by decide) (by decide) rfl (tgt := 158) rfl ?_
  refine a_aload_n C dX12_count_158 (i := 0) rfl rfl ?_
  refine a_callVi C (i := 236) kd_236 (hid 236 (by decide)) ⟨_, _, rfl⟩ (by decide) (m_heightNow hid q3.2.2.2.2.2.2.2.2.2.2.2.2.2.2.2.2.2.2.2.2.2.2.2.2.2.2.2.1 q3.2.2.2.2.2.2.2.2.2.2.2.2.2.2.2.2.2.2.2.2.2.2.2.2.2.2.2.2.2.1) mi_X12_heightNow ml_RX12_347 rfl rfl (Nat.le_of_ble_eq_true rfl) (Nat.le_of_ble_eq_true rfl) (Nat.le_of_ble_eq_true rfl) dX12_count_159 (fun r4 σ5 q6 => ?_)
  obtain ⟨rfl, q6⟩ := q6
  rw [q6]
  exact a_iret Rt dX12_count_162 rfl (rfl)
theorem dX12_count_163 : decode cX12_count 163 = .ok (.aload_n 0, 1) := by decide +kernel
theorem dX12_count_164 : decode cX12_count 164 = .ok (.getfield 154, 3) := by decide +kernel
theorem dX12_count_167 : decode cX12_count 167 = .ok (.ireturn, 1) := by decide +kernel
set_option maxHeartbeats 4000000 in
set_option maxRecDepth 100000 in
theorem q_count_11 {l : Launch} {D : va_G} {ids : List Nat} {ad : Nat → Nat} {ca : Nat → ClassId} {σ : HS} (hid : ∀ i, i < 277 → i ∈ ids) (h_236_2 : σ.1 236 2 = 0) (h_236_18 : σ.1 236 18 = 0) (h_236_54 : σ.1 236 54 = 0) (h_236_60 : σ.1 236 60 = 0) (h_253_0 : σ.1 253 0 = 0) (h_266_0 : σ.1 266 0 = 0) (h_266_1 : σ.1 266 1 = 0) (h_266_2 : σ.1 266 2 = 0) (h_266_3 : σ.1 266 3 = 0) (h_266_4 : σ.1 266 4 = 0) (h_266_5 : σ.1 266 5 = 0) (h_266_6 : σ.1 266 6 = 0) (h_266_7 : σ.1 266 7 = 0) (h_266_8 : σ.1 266 8 = 0) (h_266_9 : σ.1 266 9 = 0) (h_266_10 : σ.1 266 10 = 0) (h_266_11 : σ.1 266 11 = 0) (h_266_12 : σ.1 266 12 = 0) (h_266_13 : σ.1 266 13 = 0) (h_266_14 : σ.1 266 14 = 0) (h_266_15 : σ.1 266 15 = 0) (h_266_16 : σ.1 266 16 = 0) (h_266_17 : σ.1 266 17 = 0) (h_266_18 : σ.1 266 18 = 0) (h_266_19 : σ.1 266 19 = 0) (h_266_20 : σ.1 266 20 = 0) (h_266_21 : σ.1 266 21 = 0) (h_266_22 : σ.1 266 22 = 0) (h_266_23 : σ.1 266 23 = 0) (h_266_24 : σ.1 266 24 = 0) (h_266_25 : σ.1 266 25 = 0) (h_266_26 : σ.1 266 26 = (-2)) (h_266_27 : σ.1 266 27 = 0) (h_266_28 : σ.1 266 28 = (-1)) : Ki l D ids ad ca yX12_count cX12_count 2 .int 1 21 [.ref (ad 236), .int 11] σ (fun r _ => r = 0) := by
  refine Ki.of (by decide) (Nat.le_of_ble_eq_true rfl) 0 (fun Γ C Rt => ?_)
  show AW ids ad ca Γ 0 [some (.ref (ad 236)), some (.int 11)] [] σ
  refine a_aload_n C dX12_count_0 (i := 0) rfl rfl ?_
  refine a_callVv C (i := 236) kd_236 (hid 236 (by decide)) ⟨_, _, rfl⟩ (by decide) (m_copies hid h_236_2 h_236_18 h_236_54 h_236_60 h_253_0 h_266_0 h_266_1 h_266_2 h_266_3 h_266_4 h_266_5 h_266_6 h_266_7 h_266_8 h_266_9 h_266_10 h_266_11 h_266_12 h_266_13 h_266_14 h_266_15 h_266_16 h_266_17 h_266_18 h_266_19 h_266_20 h_266_21 h_266_22 h_266_23 h_266_24 h_266_25 h_266_26 h_266_27 h_266_28) mi_X12_copies ml_RX12_311 rfl rfl (Nat.le_of_ble_eq_true rfl) (Nat.le_of_ble_eq_true rfl) (Nat.le_of_ble_eq_true rfl) dX12_count_1 (fun σ2 q3 => ?_)
  refine a_iload_n C dX12_count_4 (i := 1) rfl rfl ?_
  refine a_tableIn C dX12_count_5 (by decide) (by decide) rfl (tgt := 163) rfl ?_
  refine a_aload_n C dX12_count_163 (i := 0) rfl rfl ?_
  refine a_get C fl_RX12_154 (i := 236) kd_236 (hid 236 (by decide)) (v := .int 0) (congrArg (fun z => some (Value.int z)) q3.2.2.2.2.2.2.2.2.2.2.2.2.2.2.2.2.2.2.2.2.2.2.2.2.2.2.2.2.2.2.2.2.2) dX12_count_164 ?_
  exact a_iret Rt dX12_count_167 rfl (rfl)
theorem dX12_count_168 : decode cX12_count 168 = .ok (.aload_n 0, 1) := by decide +kernel
theorem dX12_count_169 : decode cX12_count 169 = .ok (.getfield 239, 3) := by decide +kernel
theorem dX12_count_172 : decode cX12_count 172 = .ok (.ireturn, 1) := by decide +kernel
set_option maxHeartbeats 4000000 in
set_option maxRecDepth 100000 in
theorem q_count_12 {l : Launch} {D : va_G} {ids : List Nat} {ad : Nat → Nat} {ca : Nat → ClassId} {σ : HS} (hid : ∀ i, i < 277 → i ∈ ids) (h_236_2 : σ.1 236 2 = 0) (h_236_18 : σ.1 236 18 = 0) (h_236_54 : σ.1 236 54 = 0) (h_236_60 : σ.1 236 60 = 0) (h_253_0 : σ.1 253 0 = 0) (h_266_0 : σ.1 266 0 = 0) (h_266_1 : σ.1 266 1 = 0) (h_266_2 : σ.1 266 2 = 0) (h_266_3 : σ.1 266 3 = 0) (h_266_4 : σ.1 266 4 = 0) (h_266_5 : σ.1 266 5 = 0) (h_266_6 : σ.1 266 6 = 0) (h_266_7 : σ.1 266 7 = 0) (h_266_8 : σ.1 266 8 = 0) (h_266_9 : σ.1 266 9 = 0) (h_266_10 : σ.1 266 10 = 0) (h_266_11 : σ.1 266 11 = 0) (h_266_12 : σ.1 266 12 = 0) (h_266_13 : σ.1 266 13 = 0) (h_266_14 : σ.1 266 14 = 0) (h_266_15 : σ.1 266 15 = 0) (h_266_16 : σ.1 266 16 = 0) (h_266_17 : σ.1 266 17 = 0) (h_266_18 : σ.1 266 18 = 0) (h_266_19 : σ.1 266 19 = 0) (h_266_20 : σ.1 266 20 = 0) (h_266_21 : σ.1 266 21 = 0) (h_266_22 : σ.1 266 22 = 0) (h_266_23 : σ.1 266 23 = 0) (h_266_24 : σ.1 266 24 = 0) (h_266_25 : σ.1 266 25 = 0) (h_266_26 : σ.1 266 26 = (-2)) (h_266_27 : σ.1 266 27 = 0) (h_266_28 : σ.1 266 28 = (-1)) : Ki l D ids ad ca yX12_count cX12_count 2 .int 1 21 [.ref (ad 236), .int 12] σ (fun r _ => r = 0) := by
  refine Ki.of (by decide) (Nat.le_of_ble_eq_true rfl) 0 (fun Γ C Rt => ?_)
  show AW ids ad ca Γ 0 [some (.ref (ad 236)), some (.int 12)] [] σ
  refine a_aload_n C dX12_count_0 (i := 0) rfl rfl ?_
  refine a_callVv C (i := 236) kd_236 (hid 236 (by decide)) ⟨_, _, rfl⟩ (by decide) (m_copies hid h_236_2 h_236_18 h_236_54 h_236_60 h_253_0 h_266_0 h_266_1 h_266_2 h_266_3 h_266_4 h_266_5 h_266_6 h_266_7 h_266_8 h_266_9 h_266_10 h_266_11 h_266_12 h_266_13 h_266_14 h_266_15 h_266_16 h_266_17 h_266_18 h_266_19 h_266_20 h_266_21 h_266_22 h_266_23 h_266_24 h_266_25 h_266_26 h_266_27 h_266_28) mi_X12_copies ml_RX12_311 rfl rfl (Nat.le_of_ble_eq_true rfl) (Nat.le_of_ble_eq_true rfl) (Nat.le_of_ble_eq_true rfl) dX12_count_1 (fun σ2 q3 => ?_)
  refine a_iload_n C dX12_count_4 (i := 1) rfl rfl ?_
  refine a_tableIn C dX12_count_5 (by decide) (by decide) rfl (tgt := 168) rfl ?_
  refine a_aload_n C dX12_count_168 (i := 0) rfl rfl ?_
  refine a_get C fl_RX12_239 (i := 236) kd_236 (hid 236 (by decide)) (v := .int 0) (congrArg (fun z => some (Value.int z)) q3.2.2.2.2.2.2.2.2.2.2.2.2.2.2.2.2.2.2.2.2.2.2.2.2.2.2.2.2.2.2.2.1) dX12_count_169 ?_
  exact a_iret Rt dX12_count_172 rfl (rfl)
theorem dX12_count_173 : decode cX12_count 173 = .ok (.aload_n 0, 1) := by decide +kernel
theorem dX12_count_174 : decode cX12_count 174 = .ok (.getfield 242, 3) := by decide +kernel
theorem dX12_count_177 : decode cX12_count 177 = .ok (.ireturn, 1) := by decide +kernel
set_option maxHeartbeats 4000000 in
set_option maxRecDepth 100000 in
theorem q_count_13 {l : Launch} {D : va_G} {ids : List Nat} {ad : Nat → Nat} {ca : Nat → ClassId} {σ : HS} (hid : ∀ i, i < 277 → i ∈ ids) (h_236_2 : σ.1 236 2 = 0) (h_236_18 : σ.1 236 18 = 0) (h_236_54 : σ.1 236 54 = 0) (h_236_60 : σ.1 236 60 = 0) (h_253_0 : σ.1 253 0 = 0) (h_266_0 : σ.1 266 0 = 0) (h_266_1 : σ.1 266 1 = 0) (h_266_2 : σ.1 266 2 = 0) (h_266_3 : σ.1 266 3 = 0) (h_266_4 : σ.1 266 4 = 0) (h_266_5 : σ.1 266 5 = 0) (h_266_6 : σ.1 266 6 = 0) (h_266_7 : σ.1 266 7 = 0) (h_266_8 : σ.1 266 8 = 0) (h_266_9 : σ.1 266 9 = 0) (h_266_10 : σ.1 266 10 = 0) (h_266_11 : σ.1 266 11 = 0) (h_266_12 : σ.1 266 12 = 0) (h_266_13 : σ.1 266 13 = 0) (h_266_14 : σ.1 266 14 = 0) (h_266_15 : σ.1 266 15 = 0) (h_266_16 : σ.1 266 16 = 0) (h_266_17 : σ.1 266 17 = 0) (h_266_18 : σ.1 266 18 = 0) (h_266_19 : σ.1 266 19 = 0) (h_266_20 : σ.1 266 20 = 0) (h_266_21 : σ.1 266 21 = 0) (h_266_22 : σ.1 266 22 = 0) (h_266_23 : σ.1 266 23 = 0) (h_266_24 : σ.1 266 24 = 0) (h_266_25 : σ.1 266 25 = 0) (h_266_26 : σ.1 266 26 = (-2)) (h_266_27 : σ.1 266 27 = 0) (h_266_28 : σ.1 266 28 = (-1)) : Ki l D ids ad ca yX12_count cX12_count 2 .int 1 21 [.ref (ad 236), .int 13] σ (fun r _ => r = 0) := by
  refine Ki.of (by decide) (Nat.le_of_ble_eq_true rfl) 0 (fun Γ C Rt => ?_)
  show AW ids ad ca Γ 0 [some (.ref (ad 236)), some (.int 13)] [] σ
  refine a_aload_n C dX12_count_0 (i := 0) rfl rfl ?_
  refine a_callVv C (i := 236) kd_236 (hid 236 (by decide)) ⟨_, _, rfl⟩ (by decide) (m_copies hid h_236_2 h_236_18 h_236_54 h_236_60 h_253_0 h_266_0 h_266_1 h_266_2 h_266_3 h_266_4 h_266_5 h_266_6 h_266_7 h_266_8 h_266_9 h_266_10 h_266_11 h_266_12 h_266_13 h_266_14 h_266_15 h_266_16 h_266_17 h_266_18 h_266_19 h_266_20 h_266_21 h_266_22 h_266_23 h_266_24 h_266_25 h_266_26 h_266_27 h_266_28) mi_X12_copies ml_RX12_311 rfl rfl (Nat.le_of_ble_eq_true rfl) (Nat.le_of_ble_eq_true rfl) (Nat.le_of_ble_eq_true rfl) dX12_count_1 (fun σ2 q3 => ?_)
  refine a_iload_n C dX12_count_4 (i := 1) rfl rfl ?_
  refine a_tableIn C dX12_count_5 (by decide) (by decide) rfl (tgt := 173) rfl ?_
  refine a_aload_n C dX12_count_173 (i := 0) rfl rfl ?_
  refine a_get C fl_RX12_242 (i := 236) kd_236 (hid 236 (by decide)) (v := .int 0) (congrArg (fun z => some (Value.int z)) q3.2.2.2.2.2.2.2.2.2.2.2.2.2.2.2.2.2.2.2.2.2.2.2.2.2.2.2.2.2.2.2.2.1) dX12_count_174 ?_
  exact a_iret Rt dX12_count_177 rfl (rfl)
theorem dX12_count_178 : decode cX12_count 178 = .ok (.aload_n 0, 1) := by decide +kernel
theorem dX12_count_179 : decode cX12_count 179 = .ok (.getfield 134, 3) := by decide +kernel
theorem dX12_count_182 : decode cX12_count 182 = .ok (.iconst 0, 1) := by decide +kernel
theorem dX12_count_183 : decode cX12_count 183 = .ok (.baload, 1) := by decide +kernel
theorem dX12_count_184 : decode cX12_count 184 = .ok (.ifCond .eq 7, 3) := by decide +kernel
theorem dX12_count_191 : decode cX12_count 191 = .ok (.iconst 0, 1) := by decide +kernel
theorem dX12_count_192 : decode cX12_count 192 = .ok (.aload_n 0, 1) := by decide +kernel
theorem dX12_count_193 : decode cX12_count 193 = .ok (.getfield 134, 3) := by decide +kernel
theorem dX12_count_196 : decode cX12_count 196 = .ok (.iconst 1, 1) := by decide +kernel
theorem dX12_count_197 : decode cX12_count 197 = .ok (.baload, 1) := by decide +kernel
theorem dX12_count_198 : decode cX12_count 198 = .ok (.ifCond .eq 7, 3) := by decide +kernel
theorem dX12_count_205 : decode cX12_count 205 = .ok (.iconst 0, 1) := by decide +kernel
theorem dX12_count_206 : decode cX12_count 206 = .ok (.iadd, 1) := by decide +kernel
theorem dX12_count_207 : decode cX12_count 207 = .ok (.aload_n 0, 1) := by decide +kernel
theorem dX12_count_208 : decode cX12_count 208 = .ok (.getfield 134, 3) := by decide +kernel
theorem dX12_count_211 : decode cX12_count 211 = .ok (.iconst 2, 1) := by decide +kernel
theorem dX12_count_212 : decode cX12_count 212 = .ok (.baload, 1) := by decide +kernel
theorem dX12_count_213 : decode cX12_count 213 = .ok (.ifCond .eq 7, 3) := by decide +kernel
theorem dX12_count_220 : decode cX12_count 220 = .ok (.iconst 0, 1) := by decide +kernel
theorem dX12_count_221 : decode cX12_count 221 = .ok (.iadd, 1) := by decide +kernel
theorem dX12_count_222 : decode cX12_count 222 = .ok (.ireturn, 1) := by decide +kernel
set_option maxHeartbeats 4000000 in
set_option maxRecDepth 100000 in
theorem q_count_14 {l : Launch} {D : va_G} {ids : List Nat} {ad : Nat → Nat} {ca : Nat → ClassId} {σ : HS} (hid : ∀ i, i < 277 → i ∈ ids) (h_236_2 : σ.1 236 2 = 0) (h_236_18 : σ.1 236 18 = 0) (h_236_54 : σ.1 236 54 = 0) (h_236_60 : σ.1 236 60 = 0) (h_253_0 : σ.1 253 0 = 0) (h_266_0 : σ.1 266 0 = 0) (h_266_1 : σ.1 266 1 = 0) (h_266_2 : σ.1 266 2 = 0) (h_266_3 : σ.1 266 3 = 0) (h_266_4 : σ.1 266 4 = 0) (h_266_5 : σ.1 266 5 = 0) (h_266_6 : σ.1 266 6 = 0) (h_266_7 : σ.1 266 7 = 0) (h_266_8 : σ.1 266 8 = 0) (h_266_9 : σ.1 266 9 = 0) (h_266_10 : σ.1 266 10 = 0) (h_266_11 : σ.1 266 11 = 0) (h_266_12 : σ.1 266 12 = 0) (h_266_13 : σ.1 266 13 = 0) (h_266_14 : σ.1 266 14 = 0) (h_266_15 : σ.1 266 15 = 0) (h_266_16 : σ.1 266 16 = 0) (h_266_17 : σ.1 266 17 = 0) (h_266_18 : σ.1 266 18 = 0) (h_266_19 : σ.1 266 19 = 0) (h_266_20 : σ.1 266 20 = 0) (h_266_21 : σ.1 266 21 = 0) (h_266_22 : σ.1 266 22 = 0) (h_266_23 : σ.1 266 23 = 0) (h_266_24 : σ.1 266 24 = 0) (h_266_25 : σ.1 266 25 = 0) (h_266_26 : σ.1 266 26 = (-2)) (h_266_27 : σ.1 266 27 = 0) (h_266_28 : σ.1 266 28 = (-1)) (h_275_0 : σ.1 275 0 = 0) (h_275_1 : σ.1 275 1 = 0) (h_275_2 : σ.1 275 2 = 0) : Ki l D ids ad ca yX12_count cX12_count 2 .int 1 21 [.ref (ad 236), .int 14] σ (fun r _ => r = 0) := by
  refine Ki.of (by decide) (Nat.le_of_ble_eq_true rfl) 0 (fun Γ C Rt => ?_)
  show AW ids ad ca Γ 0 [some (.ref (ad 236)), some (.int 14)] [] σ
  refine a_aload_n C dX12_count_0 (i := 0) rfl rfl ?_
  refine a_callVv C (i := 236) kd_236 (hid 236 (by decide)) ⟨_, _, rfl⟩ (by decide) (m_copies hid h_236_2 h_236_18 h_236_54 h_236_60 h_253_0 h_266_0 h_266_1 h_266_2 h_266_3 h_266_4 h_266_5 h_266_6 h_266_7 h_266_8 h_266_9 h_266_10 h_266_11 h_266_12 h_266_13 h_266_14 h_266_15 h_266_16 h_266_17 h_266_18 h_266_19 h_266_20 h_266_21 h_266_22 h_266_23 h_266_24 h_266_25 h_266_26 h_266_27 h_266_28) mi_X12_copies ml_RX12_311 rfl rfl (Nat.le_of_ble_eq_true rfl) (Nat.le_of_ble_eq_true rfl) (Nat.le_of_ble_eq_true rfl) dX12_count_1 (fun σ2 q3 => ?_)
  refine a_iload_n C dX12_count_4 (i := 1) rfl rfl ?_
  refine a_tableIn C dX12_count_5 (by decide) (by decide) rfl (tgt := 178) rfl ?_
  refine a_aload_n C dX12_count_178 (i := 0) rfl rfl ?_
  refine a_get C fl_RX12_134 (i := 236) kd_236 (hid 236 (by decide)) (v := .ref (ad 275)) rfl dX12_count_179 ?_
  refine a_iconst C dX12_count_182 (v := 0) rfl ?_
  refine a_zald C (i := 275) 0 kd_275 (hid 275 (by decide)) (by decide) rfl (by rw [al_275]; decide) dX12_count_183 (v := 0) ((congrFun (q3.1.1 275 (by decide)) 0).trans h_275_0) ?_
  refine a_if_eq C dX12_count_184 (tgt := 191) rfl (fun _ => ?_) (fun h => absurd h (by decide))
  refine a_iconst C dX12_count_191 (v := 0) rfl ?_
  refine a_aload_n C dX12_count_192 (i := 0) rfl rfl ?_
  refine a_get C fl_RX12_134 (i := 236) kd_236 (hid 236 (by decide)) (v := .ref (ad 275)) rfl dX12_count_193 ?_
  refine a_iconst C dX12_count_196 (v := 1) rfl ?_
  refine a_zald C (i := 275) 1 kd_275 (hid 275 (by decide)) (by decide) rfl (by rw [al_275]; decide) dX12_count_197 (v := 0) ((congrFun (q3.1.1 275 (by decide)) 1).trans h_275_1) ?_
  refine a_if_eq C dX12_count_198 (tgt := 205) rfl (fun _ => ?_) (fun h => absurd h (by decide))
  refine a_iconst C dX12_count_205 (v := 0) rfl ?_
  refine a_iadd C dX12_count_206 ?_
  refine a_aload_n C dX12_count_207 (i := 0) rfl rfl ?_
  refine a_get C fl_RX12_134 (i := 236) kd_236 (hid 236 (by decide)) (v := .ref (ad 275)) rfl dX12_count_208 ?_
  refine a_iconst C dX12_count_211 (v := 2) rfl ?_
  refine a_zald C (i := 275) 2 kd_275 (hid 275 (by decide)) (by decide) rfl (by rw [al_275]; decide) dX12_count_212 (v := 0) ((congrFun (q3.1.1 275 (by decide)) 2).trans h_275_2) ?_
  refine a_if_eq C dX12_count_213 (tgt := 220) rfl (fun _ => ?_) (fun h => absurd h (by decide))
  refine a_iconst C dX12_count_220 (v := 0) rfl ?_
  refine a_iadd C dX12_count_221 ?_
  exact a_iret Rt dX12_count_222 rfl (rfl)
theorem dX12_count_223 : decode cX12_count 223 = .ok (.aload_n 0, 1) := by decide +kernel
theorem dX12_count_224 : decode cX12_count 224 = .ok (.aload_n 0, 1) := by decide +kernel
theorem dX12_count_225 : decode cX12_count 225 = .ok (.iconst 0, 1) := by decide +kernel
theorem dX12_count_226 : decode cX12_count 226 = .ok (.invokevirtual 350, 3) := by decide +kernel
theorem dX12_count_229 : decode cX12_count 229 = .ok (.invokevirtual 461, 3) := by decide +kernel
theorem dX12_count_232 : decode cX12_count 232 = .ok (.ireturn, 1) := by decide +kernel
set_option maxHeartbeats 4000000 in
set_option maxRecDepth 100000 in
theorem q_count_15 {l : Launch} {D : va_G} {ids : List Nat} {ad : Nat → Nat} {ca : Nat → ClassId} {σ : HS} (hid : ∀ i, i < 277 → i ∈ ids) (h_236_2 : σ.1 236 2 = 0) (h_236_18 : σ.1 236 18 = 0) (h_236_54 : σ.1 236 54 = 0) (h_236_60 : σ.1 236 60 = 0) (h_245_0 : σ.1 245 0 = 0) (h_253_0 : σ.1 253 0 = 0) (h_266_0 : σ.1 266 0 = 0) (h_266_1 : σ.1 266 1 = 0) (h_266_2 : σ.1 266 2 = 0) (h_266_3 : σ.1 266 3 = 0) (h_266_4 : σ.1 266 4 = 0) (h_266_5 : σ.1 266 5 = 0) (h_266_6 : σ.1 266 6 = 0) (h_266_7 : σ.1 266 7 = 0) (h_266_8 : σ.1 266 8 = 0) (h_266_9 : σ.1 266 9 = 0) (h_266_10 : σ.1 266 10 = 0) (h_266_11 : σ.1 266 11 = 0) (h_266_12 : σ.1 266 12 = 0) (h_266_13 : σ.1 266 13 = 0) (h_266_14 : σ.1 266 14 = 0) (h_266_15 : σ.1 266 15 = 0) (h_266_16 : σ.1 266 16 = 0) (h_266_17 : σ.1 266 17 = 0) (h_266_18 : σ.1 266 18 = 0) (h_266_19 : σ.1 266 19 = 0) (h_266_20 : σ.1 266 20 = 0) (h_266_21 : σ.1 266 21 = 0) (h_266_22 : σ.1 266 22 = 0) (h_266_23 : σ.1 266 23 = 0) (h_266_24 : σ.1 266 24 = 0) (h_266_25 : σ.1 266 25 = 0) (h_266_26 : σ.1 266 26 = (-2)) (h_266_27 : σ.1 266 27 = 0) (h_266_28 : σ.1 266 28 = (-1)) : Ki l D ids ad ca yX12_count cX12_count 2 .int 1 23 [.ref (ad 236), .int 15] σ (fun r _ => r = 0) := by
  refine Ki.of (by decide) (Nat.le_of_ble_eq_true rfl) 0 (fun Γ C Rt => ?_)
  show AW ids ad ca Γ 0 [some (.ref (ad 236)), some (.int 15)] [] σ
  refine a_aload_n C dX12_count_0 (i := 0) rfl rfl ?_
  refine a_callVv C (i := 236) kd_236 (hid 236 (by decide)) ⟨_, _, rfl⟩ (by decide) (m_copies hid h_236_2 h_236_18 h_236_54 h_236_60 h_253_0 h_266_0 h_266_1 h_266_2 h_266_3 h_266_4 h_266_5 h_266_6 h_266_7 h_266_8 h_266_9 h_266_10 h_266_11 h_266_12 h_266_13 h_266_14 h_266_15 h_266_16 h_266_17 h_266_18 h_266_19 h_266_20 h_266_21 h_266_22 h_266_23 h_266_24 h_266_25 h_266_26 h_266_27 h_266_28) mi_X12_copies ml_RX12_311 rfl rfl (Nat.le_of_ble_eq_true rfl) (Nat.le_of_ble_eq_true rfl) (Nat.le_of_ble_eq_true rfl) dX12_count_1 (fun σ2 q3 => ?_)
  refine a_iload_n C dX12_count_4 (i := 1) rfl rfl ?_
  refine a_tableIn C dX12_count_5 (by decide) (by decide) rfl (tgt := 223) rfl ?_
  refine a_aload_n C dX12_count_223 (i := 0) rfl rfl ?_
  refine a_aload_n C dX12_count_224 (i := 0) rfl rfl ?_
  refine a_iconst C dX12_count_225 (v := 0) rfl ?_
  refine a_callVi C (i := 236) kd_236 (hid 236 (by decide)) ⟨_, _, rfl⟩ (by decide) (m_thingsSo hid q3.2.2.2.2.2.2.2.2.2.2.2.2.2.2.2.2.2.2.2.2.2.2.2.2.2.2.2.2.2.2.1 ((congrFun (q3.1.1 245 (by decide)) 0).trans h_245_0)) mi_X12_thingsSo ml_RX12_350 rfl rfl (Nat.le_of_ble_eq_true rfl) (Nat.le_of_ble_eq_true rfl) (Nat.le_of_ble_eq_true rfl) dX12_count_226 (fun r4 σ5 q6 => ?_)
  obtain ⟨rfl, q6⟩ := q6
  rw [q6]
  refine a_callVi C (i := 236) kd_236 (hid 236 (by decide)) ⟨_, _, rfl⟩ (by decide) (m_weightsOf hid q3.2.2.2.2.2.2.2.2.2.2.2.2.2.2.2.2.2.2.2.2.2.2.2.2.2.2.2.2.2.2.1 ((congrFun (q3.1.1 245 (by decide)) 0).trans h_245_0)) mi_X12_weightsOf ml_RX12_461 rfl rfl (Nat.le_of_ble_eq_true rfl) (Nat.le_of_ble_eq_true rfl) (Nat.le_of_ble_eq_true rfl) dX12_count_229 (fun r7 σ8 q9 => ?_)
  obtain ⟨rfl, q9⟩ := q9
  rw [q9]
  exact a_iret Rt dX12_count_232 rfl (rfl)
theorem dX12_count_233 : decode cX12_count 233 = .ok (.aload_n 0, 1) := by decide +kernel
theorem dX12_count_234 : decode cX12_count 234 = .ok (.aload_n 0, 1) := by decide +kernel
theorem dX12_count_235 : decode cX12_count 235 = .ok (.iconst 2, 1) := by decide +kernel
theorem dX12_count_236 : decode cX12_count 236 = .ok (.invokevirtual 350, 3) := by decide +kernel
theorem dX12_count_239 : decode cX12_count 239 = .ok (.invokevirtual 461, 3) := by decide +kernel
theorem dX12_count_242 : decode cX12_count 242 = .ok (.ireturn, 1) := by decide +kernel
set_option maxHeartbeats 4000000 in
set_option maxRecDepth 100000 in
theorem q_count_16 {l : Launch} {D : va_G} {ids : List Nat} {ad : Nat → Nat} {ca : Nat → ClassId} {σ : HS} (hid : ∀ i, i < 277 → i ∈ ids) (h_236_2 : σ.1 236 2 = 0) (h_236_18 : σ.1 236 18 = 0) (h_236_54 : σ.1 236 54 = 0) (h_236_60 : σ.1 236 60 = 0) (h_245_0 : σ.1 245 0 = 0) (h_253_0 : σ.1 253 0 = 0) (h_266_0 : σ.1 266 0 = 0) (h_266_1 : σ.1 266 1 = 0) (h_266_2 : σ.1 266 2 = 0) (h_266_3 : σ.1 266 3 = 0) (h_266_4 : σ.1 266 4 = 0) (h_266_5 : σ.1 266 5 = 0) (h_266_6 : σ.1 266 6 = 0) (h_266_7 : σ.1 266 7 = 0) (h_266_8 : σ.1 266 8 = 0) (h_266_9 : σ.1 266 9 = 0) (h_266_10 : σ.1 266 10 = 0) (h_266_11 : σ.1 266 11 = 0) (h_266_12 : σ.1 266 12 = 0) (h_266_13 : σ.1 266 13 = 0) (h_266_14 : σ.1 266 14 = 0) (h_266_15 : σ.1 266 15 = 0) (h_266_16 : σ.1 266 16 = 0) (h_266_17 : σ.1 266 17 = 0) (h_266_18 : σ.1 266 18 = 0) (h_266_19 : σ.1 266 19 = 0) (h_266_20 : σ.1 266 20 = 0) (h_266_21 : σ.1 266 21 = 0) (h_266_22 : σ.1 266 22 = 0) (h_266_23 : σ.1 266 23 = 0) (h_266_24 : σ.1 266 24 = 0) (h_266_25 : σ.1 266 25 = 0) (h_266_26 : σ.1 266 26 = (-2)) (h_266_27 : σ.1 266 27 = 0) (h_266_28 : σ.1 266 28 = (-1)) : Ki l D ids ad ca yX12_count cX12_count 2 .int 1 23 [.ref (ad 236), .int 16] σ (fun r _ => r = 0) := by
  refine Ki.of (by decide) (Nat.le_of_ble_eq_true rfl) 0 (fun Γ C Rt => ?_)
  show AW ids ad ca Γ 0 [some (.ref (ad 236)), some (.int 16)] [] σ
  refine a_aload_n C dX12_count_0 (i := 0) rfl rfl ?_
  refine a_callVv C (i := 236) kd_236 (hid 236 (by decide)) ⟨_, _, rfl⟩ (by decide) (m_copies hid h_236_2 h_236_18 h_236_54 h_236_60 h_253_0 h_266_0 h_266_1 h_266_2 h_266_3 h_266_4 h_266_5 h_266_6 h_266_7 h_266_8 h_266_9 h_266_10 h_266_11 h_266_12 h_266_13 h_266_14 h_266_15 h_266_16 h_266_17 h_266_18 h_266_19 h_266_20 h_266_21 h_266_22 h_266_23 h_266_24 h_266_25 h_266_26 h_266_27 h_266_28) mi_X12_copies ml_RX12_311 rfl rfl (Nat.le_of_ble_eq_true rfl) (Nat.le_of_ble_eq_true rfl) (Nat.le_of_ble_eq_true rfl) dX12_count_1 (fun σ2 q3 => ?_)
  refine a_iload_n C dX12_count_4 (i := 1) rfl rfl ?_
  refine a_tableIn C dX12_count_5 (by decide) (by decide) rfl (tgt := 233) rfl ?_
  refine a_aload_n C dX12_count_233 (i := 0) rfl rfl ?_
  refine a_aload_n C dX12_count_234 (i := 0) rfl rfl ?_
  refine a_iconst C dX12_count_235 (v := 2) rfl ?_
  refine a_callVi C (i := 236) kd_236 (hid 236 (by decide)) ⟨_, _, rfl⟩ (by decide) (m_thingsSo hid q3.2.2.2.2.2.2.2.2.2.2.2.2.2.2.2.2.2.2.2.2.2.2.2.2.2.2.2.2.2.2.1 ((congrFun (q3.1.1 245 (by decide)) 0).trans h_245_0)) mi_X12_thingsSo ml_RX12_350 rfl rfl (Nat.le_of_ble_eq_true rfl) (Nat.le_of_ble_eq_true rfl) (Nat.le_of_ble_eq_true rfl) dX12_count_236 (fun r4 σ5 q6 => ?_)
  obtain ⟨rfl, q6⟩ := q6
  rw [q6]
  refine a_callVi C (i := 236) kd_236 (hid 236 (by decide)) ⟨_, _, rfl⟩ (by decide) (m_weightsOf hid q3.2.2.2.2.2.2.2.2.2.2.2.2.2.2.2.2.2.2.2.2.2.2.2.2.2.2.2.2.2.2.1 ((congrFun (q3.1.1 245 (by decide)) 0).trans h_245_0)) mi_X12_weightsOf ml_RX12_461 rfl rfl (Nat.le_of_ble_eq_true rfl) (Nat.le_of_ble_eq_true rfl) (Nat.le_of_ble_eq_true rfl) dX12_count_239 (fun r7 σ8 q9 => ?_)
  obtain ⟨rfl, q9⟩ := q9
  rw [q9]
  exact a_iret Rt dX12_count_242 rfl (rfl)
theorem dX12_count_243 : decode cX12_count 243 = .ok (.aload_n 0, 1) := by decide +kernel
theorem dX12_count_244 : decode cX12_count 244 = .ok (.iconst 1, 1) := by decide +kernel
theorem dX12_count_245 : decode cX12_count 245 = .ok (.invokevirtual 350, 3) := by decide +kernel
theorem dX12_count_248 : decode cX12_count 248 = .ok (.ireturn, 1) := by decide +kernel
set_option maxHeartbeats 4000000 in
set_option maxRecDepth 100000 in
theorem q_count_17 {l : Launch} {D : va_G} {ids : List Nat} {ad : Nat → Nat} {ca : Nat → ClassId} {σ : HS} (hid : ∀ i, i < 277 → i ∈ ids) (h_236_2 : σ.1 236 2 = 0) (h_236_18 : σ.1 236 18 = 0) (h_236_54 : σ.1 236 54 = 0) (h_236_60 : σ.1 236 60 = 0) (h_245_0 : σ.1 245 0 = 0) (h_253_0 : σ.1 253 0 = 0) (h_266_0 : σ.1 266 0 = 0) (h_266_1 : σ.1 266 1 = 0) (h_266_2 : σ.1 266 2 = 0) (h_266_3 : σ.1 266 3 = 0) (h_266_4 : σ.1 266 4 = 0) (h_266_5 : σ.1 266 5 = 0) (h_266_6 : σ.1 266 6 = 0) (h_266_7 : σ.1 266 7 = 0) (h_266_8 : σ.1 266 8 = 0) (h_266_9 : σ.1 266 9 = 0) (h_266_10 : σ.1 266 10 = 0) (h_266_11 : σ.1 266 11 = 0) (h_266_12 : σ.1 266 12 = 0) (h_266_13 : σ.1 266 13 = 0) (h_266_14 : σ.1 266 14 = 0) (h_266_15 : σ.1 266 15 = 0) (h_266_16 : σ.1 266 16 = 0) (h_266_17 : σ.1 266 17 = 0) (h_266_18 : σ.1 266 18 = 0) (h_266_19 : σ.1 266 19 = 0) (h_266_20 : σ.1 266 20 = 0) (h_266_21 : σ.1 266 21 = 0) (h_266_22 : σ.1 266 22 = 0) (h_266_23 : σ.1 266 23 = 0) (h_266_24 : σ.1 266 24 = 0) (h_266_25 : σ.1 266 25 = 0) (h_266_26 : σ.1 266 26 = (-2)) (h_266_27 : σ.1 266 27 = 0) (h_266_28 : σ.1 266 28 = (-1)) : Ki l D ids ad ca yX12_count cX12_count 2 .int 1 23 [.ref (ad 236), .int 17] σ (fun r _ => r = 0) := by
  refine Ki.of (by decide) (Nat.le_of_ble_eq_true rfl) 0 (fun Γ C Rt => ?_)
  show AW ids ad ca Γ 0 [some (.ref (ad 236)), some (.int 17)] [] σ
  refine a_aload_n C dX12_count_0 (i := 0) rfl rfl ?_
  refine a_callVv C (i := 236) kd_236 (hid 236 (by decide)) ⟨_, _, rfl⟩ (by decide) (m_copies hid h_236_2 h_236_18 h_236_54 h_236_60 h_253_0 h_266_0 h_266_1 h_266_2 h_266_3 h_266_4 h_266_5 h_266_6 h_266_7 h_266_8 h_266_9 h_266_10 h_266_11 h_266_12 h_266_13 h_266_14 h_266_15 h_266_16 h_266_17 h_266_18 h_266_19 h_266_20 h_266_21 h_266_22 h_266_23 h_266_24 h_266_25 h_266_26 h_266_27 h_266_28) mi_X12_copies ml_RX12_311 rfl rfl (Nat.le_of_ble_eq_true rfl) (Nat.le_of_ble_eq_true rfl) (Nat.le_of_ble_eq_true rfl) dX12_count_1 (fun σ2 q3 => ?_)
  refine a_iload_n C dX12_count_4 (i := 1) rfl rfl ?_
  refine a_tableIn C dX12_count_5 (by decide) (by decide) rfl (tgt := 243) rfl ?_
  refine a_aload_n C dX12_count_243 (i := 0) rfl rfl ?_
  refine a_iconst C dX12_count_244 (v := 1) rfl ?_
  refine a_callVi C (i := 236) kd_236 (hid 236 (by decide)) ⟨_, _, rfl⟩ (by decide) (m_thingsSo hid q3.2.2.2.2.2.2.2.2.2.2.2.2.2.2.2.2.2.2.2.2.2.2.2.2.2.2.2.2.2.2.1 ((congrFun (q3.1.1 245 (by decide)) 0).trans h_245_0)) mi_X12_thingsSo ml_RX12_350 rfl rfl (Nat.le_of_ble_eq_true rfl) (Nat.le_of_ble_eq_true rfl) (Nat.le_of_ble_eq_true rfl) dX12_count_245 (fun r4 σ5 q6 => ?_)
  obtain ⟨rfl, q6⟩ := q6
  rw [q6]
  exact a_iret Rt dX12_count_248 rfl (rfl)
theorem dX12_count_249 : decode cX12_count 249 = .ok (.iconst (-1), 1) := by decide +kernel
theorem dX12_count_250 : decode cX12_count 250 = .ok (.ireturn, 1) := by decide +kernel
set_option maxHeartbeats 4000000 in
set_option maxRecDepth 100000 in
theorem q_count_out {l : Launch} {D : va_G} {ids : List Nat} {ad : Nat → Nat} {ca : Nat → ClassId} {σ : HS} {p0 : Int32} (hid : ∀ i, i < 277 → i ∈ ids) (hsw : p0.toInt < 0 ∨ 17 < p0.toInt) (h_236_2 : σ.1 236 2 = 0) (h_236_18 : σ.1 236 18 = 0) (h_236_54 : σ.1 236 54 = 0) (h_236_60 : σ.1 236 60 = 0) (h_253_0 : σ.1 253 0 = 0) (h_266_0 : σ.1 266 0 = 0) (h_266_1 : σ.1 266 1 = 0) (h_266_2 : σ.1 266 2 = 0) (h_266_3 : σ.1 266 3 = 0) (h_266_4 : σ.1 266 4 = 0) (h_266_5 : σ.1 266 5 = 0) (h_266_6 : σ.1 266 6 = 0) (h_266_7 : σ.1 266 7 = 0) (h_266_8 : σ.1 266 8 = 0) (h_266_9 : σ.1 266 9 = 0) (h_266_10 : σ.1 266 10 = 0) (h_266_11 : σ.1 266 11 = 0) (h_266_12 : σ.1 266 12 = 0) (h_266_13 : σ.1 266 13 = 0) (h_266_14 : σ.1 266 14 = 0) (h_266_15 : σ.1 266 15 = 0) (h_266_16 : σ.1 266 16 = 0) (h_266_17 : σ.1 266 17 = 0) (h_266_18 : σ.1 266 18 = 0) (h_266_19 : σ.1 266 19 = 0) (h_266_20 : σ.1 266 20 = 0) (h_266_21 : σ.1 266 21 = 0) (h_266_22 : σ.1 266 22 = 0) (h_266_23 : σ.1 266 23 = 0) (h_266_24 : σ.1 266 24 = 0) (h_266_25 : σ.1 266 25 = 0) (h_266_26 : σ.1 266 26 = (-2)) (h_266_27 : σ.1 266 27 = 0) (h_266_28 : σ.1 266 28 = (-1)) : Ki l D ids ad ca yX12_count cX12_count 2 .int 1 21 [.ref (ad 236), .int p0] σ (fun r _ => r = (-1)) := by
  refine Ki.of (by decide) (Nat.le_of_ble_eq_true rfl) 0 (fun Γ C Rt => ?_)
  show AW ids ad ca Γ 0 [some (.ref (ad 236)), some (.int p0)] [] σ
  refine a_aload_n C dX12_count_0 (i := 0) rfl rfl ?_
  refine a_callVv C (i := 236) kd_236 (hid 236 (by decide)) ⟨_, _, rfl⟩ (by decide) (m_copies hid h_236_2 h_236_18 h_236_54 h_236_60 h_253_0 h_266_0 h_266_1 h_266_2 h_266_3 h_266_4 h_266_5 h_266_6 h_266_7 h_266_8 h_266_9 h_266_10 h_266_11 h_266_12 h_266_13 h_266_14 h_266_15 h_266_16 h_266_17 h_266_18 h_266_19 h_266_20 h_266_21 h_266_22 h_266_23 h_266_24 h_266_25 h_266_26 h_266_27 h_266_28) mi_X12_copies ml_RX12_311 rfl rfl (Nat.le_of_ble_eq_true rfl) (Nat.le_of_ble_eq_true rfl) (Nat.le_of_ble_eq_true rfl) dX12_count_1 (fun σ2 q3 => ?_)
  refine a_iload_n C dX12_count_4 (i := 1) rfl rfl ?_
  refine a_tableOut C dX12_count_5 hsw (tgt := 249) rfl ?_
  refine a_iconst C dX12_count_249 (v := (-1)) rfl ?_
  exact a_iret Rt dX12_count_250 rfl (rfl)
theorem dX12_set_0 : decode cX12_set 0 = .ok (.iload_n 1, 1) := by decide +kernel
theorem dX12_set_1 : decode cX12_set 1 = .ok (.iconst 0, 1) := by decide +kernel
theorem dX12_set_2 : decode cX12_set 2 = .ok (.bipush 9, 2) := by decide +kernel
theorem dX12_set_4 : decode cX12_set 4 = .ok (.invokestatic 301, 3) := by decide +kernel
theorem dX12_set_7 : decode cX12_set 7 = .ok (.ifCond .eq 14, 3) := by decide +kernel
theorem dX12_set_10 : decode cX12_set 10 = .ok (.aload_n 0, 1) := by decide +kernel
theorem dX12_set_11 : decode cX12_set 11 = .ok (.getfield 107, 3) := by decide +kernel
theorem dX12_set_14 : decode cX12_set 14 = .ok (.bipush 28, 2) := by decide +kernel
theorem dX12_set_16 : decode cX12_set 16 = .ok (.iaload, 1) := by decide +kernel
theorem dX12_set_17 : decode cX12_set 17 = .ok (.iload_n 1, 1) := by decide +kernel
theorem dX12_set_18 : decode cX12_set 18 = .ok (.if_icmp .ne 5, 3) := by decide +kernel
theorem dX12_set_23 : decode cX12_set 23 = .ok (.aload_n 0, 1) := by decide +kernel
theorem dX12_set_24 : decode cX12_set 24 = .ok (.invokevirtual 311, 3) := by decide +kernel
theorem dX12_set_27 : decode cX12_set 27 = .ok (.aload_n 0, 1) := by decide +kernel
theorem dX12_set_28 : decode cX12_set 28 = .ok (.getfield 110, 3) := by decide +kernel
theorem dX12_set_31 : decode cX12_set 31 = .ok (.bipush 28, 2) := by decide +kernel
theorem dX12_set_33 : decode cX12_set 33 = .ok (.iload_n 1, 1) := by decide +kernel
theorem dX12_set_34 : decode cX12_set 34 = .ok (.iastore, 1) := by decide +kernel
theorem dX12_set_35 : decode cX12_set 35 = .ok (.aload_n 0, 1) := by decide +kernel
theorem dX12_set_36 : decode cX12_set 36 = .ok (.invokevirtual 396, 3) := by decide +kernel
theorem dX12_set_39 : decode cX12_set 39 = .ok (.iconst 1, 1) := by decide +kernel
theorem dX12_set_40 : decode cX12_set 40 = .ok (.ireturn, 1) := by decide +kernel
set_option maxHeartbeats 4000000 in
set_option maxRecDepth 100000 in
theorem q_set_in {l : Launch} {D : va_G} {ids : List Nat} {ad : Nat → Nat} {ca : Nat → ClassId} {σ : HS} {p0 : Int32} (hid : ∀ i, i < 277 → i ∈ ids) (h1 : ¬ p0 < 0) (h2 : p0 ≤ 9) (h_236_2 : σ.1 236 2 = 0) (h_236_18 : σ.1 236 18 = 0) (h_236_54 : σ.1 236 54 = 0) (h_236_60 : σ.1 236 60 = 0) (h_253_0 : σ.1 253 0 = 0) (h_266_0 : σ.1 266 0 = 0) (h_266_1 : σ.1 266 1 = 0) (h_266_2 : σ.1 266 2 = 0) (h_266_3 : σ.1 266 3 = 0) (h_266_4 : σ.1 266 4 = 0) (h_266_5 : σ.1 266 5 = 0) (h_266_6 : σ.1 266 6 = 0) (h_266_7 : σ.1 266 7 = 0) (h_266_8 : σ.1 266 8 = 0) (h_266_9 : σ.1 266 9 = 0) (h_266_10 : σ.1 266 10 = 0) (h_266_11 : σ.1 266 11 = 0) (h_266_12 : σ.1 266 12 = 0) (h_266_13 : σ.1 266 13 = 0) (h_266_14 : σ.1 266 14 = 0) (h_266_15 : σ.1 266 15 = 0) (h_266_16 : σ.1 266 16 = 0) (h_266_17 : σ.1 266 17 = 0) (h_266_18 : σ.1 266 18 = 0) (h_266_19 : σ.1 266 19 = 0) (h_266_20 : σ.1 266 20 = 0) (h_266_21 : σ.1 266 21 = 0) (h_266_22 : σ.1 266 22 = 0) (h_266_23 : σ.1 266 23 = 0) (h_266_24 : σ.1 266 24 = 0) (h_266_25 : σ.1 266 25 = 0) (h_266_26 : σ.1 266 26 = (-2)) (h_266_27 : σ.1 266 27 = 0) (h_266_28 : σ.1 266 28 = (-1)) : Ki l D ids ad ca yX12_set cX12_set 2 .boolean 2 42 [.ref (ad 236), .int p0] σ (fun r _ => r = 1) := by
  refine Ki.of (by decide) (Nat.le_of_ble_eq_true rfl) 0 (fun Γ C Rt => ?_)
  show AW ids ad ca Γ 0 [some (.ref (ad 236)), some (.int p0)] [] σ
  refine a_iload_n C dX12_set_0 (i := 1) rfl rfl ?_
  refine a_iconst C dX12_set_1 (v := 0) rfl ?_
  refine a_bipush C dX12_set_2 (v := 9) rfl ?_
  refine a_callSi C (m_in_yes hid h1 h2) ms_X12_in ml_RX12_301 rfl rfl (Nat.le_of_ble_eq_true rfl) (Nat.le_of_ble_eq_true rfl) (Nat.le_of_ble_eq_true rfl) dX12_set_4 (fun r1 σ2 q3 => ?_)
  obtain ⟨rfl, q3⟩ := q3
  rw [q3]
  refine a_if_eq C dX12_set_7 (tgt := 21) rfl (fun h => absurd h (by decide)) (fun _ => ?_)
  refine a_aload_n C dX12_set_10 (i := 0) rfl rfl ?_
  refine a_get C fl_RX12_107 (i := 236) kd_236 (hid 236 (by decide)) (v := .ref (ad 266)) rfl dX12_set_11 ?_
  refine a_bipush C dX12_set_14 (v := 28) rfl ?_
  refine a_iald C (i := 266) 28 kd_266 (hid 266 (by decide)) (by decide) rfl (by rw [al_266]; decide) dX12_set_16 (v := (-1)) h_266_28 ?_
  refine a_iload_n C dX12_set_17 (i := 1) rfl rfl ?_
  refine a_ic_ne C dX12_set_18 (tgt := 23) rfl (fun c4 => ?_) (fun c4 => absurd c4 (fun q => h1 (q ▸ (by decide))))
  refine a_aload_n C dX12_set_23 (i := 0) rfl rfl ?_
  refine a_callVv C (i := 236) kd_236 (hid 236 (by decide)) ⟨_, _, rfl⟩ (by decide) (m_copies hid h_236_2 h_236_18 h_236_54 h_236_60 h_253_0 h_266_0 h_266_1 h_266_2 h_266_3 h_266_4 h_266_5 h_266_6 h_266_7 h_266_8 h_266_9 h_266_10 h_266_11 h_266_12 h_266_13 h_266_14 h_266_15 h_266_16 h_266_17 h_266_18 h_266_19 h_266_20 h_266_21 h_266_22 h_266_23 h_266_24 h_266_25 h_266_26 h_266_27 h_266_28) mi_X12_copies ml_RX12_311 rfl rfl (Nat.le_of_ble_eq_true rfl) (Nat.le_of_ble_eq_true rfl) (Nat.le_of_ble_eq_true rfl) dX12_set_24 (fun σ6 q7 => ?_)
  refine a_aload_n C dX12_set_27 (i := 0) rfl rfl ?_
  refine a_get C fl_RX12_110 (i := 236) kd_236 (hid 236 (by decide)) (v := .ref (ad 267)) rfl dX12_set_28 ?_
  refine a_bipush C dX12_set_31 (v := 28) rfl ?_
  refine a_iload_n C dX12_set_33 (i := 1) rfl rfl ?_
  refine a_iast C (i := 267) 28 kd_267 (hid 267 (by decide)) (by decide) rfl (by rw [al_267]; decide) dX12_set_34 ?_
  refine a_aload_n C dX12_set_35 (i := 0) rfl rfl ?_
  refine a_callVv C (i := 236) kd_236 (hid 236 (by decide)) ⟨_, _, rfl⟩ (by decide) (m_records hid (bt := 0) q7.2.2.2.2.2.2.2.2.2.2.2.2.2.2.2.2.2.2.2.2.2.2.1 q7.2.2.2.2.2.2.2.2.2.2.2.2.2.2.2.2.2.2.2.2.2.2.2.2.2.2.2.2.2.2.2.1 ((congrFun (q7.1.1 266 (by decide)) 0).trans h_266_0) ((congrFun (q7.1.1 266 (by decide)) 1).trans h_266_1) ((congrFun (q7.1.1 266 (by decide)) 2).trans h_266_2) ((congrFun (q7.1.1 266 (by decide)) 3).trans h_266_3) ((congrFun (q7.1.1 266 (by decide)) 4).trans h_266_4) ((congrFun (q7.1.1 266 (by decide)) 5).trans h_266_5) ((congrFun (q7.1.1 266 (by decide)) 6).trans h_266_6) ((congrFun (q7.1.1 266 (by decide)) 7).trans h_266_7) ((congrFun (q7.1.1 266 (by decide)) 8).trans h_266_8) ((congrFun (q7.1.1 266 (by decide)) 9).trans h_266_9) ((congrFun (q7.1.1 266 (by decide)) 10).trans h_266_10) ((congrFun (q7.1.1 266 (by decide)) 11).trans h_266_11) ((congrFun (q7.1.1 266 (by decide)) 12).trans h_266_12) ((congrFun (q7.1.1 266 (by decide)) 13).trans h_266_13) ((congrFun (q7.1.1 266 (by decide)) 14).trans h_266_14) ((congrFun (q7.1.1 266 (by decide)) 15).trans h_266_15) ((congrFun (q7.1.1 266 (by decide)) 16).trans h_266_16) ((congrFun (q7.1.1 266 (by decide)) 17).trans h_266_17) ((congrFun (q7.1.1 266 (by decide)) 18).trans h_266_18) ((congrFun (q7.1.1 266 (by decide)) 19).trans h_266_19) ((congrFun (q7.1.1 266 (by decide)) 20).trans h_266_20) ((congrFun (q7.1.1 266 (by decide)) 21).trans h_266_21) ((congrFun (q7.1.1 266 (by decide)) 22).trans h_266_22) ((congrFun (q7.1.1 266 (by decide)) 23).trans h_266_23) ((congrFun (q7.1.1 266 (by decide)) 24).trans h_266_24) ((congrFun (q7.1.1 266 (by decide)) 25).trans h_266_25) ((congrFun (q7.1.1 266 (by decide)) 26).trans h_266_26) ((congrFun (q7.1.1 266 (by decide)) 27).trans h_266_27) ((congrFun (q7.1.1 266 (by decide)) 28).trans h_266_28)) mi_X12_records ml_RX12_396 rfl rfl (Nat.le_of_ble_eq_true rfl) (Nat.le_of_ble_eq_true rfl) (Nat.le_of_ble_eq_true rfl) dX12_set_36 (fun σ9 q10 => ?_)
  refine a_iconst C dX12_set_39 (v := 1) rfl ?_
  exact a_iret Rt dX12_set_40 rfl (rfl)
theorem dX12_set_21 : decode cX12_set 21 = .ok (.iconst 0, 1) := by decide +kernel
theorem dX12_set_22 : decode cX12_set 22 = .ok (.ireturn, 1) := by decide +kernel
set_option maxHeartbeats 4000000 in
set_option maxRecDepth 100000 in
theorem q_set_out {l : Launch} {D : va_G} {ids : List Nat} {ad : Nat → Nat} {ca : Nat → ClassId} {σ : HS} {p0 : Int32} (hid : ∀ i, i < 277 → i ∈ ids) (ho : p0 < 0 ∨ 9 < p0) : Ki l D ids ad ca yX12_set cX12_set 2 .boolean 1 22 [.ref (ad 236), .int p0] σ (fun r _ => r = 0) := by
  refine Ki.of (by decide) (Nat.le_of_ble_eq_true rfl) 0 (fun Γ C Rt => ?_)
  show AW ids ad ca Γ 0 [some (.ref (ad 236)), some (.int p0)] [] σ
  refine a_iload_n C dX12_set_0 (i := 1) rfl rfl ?_
  refine a_iconst C dX12_set_1 (v := 0) rfl ?_
  refine a_bipush C dX12_set_2 (v := 9) rfl ?_
  refine a_callSi C (m_in_no hid ho) ms_X12_in ml_RX12_301 rfl rfl (Nat.le_of_ble_eq_true rfl) (Nat.le_of_ble_eq_true rfl) (Nat.le_of_ble_eq_true rfl) dX12_set_4 (fun r1 σ2 q3 => ?_)
  obtain ⟨rfl, q3⟩ := q3
  rw [q3]
  refine a_if_eq C dX12_set_7 (tgt := 21) rfl (fun _ => ?_) (fun h => absurd h (by decide))
  refine a_iconst C dX12_set_21 (v := 0) rfl ?_
  exact a_iret Rt dX12_set_22 rfl (rfl)
theorem dX12_beats_0 : decode cX12_beats 0 = .ok (.iload_n 1, 1) := by decide +kernel
theorem dX12_beats_1 : decode cX12_beats 1 = .ok (.invokestatic 402, 3) := by decide +kernel
theorem dX12_beats_4 : decode cX12_beats 4 = .ok (.ifCond .ne 5, 3) := by decide +kernel
theorem dX12_beats_9 : decode cX12_beats 9 = .ok (.iload_n 1, 1) := by decide +kernel
theorem dX12_beats_10 : decode cX12_beats 10 = .ok (.ifCond .ne 11, 3) := by decide +kernel
theorem dX12_beats_13 : decode cX12_beats 13 = .ok (.aload_n 0, 1) := by decide +kernel
theorem dX12_beats_14 : decode cX12_beats 14 = .ok (.getfield 107, 3) := by decide +kernel
theorem dX12_beats_17 : decode cX12_beats 17 = .ok (.bipush 21, 2) := by decide +kernel
theorem dX12_beats_19 : decode cX12_beats 19 = .ok (.iaload, 1) := by decide +kernel
theorem dX12_beats_20 : decode cX12_beats 20 = .ok (.ireturn, 1) := by decide +kernel
set_option maxHeartbeats 4000000 in
set_option maxRecDepth 100000 in
theorem q_beats_0 {l : Launch} {D : va_G} {ids : List Nat} {ad : Nat → Nat} {ca : Nat → ClassId} {σ : HS} (hid : ∀ i, i < 277 → i ∈ ids) (h_266_21 : σ.1 266 21 = 0) : Ki l D ids ad ca yX12_beats cX12_beats 2 .int 2 42 [.ref (ad 236), .int (nI 0)] σ (fun r _ => r = 0) := by
  refine Ki.of (by decide) (Nat.le_of_ble_eq_true rfl) 0 (fun Γ C Rt => ?_)
  show AW ids ad ca Γ 0 [some (.ref (ad 236)), some (.int (nI 0))] [] σ
  refine a_iload_n C dX12_beats_0 (i := 1) rfl rfl ?_
  refine a_callSi C (m_isLong_yes hid (by omega)) ms_X12_isLong ml_RX12_402 rfl rfl (Nat.le_of_ble_eq_true rfl) (Nat.le_of_ble_eq_true rfl) (Nat.le_of_ble_eq_true rfl) dX12_beats_1 (fun r1 σ2 q3 => ?_)
  obtain ⟨rfl, q3⟩ := q3
  rw [q3]
  refine a_if_ne C dX12_beats_4 (tgt := 9) rfl (fun _ => ?_) (fun h => absurd h (by decide))
  refine a_iload_n C dX12_beats_9 (i := 1) rfl rfl ?_
  refine a_if_ne C dX12_beats_10 (tgt := 21) rfl (fun c4 => absurd c4 (fun q => q (by decide))) (fun c4 => ?_)
  refine a_aload_n C dX12_beats_13 (i := 0) rfl rfl ?_
  refine a_get C fl_RX12_107 (i := 236) kd_236 (hid 236 (by decide)) (v := .ref (ad 266)) rfl dX12_beats_14 ?_
  refine a_bipush C dX12_beats_17 (v := 21) rfl ?_
  refine a_iald C (i := 266) 21 kd_266 (hid 266 (by decide)) (by decide) rfl (by rw [al_266]; decide) dX12_beats_19 (v := 0) h_266_21 ?_
  exact a_iret Rt dX12_beats_20 rfl (rfl)
theorem dX12_beats_21 : decode cX12_beats 21 = .ok (.aload_n 0, 1) := by decide +kernel
theorem dX12_beats_22 : decode cX12_beats 22 = .ok (.invokevirtual 311, 3) := by decide +kernel
theorem dX12_beats_25 : decode cX12_beats 25 = .ok (.aload_n 0, 1) := by decide +kernel
theorem dX12_beats_26 : decode cX12_beats 26 = .ok (.iload_n 1, 1) := by decide +kernel
theorem dX12_beats_27 : decode cX12_beats 27 = .ok (.invokevirtual 405, 3) := by decide +kernel
theorem dX12_beats_30 : decode cX12_beats 30 = .ok (.aload_n 0, 1) := by decide +kernel
theorem dX12_beats_31 : decode cX12_beats 31 = .ok (.invokevirtual 396, 3) := by decide +kernel
theorem dX12_beats_34 : decode cX12_beats 34 = .ok (.aload_n 0, 1) := by decide +kernel
theorem dX12_beats_35 : decode cX12_beats 35 = .ok (.getfield 107, 3) := by decide +kernel
theorem dX12_beats_38 : decode cX12_beats 38 = .ok (.bipush 21, 2) := by decide +kernel
theorem dX12_beats_40 : decode cX12_beats 40 = .ok (.iaload, 1) := by decide +kernel
theorem dX12_beats_41 : decode cX12_beats 41 = .ok (.ireturn, 1) := by decide +kernel
set_option maxHeartbeats 4000000 in
set_option maxRecDepth 100000 in
theorem q_beats_in {l : Launch} {D : va_G} {ids : List Nat} {ad : Nat → Nat} {ca : Nat → ClassId} {σ : HS} {m : Nat} (hid : ∀ i, i < 277 → i ∈ ids) (h1 : 1 ≤ m) (hm : m ≤ 60) (h_236_2 : σ.1 236 2 = 0) (h_236_18 : σ.1 236 18 = 0) (h_236_54 : σ.1 236 54 = 0) (h_236_60 : σ.1 236 60 = 0) (h_245_0 : σ.1 245 0 = 0) (h_252_0 : σ.1 252 0 = 1) (h_253_0 : σ.1 253 0 = 0) (h_266_0 : σ.1 266 0 = 0) (h_266_1 : σ.1 266 1 = 0) (h_266_2 : σ.1 266 2 = 0) (h_266_3 : σ.1 266 3 = 0) (h_266_4 : σ.1 266 4 = 0) (h_266_5 : σ.1 266 5 = 0) (h_266_6 : σ.1 266 6 = 0) (h_266_7 : σ.1 266 7 = 0) (h_266_8 : σ.1 266 8 = 0) (h_266_9 : σ.1 266 9 = 0) (h_266_10 : σ.1 266 10 = 0) (h_266_11 : σ.1 266 11 = 0) (h_266_12 : σ.1 266 12 = 0) (h_266_13 : σ.1 266 13 = 0) (h_266_14 : σ.1 266 14 = 0) (h_266_15 : σ.1 266 15 = 0) (h_266_16 : σ.1 266 16 = 0) (h_266_17 : σ.1 266 17 = 0) (h_266_18 : σ.1 266 18 = 0) (h_266_19 : σ.1 266 19 = 0) (h_266_20 : σ.1 266 20 = 0) (h_266_21 : σ.1 266 21 = 0) (h_266_22 : σ.1 266 22 = 0) (h_266_23 : σ.1 266 23 = 0) (h_266_24 : σ.1 266 24 = 0) (h_266_25 : σ.1 266 25 = 0) (h_266_26 : σ.1 266 26 = (-2)) (h_266_27 : σ.1 266 27 = 0) (h_266_28 : σ.1 266 28 = (-1)) : Ki l D ids ad ca yX12_beats cX12_beats 2 .int 3 65 [.ref (ad 236), .int (nI m)] σ (fun r _ => r = nI m) := by
  refine Ki.of (by decide) (Nat.le_of_ble_eq_true rfl) 0 (fun Γ C Rt => ?_)
  show AW ids ad ca Γ 0 [some (.ref (ad 236)), some (.int (nI m))] [] σ
  refine a_iload_n C dX12_beats_0 (i := 1) rfl rfl ?_
  refine a_callSi C (m_isLong_yes hid (by omega)) ms_X12_isLong ml_RX12_402 rfl rfl (Nat.le_of_ble_eq_true rfl) (Nat.le_of_ble_eq_true rfl) (Nat.le_of_ble_eq_true rfl) dX12_beats_1 (fun r1 σ2 q3 => ?_)
  obtain ⟨rfl, q3⟩ := q3
  rw [q3]
  refine a_if_ne C dX12_beats_4 (tgt := 9) rfl (fun _ => ?_) (fun h => absurd h (by decide))
  refine a_iload_n C dX12_beats_9 (i := 1) rfl rfl ?_
  refine a_if_ne C dX12_beats_10 (tgt := 21) rfl (fun c4 => ?_) (fun c4 => absurd c4 (fun q => absurd ((nI_eq (a := (m)) (b := (0)) (by omega) (by omega)).mp q) (by omega)))
  refine a_aload_n C dX12_beats_21 (i := 0) rfl rfl ?_
  refine a_callVv C (i := 236) kd_236 (hid 236 (by decide)) ⟨_, _, rfl⟩ (by decide) (m_copies hid h_236_2 h_236_18 h_236_54 h_236_60 h_253_0 h_266_0 h_266_1 h_266_2 h_266_3 h_266_4 h_266_5 h_266_6 h_266_7 h_266_8 h_266_9 h_266_10 h_266_11 h_266_12 h_266_13 h_266_14 h_266_15 h_266_16 h_266_17 h_266_18 h_266_19 h_266_20 h_266_21 h_266_22 h_266_23 h_266_24 h_266_25 h_266_26 h_266_27 h_266_28) mi_X12_copies ml_RX12_311 rfl rfl (Nat.le_of_ble_eq_true rfl) (Nat.le_of_ble_eq_true rfl) (Nat.le_of_ble_eq_true rfl) dX12_beats_22 (fun σ6 q7 => ?_)
  refine a_aload_n C dX12_beats_25 (i := 0) rfl rfl ?_
  refine a_iload_n C dX12_beats_26 (i := 1) rfl rfl ?_
  refine a_callVv C (i := 236) kd_236 (hid 236 (by decide)) ⟨_, _, rfl⟩ (by decide) (m_goes hid (bt := 0) (m := m) q7.2.2.2.2.2.2.2.2.2.2.2.2.2.2.2.2.2.2.2.2.2.2.1 (by omega) q7.2.2.2.2.2.2.2.2.2.2.2.2.2.2.2.2.2.2.2.2.2.2.2.2.2.2.2.2.2.2.2.2.2 q7.2.2.2.2.2.2.2.2.2.2.2.2.2.2.2.2.2.2.2.2.2.2.2.2.2.2.2.2.2.2.1 q7.2.2.2.2.2.2.2.2.2.2.2.2.2.2.2.2.2.2.2.2.2.2.2.2.2.2.2.2.2.2.2.1 q7.2.2.2.2.2.2.2.2.2.2.2.2.2.2.2.2.2.2.2.2.2.2.2.2.2.2.2.2.2.2.2.2.1 ((congrFun (q7.1.1 245 (by decide)) 0).trans h_245_0) ((congrFun (q7.1.1 252 (by decide)) 0).trans h_252_0) q7.2.2.2.2.2.2.2.2.2.2.2.2.2.2.2.2.2.2.2.2.2.2.2.1 q7.2.2.2.2.2.2.2.2.2.2.2.2.2.2.2.2.2.2.2.2.2.2.2.2.1 q7.2.2.2.2.2.2.2.2.2.2.2.2.2.2.2.2.2.2.2.2.2.2.2.2.2.2.1 q7.2.2.2.2.2.2.2.2.2.2.2.2.2.2.2.2.2.2.2.2.2.2.2.2.2.2.2.1 q7.2.2.2.2.2.2.2.2.2.2.2.2.2.2.2.2.2.2.2.2.2.2.2.2.2.2.2.2.1 q7.2.2.2.2.2.2.2.2.2.2.2.2.2.2.2.2.2.2.2.2.2.2.2.2.2.2.2.2.2.1) mi_X12_goes ml_RX12_405 rfl rfl (Nat.le_of_ble_eq_true rfl) (Nat.le_of_ble_eq_true rfl) (Nat.le_of_ble_eq_true rfl) dX12_beats_27 (fun σ9 q10 => ?_)
  refine a_aload_n C dX12_beats_30 (i := 0) rfl rfl ?_
  refine a_callVv C (i := 236) kd_236 (hid 236 (by decide)) ⟨_, _, rfl⟩ (by decide) (m_records hid (bt := 0 + m) q10.2.1 q10.2.2.2.2.2.2.2.2.2.1 ((congrFun (q10.1.1 266 (by decide)) 0).trans ((congrFun (q7.1.1 266 (by decide)) 0).trans h_266_0)) ((congrFun (q10.1.1 266 (by decide)) 1).trans ((congrFun (q7.1.1 266 (by decide)) 1).trans h_266_1)) ((congrFun (q10.1.1 266 (by decide)) 2).trans ((congrFun (q7.1.1 266 (by decide)) 2).trans h_266_2)) ((congrFun (q10.1.1 266 (by decide)) 3).trans ((congrFun (q7.1.1 266 (by decide)) 3).trans h_266_3)) ((congrFun (q10.1.1 266 (by decide)) 4).trans ((congrFun (q7.1.1 266 (by decide)) 4).trans h_266_4)) ((congrFun (q10.1.1 266 (by decide)) 5).trans ((congrFun (q7.1.1 266 (by decide)) 5).trans h_266_5)) ((congrFun (q10.1.1 266 (by decide)) 6).trans ((congrFun (q7.1.1 266 (by decide)) 6).trans h_266_6)) ((congrFun (q10.1.1 266 (by decide)) 7).trans ((congrFun (q7.1.1 266 (by decide)) 7).trans h_266_7)) ((congrFun (q10.1.1 266 (by decide)) 8).trans ((congrFun (q7.1.1 266 (by decide)) 8).trans h_266_8)) ((congrFun (q10.1.1 266 (by decide)) 9).trans ((congrFun (q7.1.1 266 (by decide)) 9).trans h_266_9)) ((congrFun (q10.1.1 266 (by decide)) 10).trans ((congrFun (q7.1.1 266 (by decide)) 10).trans h_266_10)) ((congrFun (q10.1.1 266 (by decide)) 11).trans ((congrFun (q7.1.1 266 (by decide)) 11).trans h_266_11)) ((congrFun (q10.1.1 266 (by decide)) 12).trans ((congrFun (q7.1.1 266 (by decide)) 12).trans h_266_12)) ((congrFun (q10.1.1 266 (by decide)) 13).trans ((congrFun (q7.1.1 266 (by decide)) 13).trans h_266_13)) ((congrFun (q10.1.1 266 (by decide)) 14).trans ((congrFun (q7.1.1 266 (by decide)) 14).trans h_266_14)) ((congrFun (q10.1.1 266 (by decide)) 15).trans ((congrFun (q7.1.1 266 (by decide)) 15).trans h_266_15)) ((congrFun (q10.1.1 266 (by decide)) 16).trans ((congrFun (q7.1.1 266 (by decide)) 16).trans h_266_16)) ((congrFun (q10.1.1 266 (by decide)) 17).trans ((congrFun (q7.1.1 266 (by decide)) 17).trans h_266_17)) ((congrFun (q10.1.1 266 (by decide)) 18).trans ((congrFun (q7.1.1 266 (by decide)) 18).trans h_266_18)) ((congrFun (q10.1.1 266 (by decide)) 19).trans ((congrFun (q7.1.1 266 (by decide)) 19).trans h_266_19)) ((congrFun (q10.1.1 266 (by decide)) 20).trans ((congrFun (q7.1.1 266 (by decide)) 20).trans h_266_20)) ((congrFun (q10.1.1 266 (by decide)) 21).trans ((congrFun (q7.1.1 266 (by decide)) 21).trans h_266_21)) ((congrFun (q10.1.1 266 (by decide)) 22).trans ((congrFun (q7.1.1 266 (by decide)) 22).trans h_266_22)) ((congrFun (q10.1.1 266 (by decide)) 23).trans ((congrFun (q7.1.1 266 (by decide)) 23).trans h_266_23)) ((congrFun (q10.1.1 266 (by decide)) 24).trans ((congrFun (q7.1.1 266 (by decide)) 24).trans h_266_24)) ((congrFun (q10.1.1 266 (by decide)) 25).trans ((congrFun (q7.1.1 266 (by decide)) 25).trans h_266_25)) ((congrFun (q10.1.1 266 (by decide)) 26).trans ((congrFun (q7.1.1 266 (by decide)) 26).trans h_266_26)) ((congrFun (q10.1.1 266 (by decide)) 27).trans ((congrFun (q7.1.1 266 (by decide)) 27).trans h_266_27)) ((congrFun (q10.1.1 266 (by decide)) 28).trans ((congrFun (q7.1.1 266 (by decide)) 28).trans h_266_28))) mi_X12_records ml_RX12_396 rfl rfl (Nat.le_of_ble_eq_true rfl) (Nat.le_of_ble_eq_true rfl) (Nat.le_of_ble_eq_true rfl) dX12_beats_31 (fun σ12 q13 => ?_)
  refine a_aload_n C dX12_beats_34 (i := 0) rfl rfl ?_
  refine a_get C fl_RX12_107 (i := 236) kd_236 (hid 236 (by decide)) (v := .ref (ad 266)) rfl dX12_beats_35 ?_
  refine a_bipush C dX12_beats_38 (v := 21) rfl ?_
  refine a_iald C (i := 266) 21 kd_266 (hid 266 (by decide)) (by decide) rfl (by rw [al_266]; decide) dX12_beats_40 (v := (nI (0 + m))) q13.2 ?_
  exact a_iret Rt dX12_beats_41 rfl ((congrArg nI (Nat.zero_add m)))
theorem dX12_beats_7 : decode cX12_beats 7 = .ok (.iconst (-1), 1) := by decide +kernel
theorem dX12_beats_8 : decode cX12_beats 8 = .ok (.ireturn, 1) := by decide +kernel
set_option maxHeartbeats 4000000 in
set_option maxRecDepth 100000 in
theorem q_beats_out {l : Launch} {D : va_G} {ids : List Nat} {ad : Nat → Nat} {ca : Nat → ClassId} {σ : HS} {p0 : Int32} (hid : ∀ i, i < 277 → i ∈ ids) (ho : p0 < 0 ∨ 60 < p0) : Ki l D ids ad ca yX12_beats cX12_beats 2 .int 2 42 [.ref (ad 236), .int p0] σ (fun r _ => r = (-1)) := by
  refine Ki.of (by decide) (Nat.le_of_ble_eq_true rfl) 0 (fun Γ C Rt => ?_)
  show AW ids ad ca Γ 0 [some (.ref (ad 236)), some (.int p0)] [] σ
  refine a_iload_n C dX12_beats_0 (i := 1) rfl rfl ?_
  refine a_callSi C (m_isLong_no hid ho) ms_X12_isLong ml_RX12_402 rfl rfl (Nat.le_of_ble_eq_true rfl) (Nat.le_of_ble_eq_true rfl) (Nat.le_of_ble_eq_true rfl) dX12_beats_1 (fun r1 σ2 q3 => ?_)
  obtain ⟨rfl, q3⟩ := q3
  rw [q3]
  refine a_if_ne C dX12_beats_4 (tgt := 9) rfl (fun h => absurd h (by decide)) (fun _ => ?_)
  refine a_iconst C dX12_beats_7 (v := (-1)) rfl ?_
  exact a_iret Rt dX12_beats_8 rfl (rfl)
theorem dX12_hold_0 : decode cX12_hold 0 = .ok (.iload_n 1, 1) := by decide +kernel
theorem dX12_hold_1 : decode cX12_hold 1 = .ok (.iconst 0, 1) := by decide +kernel
theorem dX12_hold_2 : decode cX12_hold 2 = .ok (.iconst 2, 1) := by decide +kernel
theorem dX12_hold_3 : decode cX12_hold 3 = .ok (.invokestatic 301, 3) := by decide +kernel
theorem dX12_hold_6 : decode cX12_hold 6 = .ok (.ifCond .ne 5, 3) := by decide +kernel
theorem dX12_hold_11 : decode cX12_hold 11 = .ok (.aload_n 0, 1) := by decide +kernel
theorem dX12_hold_12 : decode cX12_hold 12 = .ok (.getfield 134, 3) := by decide +kernel
theorem dX12_hold_15 : decode cX12_hold 15 = .ok (.iload_n 1, 1) := by decide +kernel
theorem dX12_hold_16 : decode cX12_hold 16 = .ok (.iconst 1, 1) := by decide +kernel
theorem dX12_hold_17 : decode cX12_hold 17 = .ok (.bastore, 1) := by decide +kernel
theorem dX12_hold_18 : decode cX12_hold 18 = .ok (.iconst 0, 1) := by decide +kernel
theorem dX12_hold_19 : decode cX12_hold 19 = .ok (.istore_n 2, 1) := by decide +kernel
theorem dX12_hold_20 : decode cX12_hold 20 = .ok (.iload_n 2, 1) := by decide +kernel
theorem dX12_hold_21 : decode cX12_hold 21 = .ok (.bipush 29, 2) := by decide +kernel
theorem dX12_hold_23 : decode cX12_hold 23 = .ok (.if_icmp .ge 26, 3) := by decide +kernel
theorem dX12_hold_26 : decode cX12_hold 26 = .ok (.aload_n 0, 1) := by decide +kernel
theorem dX12_hold_27 : decode cX12_hold 27 = .ok (.getfield 137, 3) := by decide +kernel
theorem dX12_hold_30 : decode cX12_hold 30 = .ok (.bipush 29, 2) := by decide +kernel
theorem dX12_hold_32 : decode cX12_hold 32 = .ok (.iload_n 1, 1) := by decide +kernel
theorem dX12_hold_33 : decode cX12_hold 33 = .ok (.imul, 1) := by decide +kernel
theorem dX12_hold_34 : decode cX12_hold 34 = .ok (.iload_n 2, 1) := by decide +kernel
theorem dX12_hold_35 : decode cX12_hold 35 = .ok (.iadd, 1) := by decide +kernel
theorem dX12_hold_36 : decode cX12_hold 36 = .ok (.aload_n 0, 1) := by decide +kernel
theorem dX12_hold_37 : decode cX12_hold 37 = .ok (.getfield 107, 3) := by decide +kernel
theorem dX12_hold_40 : decode cX12_hold 40 = .ok (.iload_n 2, 1) := by decide +kernel
theorem dX12_hold_41 : decode cX12_hold 41 = .ok (.iaload, 1) := by decide +kernel
theorem dX12_hold_42 : decode cX12_hold 42 = .ok (.iastore, 1) := by decide +kernel
theorem dX12_hold_43 : decode cX12_hold 43 = .ok (.iinc 2 1, 3) := by decide +kernel
theorem dX12_hold_46 : decode cX12_hold 46 = .ok (.goto (-26), 3) := by decide +kernel
theorem dX12_hold_49 : decode cX12_hold 49 = .ok (.iconst 1, 1) := by decide +kernel
theorem dX12_hold_50 : decode cX12_hold 50 = .ok (.ireturn, 1) := by decide +kernel
set_option maxHeartbeats 4000000 in
set_option maxRecDepth 100000 in
theorem q_hold_0 {l : Launch} {D : va_G} {ids : List Nat} {ad : Nat → Nat} {ca : Nat → ClassId} {σ : HS} (hid : ∀ i, i < 277 → i ∈ ids) (h_266_0 : σ.1 266 0 = 0) (h_266_1 : σ.1 266 1 = 0) (h_266_2 : σ.1 266 2 = 0) (h_266_3 : σ.1 266 3 = 0) (h_266_4 : σ.1 266 4 = 0) (h_266_5 : σ.1 266 5 = 0) (h_266_6 : σ.1 266 6 = 0) (h_266_7 : σ.1 266 7 = 0) (h_266_8 : σ.1 266 8 = 0) (h_266_9 : σ.1 266 9 = 0) (h_266_10 : σ.1 266 10 = 0) (h_266_11 : σ.1 266 11 = 0) (h_266_12 : σ.1 266 12 = 0) (h_266_13 : σ.1 266 13 = 0) (h_266_14 : σ.1 266 14 = 0) (h_266_15 : σ.1 266 15 = 0) (h_266_16 : σ.1 266 16 = 0) (h_266_17 : σ.1 266 17 = 0) (h_266_18 : σ.1 266 18 = 0) (h_266_19 : σ.1 266 19 = 0) (h_266_20 : σ.1 266 20 = 0) (h_266_21 : σ.1 266 21 = 0) (h_266_22 : σ.1 266 22 = 0) (h_266_23 : σ.1 266 23 = 0) (h_266_24 : σ.1 266 24 = 0) (h_266_25 : σ.1 266 25 = 0) (h_266_26 : σ.1 266 26 = (-2)) (h_266_27 : σ.1 266 27 = 0) (h_266_28 : σ.1 266 28 = (-1)) : Ki l D ids ad ca yX12_hold cX12_hold 3 .boolean 1 22 [.ref (ad 236), .int 0] σ (fun r _ => r = 1) := by
  refine Ki.of (by decide) (Nat.le_of_ble_eq_true rfl) 1 (fun Γ C Rt => ?_)
  show AW ids ad ca Γ 0 [some (.ref (ad 236)), some (.int 0), none] [] σ
  refine a_iload_n C dX12_hold_0 (i := 1) rfl rfl ?_
  refine a_iconst C dX12_hold_1 (v := 0) rfl ?_
  refine a_iconst C dX12_hold_2 (v := 2) rfl ?_
  refine a_callSi C (m_in_yes hid (by decide) (by decide)) ms_X12_in ml_RX12_301 rfl rfl (Nat.le_of_ble_eq_true rfl) (Nat.le_of_ble_eq_true rfl) (Nat.le_of_ble_eq_true rfl) dX12_hold_3 (fun r1 σ2 q3 => ?_)
  obtain ⟨rfl, q3⟩ := q3
  rw [q3]
  refine a_if_ne C dX12_hold_6 (tgt := 11) rfl (fun _ => ?_) (fun h => absurd h (by decide))
  refine a_aload_n C dX12_hold_11 (i := 0) rfl rfl ?_
  refine a_get C fl_RX12_134 (i := 236) kd_236 (hid 236 (by decide)) (v := .ref (ad 275)) rfl dX12_hold_12 ?_
  refine a_iload_n C dX12_hold_15 (i := 1) rfl rfl ?_
  refine a_iconst C dX12_hold_16 (v := 1) rfl ?_
  refine a_zast C (i := 275) 0 rfl kd_275 (hid 275 (by decide)) (by decide) rfl (by rw [al_275]; decide) dX12_hold_17 ?_
  refine a_iconst C dX12_hold_18 (v := 0) rfl ?_
  refine a_istore_n C dX12_hold_19 (i := 2) rfl (by decide) rfl (vs1 := [some (.ref (ad 236)), some (.int 0), some (.int 0)]) rfl ?_
  refine a_iload_n C dX12_hold_20 (i := 2) rfl rfl ?_
  refine a_bipush C dX12_hold_21 (v := 29) rfl ?_
  refine a_ic_ge C dX12_hold_23 (tgt := 49) rfl (fun h => absurd h (by decide)) (fun _ => ?_)
  refine a_aload_n C dX12_hold_26 (i := 0) rfl rfl ?_
  refine a_get C fl_RX12_137 (i := 236) kd_236 (hid 236 (by decide)) (v := .ref (ad 276)) rfl dX12_hold_27 ?_
  refine a_bipush C dX12_hold_30 (v := 29) rfl ?_
  refine a_iload_n C dX12_hold_32 (i := 1) rfl rfl ?_
  refine a_imul C dX12_hold_33 ?_
  refine a_iload_n C dX12_hold_34 (i := 2) rfl rfl ?_
  refine a_iadd C dX12_hold_35 ?_
  refine a_aload_n C dX12_hold_36 (i := 0) rfl rfl ?_
  refine a_get C fl_RX12_107 (i := 236) kd_236 (hid 236 (by decide)) (v := .ref (ad 266)) rfl dX12_hold_37 ?_
  refine a_iload_n C dX12_hold_40 (i := 2) rfl rfl ?_
  refine a_iald C (i := 266) 0 kd_266 (hid 266 (by decide)) (by decide) rfl (by rw [al_266]; decide) dX12_hold_41 (v := 0) h_266_0 ?_
  refine a_iast C (i := 276) 0 kd_276 (hid 276 (by decide)) (by decide) rfl (by rw [al_276]; decide) dX12_hold_42 ?_
  refine a_iinc C dX12_hold_43 rfl (v := 1) rfl (by decide) rfl (vs1 := [some (.ref (ad 236)), some (.int 0), some (.int 1)]) rfl ?_
  refine a_goto C dX12_hold_46 (tgt := 20) rfl ?_
  refine a_iload_n C dX12_hold_20 (i := 2) rfl rfl ?_
  refine a_bipush C dX12_hold_21 (v := 29) rfl ?_
  refine a_ic_ge C dX12_hold_23 (tgt := 49) rfl (fun h => absurd h (by decide)) (fun _ => ?_)
  refine a_aload_n C dX12_hold_26 (i := 0) rfl rfl ?_
  refine a_get C fl_RX12_137 (i := 236) kd_236 (hid 236 (by decide)) (v := .ref (ad 276)) rfl dX12_hold_27 ?_
  refine a_bipush C dX12_hold_30 (v := 29) rfl ?_
  refine a_iload_n C dX12_hold_32 (i := 1) rfl rfl ?_
  refine a_imul C dX12_hold_33 ?_
  refine a_iload_n C dX12_hold_34 (i := 2) rfl rfl ?_
  refine a_iadd C dX12_hold_35 ?_
  refine a_aload_n C dX12_hold_36 (i := 0) rfl rfl ?_
  refine a_get C fl_RX12_107 (i := 236) kd_236 (hid 236 (by decide)) (v := .ref (ad 266)) rfl dX12_hold_37 ?_
  refine a_iload_n C dX12_hold_40 (i := 2) rfl rfl ?_
  refine a_iald C (i := 266) 1 kd_266 (hid 266 (by decide)) (by decide) rfl (by rw [al_266]; decide) dX12_hold_41 (v := 0) h_266_1 ?_
  refine a_iast C (i := 276) 1 kd_276 (hid 276 (by decide)) (by decide) rfl (by rw [al_276]; decide) dX12_hold_42 ?_
  refine a_iinc C dX12_hold_43 rfl (v := 2) rfl (by decide) rfl (vs1 := [some (.ref (ad 236)), some (.int 0), some (.int 2)]) rfl ?_
  refine a_goto C dX12_hold_46 (tgt := 20) rfl ?_
  refine a_iload_n C dX12_hold_20 (i := 2) rfl rfl ?_
  refine a_bipush C dX12_hold_21 (v := 29) rfl ?_
  refine a_ic_ge C dX12_hold_23 (tgt := 49) rfl (fun h => absurd h (by decide)) (fun _ => ?_)
  refine a_aload_n C dX12_hold_26 (i := 0) rfl rfl ?_
  refine a_get C fl_RX12_137 (i := 236) kd_236 (hid 236 (by decide)) (v := .ref (ad 276)) rfl dX12_hold_27 ?_
  refine a_bipush C dX12_hold_30 (v := 29) rfl ?_
  refine a_iload_n C dX12_hold_32 (i := 1) rfl rfl ?_
  refine a_imul C dX12_hold_33 ?_
  refine a_iload_n C dX12_hold_34 (i := 2) rfl rfl ?_
  refine a_iadd C dX12_hold_35 ?_
  refine a_aload_n C dX12_hold_36 (i := 0) rfl rfl ?_
  refine a_get C fl_RX12_107 (i := 236) kd_236 (hid 236 (by decide)) (v := .ref (ad 266)) rfl dX12_hold_37 ?_
  refine a_iload_n C dX12_hold_40 (i := 2) rfl rfl ?_
  refine a_iald C (i := 266) 2 kd_266 (hid 266 (by decide)) (by decide) rfl (by rw [al_266]; decide) dX12_hold_41 (v := 0) h_266_2 ?_
  refine a_iast C (i := 276) 2 kd_276 (hid 276 (by decide)) (by decide) rfl (by rw [al_276]; decide) dX12_hold_42 ?_
  refine a_iinc C dX12_hold_43 rfl (v := 3) rfl (by decide) rfl (vs1 := [some (.ref (ad 236)), some (.int 0), some (.int 3)]) rfl ?_
  refine a_goto C dX12_hold_46 (tgt := 20) rfl ?_
  refine a_iload_n C dX12_hold_20 (i := 2) rfl rfl ?_
  refine a_bipush C dX12_hold_21 (v := 29) rfl ?_
  refine a_ic_ge C dX12_hold_23 (tgt := 49) rfl (fun h => absurd h (by decide)) (fun _ => ?_)
  refine a_aload_n C dX12_hold_26 (i := 0) rfl rfl ?_
  refine a_get C fl_RX12_137 (i := 236) kd_236 (hid 236 (by decide)) (v := .ref (ad 276)) rfl dX12_hold_27 ?_
  refine a_bipush C dX12_hold_30 (v := 29) rfl ?_
  refine a_iload_n C dX12_hold_32 (i := 1) rfl rfl ?_
  refine a_imul C dX12_hold_33 ?_
  refine a_iload_n C dX12_hold_34 (i := 2) rfl rfl ?_
  refine a_iadd C dX12_hold_35 ?_
  refine a_aload_n C dX12_hold_36 (i := 0) rfl rfl ?_
  refine a_get C fl_RX12_107 (i := 236) kd_236 (hid 236 (by decide)) (v := .ref (ad 266)) rfl dX12_hold_37 ?_
  refine a_iload_n C dX12_hold_40 (i := 2) rfl rfl ?_
  refine a_iald C (i := 266) 3 kd_266 (hid 266 (by decide)) (by decide) rfl (by rw [al_266]; decide) dX12_hold_41 (v := 0) h_266_3 ?_
  refine a_iast C (i := 276) 3 kd_276 (hid 276 (by decide)) (by decide) rfl (by rw [al_276]; decide) dX12_hold_42 ?_
  refine a_iinc C dX12_hold_43 rfl (v := 4) rfl (by decide) rfl (vs1 := [some (.ref (ad 236)), some (.int 0), some (.int 4)]) rfl ?_
  refine a_goto C dX12_hold_46 (tgt := 20) rfl ?_
  refine a_iload_n C dX12_hold_20 (i := 2) rfl rfl ?_
  refine a_bipush C dX12_hold_21 (v := 29) rfl ?_
  refine a_ic_ge C dX12_hold_23 (tgt := 49) rfl (fun h => absurd h (by decide)) (fun _ => ?_)
  refine a_aload_n C dX12_hold_26 (i := 0) rfl rfl ?_
  refine a_get C fl_RX12_137 (i := 236) kd_236 (hid 236 (by decide)) (v := .ref (ad 276)) rfl dX12_hold_27 ?_
  refine a_bipush C dX12_hold_30 (v := 29) rfl ?_
  refine a_iload_n C dX12_hold_32 (i := 1) rfl rfl ?_
  refine a_imul C dX12_hold_33 ?_
  refine a_iload_n C dX12_hold_34 (i := 2) rfl rfl ?_
  refine a_iadd C dX12_hold_35 ?_
  refine a_aload_n C dX12_hold_36 (i := 0) rfl rfl ?_
  refine a_get C fl_RX12_107 (i := 236) kd_236 (hid 236 (by decide)) (v := .ref (ad 266)) rfl dX12_hold_37 ?_
  refine a_iload_n C dX12_hold_40 (i := 2) rfl rfl ?_
  refine a_iald C (i := 266) 4 kd_266 (hid 266 (by decide)) (by decide) rfl (by rw [al_266]; decide) dX12_hold_41 (v := 0) h_266_4 ?_
  refine a_iast C (i := 276) 4 kd_276 (hid 276 (by decide)) (by decide) rfl (by rw [al_276]; decide) dX12_hold_42 ?_
  refine a_iinc C dX12_hold_43 rfl (v := 5) rfl (by decide) rfl (vs1 := [some (.ref (ad 236)), some (.int 0), some (.int 5)]) rfl ?_
  refine a_goto C dX12_hold_46 (tgt := 20) rfl ?_
  refine a_iload_n C dX12_hold_20 (i := 2) rfl rfl ?_
  refine a_bipush C dX12_hold_21 (v := 29) rfl ?_
  refine a_ic_ge C dX12_hold_23 (tgt := 49) rfl (fun h => absurd h (by decide)) (fun _ => ?_)
  refine a_aload_n C dX12_hold_26 (i := 0) rfl rfl ?_
  refine a_get C fl_RX12_137 (i := 236) kd_236 (hid 236 (by decide)) (v := .ref (ad 276)) rfl dX12_hold_27 ?_
  refine a_bipush C dX12_hold_30 (v := 29) rfl ?_
  refine a_iload_n C dX12_hold_32 (i := 1) rfl rfl ?_
  refine a_imul C dX12_hold_33 ?_
  refine a_iload_n C dX12_hold_34 (i := 2) rfl rfl ?_
  refine a_iadd C dX12_hold_35 ?_
  refine a_aload_n C dX12_hold_36 (i := 0) rfl rfl ?_
  refine a_get C fl_RX12_107 (i := 236) kd_236 (hid 236 (by decide)) (v := .ref (ad 266)) rfl dX12_hold_37 ?_
  refine a_iload_n C dX12_hold_40 (i := 2) rfl rfl ?_
  refine a_iald C (i := 266) 5 kd_266 (hid 266 (by decide)) (by decide) rfl (by rw [al_266]; decide) dX12_hold_41 (v := 0) h_266_5 ?_
  refine a_iast C (i := 276) 5 kd_276 (hid 276 (by decide)) (by decide) rfl (by rw [al_276]; decide) dX12_hold_42 ?_
  refine a_iinc C dX12_hold_43 rfl (v := 6) rfl (by decide) rfl (vs1 := [some (.ref (ad 236)), some (.int 0), some (.int 6)]) rfl ?_
  refine a_goto C dX12_hold_46 (tgt := 20) rfl ?_
  refine a_iload_n C dX12_hold_20 (i := 2) rfl rfl ?_
  refine a_bipush C dX12_hold_21 (v := 29) rfl ?_
  refine a_ic_ge C dX12_hold_23 (tgt := 49) rfl (fun h => absurd h (by decide)) (fun _ => ?_)
  refine a_aload_n C dX12_hold_26 (i := 0) rfl rfl ?_
  refine a_get C fl_RX12_137 (i := 236) kd_236 (hid 236 (by decide)) (v := .ref (ad 276)) rfl dX12_hold_27 ?_
  refine a_bipush C dX12_hold_30 (v := 29) rfl ?_
  refine a_iload_n C dX12_hold_32 (i := 1) rfl rfl ?_
  refine a_imul C dX12_hold_33 ?_
  refine a_iload_n C dX12_hold_34 (i := 2) rfl rfl ?_
  refine a_iadd C dX12_hold_35 ?_
  refine a_aload_n C dX12_hold_36 (i := 0) rfl rfl ?_
  refine a_get C fl_RX12_107 (i := 236) kd_236 (hid 236 (by decide)) (v := .ref (ad 266)) rfl dX12_hold_37 ?_
  refine a_iload_n C dX12_hold_40 (i := 2) rfl rfl ?_
  refine a_iald C (i := 266) 6 kd_266 (hid 266 (by decide)) (by decide) rfl (by rw [al_266]; decide) dX12_hold_41 (v := 0) h_266_6 ?_
  refine a_iast C (i := 276) 6 kd_276 (hid 276 (by decide)) (by decide) rfl (by rw [al_276]; decide) dX12_hold_42 ?_
  refine a_iinc C dX12_hold_43 rfl (v := 7) rfl (by decide) rfl (vs1 := [some (.ref (ad 236)), some (.int 0), some (.int 7)]) rfl ?_
  refine a_goto C dX12_hold_46 (tgt := 20) rfl ?_
  refine a_iload_n C dX12_hold_20 (i := 2) rfl rfl ?_
  refine a_bipush C dX12_hold_21 (v := 29) rfl ?_
  refine a_ic_ge C dX12_hold_23 (tgt := 49) rfl (fun h => absurd h (by decide)) (fun _ => ?_)
  refine a_aload_n C dX12_hold_26 (i := 0) rfl rfl ?_
  refine a_get C fl_RX12_137 (i := 236) kd_236 (hid 236 (by decide)) (v := .ref (ad 276)) rfl dX12_hold_27 ?_
  refine a_bipush C dX12_hold_30 (v := 29) rfl ?_
  refine a_iload_n C dX12_hold_32 (i := 1) rfl rfl ?_
  refine a_imul C dX12_hold_33 ?_
  refine a_iload_n C dX12_hold_34 (i := 2) rfl rfl ?_
  refine a_iadd C dX12_hold_35 ?_
  refine a_aload_n C dX12_hold_36 (i := 0) rfl rfl ?_
  refine a_get C fl_RX12_107 (i := 236) kd_236 (hid 236 (by decide)) (v := .ref (ad 266)) rfl dX12_hold_37 ?_
  refine a_iload_n C dX12_hold_40 (i := 2) rfl rfl ?_
  refine a_iald C (i := 266) 7 kd_266 (hid 266 (by decide)) (by decide) rfl (by rw [al_266]; decide) dX12_hold_41 (v := 0) h_266_7 ?_
  refine a_iast C (i := 276) 7 kd_276 (hid 276 (by decide)) (by decide) rfl (by rw [al_276]; decide) dX12_hold_42 ?_
  refine a_iinc C dX12_hold_43 rfl (v := 8) rfl (by decide) rfl (vs1 := [some (.ref (ad 236)), some (.int 0), some (.int 8)]) rfl ?_
  refine a_goto C dX12_hold_46 (tgt := 20) rfl ?_
  refine a_iload_n C dX12_hold_20 (i := 2) rfl rfl ?_
  refine a_bipush C dX12_hold_21 (v := 29) rfl ?_
  refine a_ic_ge C dX12_hold_23 (tgt := 49) rfl (fun h => absurd h (by decide)) (fun _ => ?_)
  refine a_aload_n C dX12_hold_26 (i := 0) rfl rfl ?_
  refine a_get C fl_RX12_137 (i := 236) kd_236 (hid 236 (by decide)) (v := .ref (ad 276)) rfl dX12_hold_27 ?_
  refine a_bipush C dX12_hold_30 (v := 29) rfl ?_
  refine a_iload_n C dX12_hold_32 (i := 1) rfl rfl ?_
  refine a_imul C dX12_hold_33 ?_
  refine a_iload_n C dX12_hold_34 (i := 2) rfl rfl ?_
  refine a_iadd C dX12_hold_35 ?_
  refine a_aload_n C dX12_hold_36 (i := 0) rfl rfl ?_
  refine a_get C fl_RX12_107 (i := 236) kd_236 (hid 236 (by decide)) (v := .ref (ad 266)) rfl dX12_hold_37 ?_
  refine a_iload_n C dX12_hold_40 (i := 2) rfl rfl ?_
  refine a_iald C (i := 266) 8 kd_266 (hid 266 (by decide)) (by decide) rfl (by rw [al_266]; decide) dX12_hold_41 (v := 0) h_266_8 ?_
  refine a_iast C (i := 276) 8 kd_276 (hid 276 (by decide)) (by decide) rfl (by rw [al_276]; decide) dX12_hold_42 ?_
  refine a_iinc C dX12_hold_43 rfl (v := 9) rfl (by decide) rfl (vs1 := [some (.ref (ad 236)), some (.int 0), some (.int 9)]) rfl ?_
  refine a_goto C dX12_hold_46 (tgt := 20) rfl ?_
  refine a_iload_n C dX12_hold_20 (i := 2) rfl rfl ?_
  refine a_bipush C dX12_hold_21 (v := 29) rfl ?_
  refine a_ic_ge C dX12_hold_23 (tgt := 49) rfl (fun h => absurd h (by decide)) (fun _ => ?_)
  refine a_aload_n C dX12_hold_26 (i := 0) rfl rfl ?_
  refine a_get C fl_RX12_137 (i := 236) kd_236 (hid 236 (by decide)) (v := .ref (ad 276)) rfl dX12_hold_27 ?_
  refine a_bipush C dX12_hold_30 (v := 29) rfl ?_
  refine a_iload_n C dX12_hold_32 (i := 1) rfl rfl ?_
  refine a_imul C dX12_hold_33 ?_
  refine a_iload_n C dX12_hold_34 (i := 2) rfl rfl ?_
  refine a_iadd C dX12_hold_35 ?_
  refine a_aload_n C dX12_hold_36 (i := 0) rfl rfl ?_
  refine a_get C fl_RX12_107 (i := 236) kd_236 (hid 236 (by decide)) (v := .ref (ad 266)) rfl dX12_hold_37 ?_
  refine a_iload_n C dX12_hold_40 (i := 2) rfl rfl ?_
  refine a_iald C (i := 266) 9 kd_266 (hid 266 (by decide)) (by decide) rfl (by rw [al_266]; decide) dX12_hold_41 (v := 0) h_266_9 ?_
  refine a_iast C (i := 276) 9 kd_276 (hid 276 (by decide)) (by decide) rfl (by rw [al_276]; decide) dX12_hold_42 ?_
  refine a_iinc C dX12_hold_43 rfl (v := 10) rfl (by decide) rfl (vs1 := [some (.ref (ad 236)), some (.int 0), some (.int 10)]) rfl ?_
  refine a_goto C dX12_hold_46 (tgt := 20) rfl ?_
  refine a_iload_n C dX12_hold_20 (i := 2) rfl rfl ?_
  refine a_bipush C dX12_hold_21 (v := 29) rfl ?_
  refine a_ic_ge C dX12_hold_23 (tgt := 49) rfl (fun h => absurd h (by decide)) (fun _ => ?_)
  refine a_aload_n C dX12_hold_26 (i := 0) rfl rfl ?_
  refine a_get C fl_RX12_137 (i := 236) kd_236 (hid 236 (by decide)) (v := .ref (ad 276)) rfl dX12_hold_27 ?_
  refine a_bipush C dX12_hold_30 (v := 29) rfl ?_
  refine a_iload_n C dX12_hold_32 (i := 1) rfl rfl ?_
  refine a_imul C dX12_hold_33 ?_
  refine a_iload_n C dX12_hold_34 (i := 2) rfl rfl ?_
  refine a_iadd C dX12_hold_35 ?_
  refine a_aload_n C dX12_hold_36 (i := 0) rfl rfl ?_
  refine a_get C fl_RX12_107 (i := 236) kd_236 (hid 236 (by decide)) (v := .ref (ad 266)) rfl dX12_hold_37 ?_
  refine a_iload_n C dX12_hold_40 (i := 2) rfl rfl ?_
  refine a_iald C (i := 266) 10 kd_266 (hid 266 (by decide)) (by decide) rfl (by rw [al_266]; decide) dX12_hold_41 (v := 0) h_266_10 ?_
  refine a_iast C (i := 276) 10 kd_276 (hid 276 (by decide)) (by decide) rfl (by rw [al_276]; decide) dX12_hold_42 ?_
  refine a_iinc C dX12_hold_43 rfl (v := 11) rfl (by decide) rfl (vs1 := [some (.ref (ad 236)), some (.int 0), some (.int 11)]) rfl ?_
  refine a_goto C dX12_hold_46 (tgt := 20) rfl ?_
  refine a_iload_n C dX12_hold_20 (i := 2) rfl rfl ?_
  refine a_bipush C dX12_hold_21 (v := 29) rfl ?_
  refine a_ic_ge C dX12_hold_23 (tgt := 49) rfl (fun h => absurd h (by decide)) (fun _ => ?_)
  refine a_aload_n C dX12_hold_26 (i := 0) rfl rfl ?_
  refine a_get C fl_RX12_137 (i := 236) kd_236 (hid 236 (by decide)) (v := .ref (ad 276)) rfl dX12_hold_27 ?_
  refine a_bipush C dX12_hold_30 (v := 29) rfl ?_
  refine a_iload_n C dX12_hold_32 (i := 1) rfl rfl ?_
  refine a_imul C dX12_hold_33 ?_
  refine a_iload_n C dX12_hold_34 (i := 2) rfl rfl ?_
  refine a_iadd C dX12_hold_35 ?_
  refine a_aload_n C dX12_hold_36 (i := 0) rfl rfl ?_
  refine a_get C fl_RX12_107 (i := 236) kd_236 (hid 236 (by decide)) (v := .ref (ad 266)) rfl dX12_hold_37 ?_
  refine a_iload_n C dX12_hold_40 (i := 2) rfl rfl ?_
  refine a_iald C (i := 266) 11 kd_266 (hid 266 (by decide)) (by decide) rfl (by rw [al_266]; decide) dX12_hold_41 (v := 0) h_266_11 ?_
  refine a_iast C (i := 276) 11 kd_276 (hid 276 (by decide)) (by decide) rfl (by rw [al_276]; decide) dX12_hold_42 ?_
  refine a_iinc C dX12_hold_43 rfl (v := 12) rfl (by decide) rfl (vs1 := [some (.ref (ad 236)), some (.int 0), some (.int 12)]) rfl ?_
  refine a_goto C dX12_hold_46 (tgt := 20) rfl ?_
  refine a_iload_n C dX12_hold_20 (i := 2) rfl rfl ?_
  refine a_bipush C dX12_hold_21 (v := 29) rfl ?_
  refine a_ic_ge C dX12_hold_23 (tgt := 49) rfl (fun h => absurd h (by decide)) (fun _ => ?_)
  refine a_aload_n C dX12_hold_26 (i := 0) rfl rfl ?_
  refine a_get C fl_RX12_137 (i := 236) kd_236 (hid 236 (by decide)) (v := .ref (ad 276)) rfl dX12_hold_27 ?_
  refine a_bipush C dX12_hold_30 (v := 29) rfl ?_
  refine a_iload_n C dX12_hold_32 (i := 1) rfl rfl ?_
  refine a_imul C dX12_hold_33 ?_
  refine a_iload_n C dX12_hold_34 (i := 2) rfl rfl ?_
  refine a_iadd C dX12_hold_35 ?_
  refine a_aload_n C dX12_hold_36 (i := 0) rfl rfl ?_
  refine a_get C fl_RX12_107 (i := 236) kd_236 (hid 236 (by decide)) (v := .ref (ad 266)) rfl dX12_hold_37 ?_
  refine a_iload_n C dX12_hold_40 (i := 2) rfl rfl ?_
  refine a_iald C (i := 266) 12 kd_266 (hid 266 (by decide)) (by decide) rfl (by rw [al_266]; decide) dX12_hold_41 (v := 0) h_266_12 ?_
  refine a_iast C (i := 276) 12 kd_276 (hid 276 (by decide)) (by decide) rfl (by rw [al_276]; decide) dX12_hold_42 ?_
  refine a_iinc C dX12_hold_43 rfl (v := 13) rfl (by decide) rfl (vs1 := [some (.ref (ad 236)), some (.int 0), some (.int 13)]) rfl ?_
  refine a_goto C dX12_hold_46 (tgt := 20) rfl ?_
  refine a_iload_n C dX12_hold_20 (i := 2) rfl rfl ?_
  refine a_bipush C dX12_hold_21 (v := 29) rfl ?_
  refine a_ic_ge C dX12_hold_23 (tgt := 49) rfl (fun h => absurd h (by decide)) (fun _ => ?_)
  refine a_aload_n C dX12_hold_26 (i := 0) rfl rfl ?_
  refine a_get C fl_RX12_137 (i := 236) kd_236 (hid 236 (by decide)) (v := .ref (ad 276)) rfl dX12_hold_27 ?_
  refine a_bipush C dX12_hold_30 (v := 29) rfl ?_
  refine a_iload_n C dX12_hold_32 (i := 1) rfl rfl ?_
  refine a_imul C dX12_hold_33 ?_
  refine a_iload_n C dX12_hold_34 (i := 2) rfl rfl ?_
  refine a_iadd C dX12_hold_35 ?_
  refine a_aload_n C dX12_hold_36 (i := 0) rfl rfl ?_
  refine a_get C fl_RX12_107 (i := 236) kd_236 (hid 236 (by decide)) (v := .ref (ad 266)) rfl dX12_hold_37 ?_
  refine a_iload_n C dX12_hold_40 (i := 2) rfl rfl ?_
  refine a_iald C (i := 266) 13 kd_266 (hid 266 (by decide)) (by decide) rfl (by rw [al_266]; decide) dX12_hold_41 (v := 0) h_266_13 ?_
  refine a_iast C (i := 276) 13 kd_276 (hid 276 (by decide)) (by decide) rfl (by rw [al_276]; decide) dX12_hold_42 ?_
  refine a_iinc C dX12_hold_43 rfl (v := 14) rfl (by decide) rfl (vs1 := [some (.ref (ad 236)), some (.int 0), some (.int 14)]) rfl ?_
  refine a_goto C dX12_hold_46 (tgt := 20) rfl ?_
  refine a_iload_n C dX12_hold_20 (i := 2) rfl rfl ?_
  refine a_bipush C dX12_hold_21 (v := 29) rfl ?_
  refine a_ic_ge C dX12_hold_23 (tgt := 49) rfl (fun h => absurd h (by decide)) (fun _ => ?_)
  refine a_aload_n C dX12_hold_26 (i := 0) rfl rfl ?_
  refine a_get C fl_RX12_137 (i := 236) kd_236 (hid 236 (by decide)) (v := .ref (ad 276)) rfl dX12_hold_27 ?_
  refine a_bipush C dX12_hold_30 (v := 29) rfl ?_
  refine a_iload_n C dX12_hold_32 (i := 1) rfl rfl ?_
  refine a_imul C dX12_hold_33 ?_
  refine a_iload_n C dX12_hold_34 (i := 2) rfl rfl ?_
  refine a_iadd C dX12_hold_35 ?_
  refine a_aload_n C dX12_hold_36 (i := 0) rfl rfl ?_
  refine a_get C fl_RX12_107 (i := 236) kd_236 (hid 236 (by decide)) (v := .ref (ad 266)) rfl dX12_hold_37 ?_
  refine a_iload_n C dX12_hold_40 (i := 2) rfl rfl ?_
  refine a_iald C (i := 266) 14 kd_266 (hid 266 (by decide)) (by decide) rfl (by rw [al_266]; decide) dX12_hold_41 (v := 0) h_266_14 ?_
  refine a_iast C (i := 276) 14 kd_276 (hid 276 (by decide)) (by decide) rfl (by rw [al_276]; decide) dX12_hold_42 ?_
  refine a_iinc C dX12_hold_43 rfl (v := 15) rfl (by decide) rfl (vs1 := [some (.ref (ad 236)), some (.int 0), some (.int 15)]) rfl ?_
  refine a_goto C dX12_hold_46 (tgt := 20) rfl ?_
  refine a_iload_n C dX12_hold_20 (i := 2) rfl rfl ?_
  refine a_bipush C dX12_hold_21 (v := 29) rfl ?_
  refine a_ic_ge C dX12_hold_23 (tgt := 49) rfl (fun h => absurd h (by decide)) (fun _ => ?_)
  refine a_aload_n C dX12_hold_26 (i := 0) rfl rfl ?_
  refine a_get C fl_RX12_137 (i := 236) kd_236 (hid 236 (by decide)) (v := .ref (ad 276)) rfl dX12_hold_27 ?_
  refine a_bipush C dX12_hold_30 (v := 29) rfl ?_
  refine a_iload_n C dX12_hold_32 (i := 1) rfl rfl ?_
  refine a_imul C dX12_hold_33 ?_
  refine a_iload_n C dX12_hold_34 (i := 2) rfl rfl ?_
  refine a_iadd C dX12_hold_35 ?_
  refine a_aload_n C dX12_hold_36 (i := 0) rfl rfl ?_
  refine a_get C fl_RX12_107 (i := 236) kd_236 (hid 236 (by decide)) (v := .ref (ad 266)) rfl dX12_hold_37 ?_
  refine a_iload_n C dX12_hold_40 (i := 2) rfl rfl ?_
  refine a_iald C (i := 266) 15 kd_266 (hid 266 (by decide)) (by decide) rfl (by rw [al_266]; decide) dX12_hold_41 (v := 0) h_266_15 ?_
  refine a_iast C (i := 276) 15 kd_276 (hid 276 (by decide)) (by decide) rfl (by rw [al_276]; decide) dX12_hold_42 ?_
  refine a_iinc C dX12_hold_43 rfl (v := 16) rfl (by decide) rfl (vs1 := [some (.ref (ad 236)), some (.int 0), some (.int 16)]) rfl ?_
  refine a_goto C dX12_hold_46 (tgt := 20) rfl ?_
  refine a_iload_n C dX12_hold_20 (i := 2) rfl rfl ?_
  refine a_bipush C dX12_hold_21 (v := 29) rfl ?_
  refine a_ic_ge C dX12_hold_23 (tgt := 49) rfl (fun h => absurd h (by decide)) (fun _ => ?_)
  refine a_aload_n C dX12_hold_26 (i := 0) rfl rfl ?_
  refine a_get C fl_RX12_137 (i := 236) kd_236 (hid 236 (by decide)) (v := .ref (ad 276)) rfl dX12_hold_27 ?_
  refine a_bipush C dX12_hold_30 (v := 29) rfl ?_
  refine a_iload_n C dX12_hold_32 (i := 1) rfl rfl ?_
  refine a_imul C dX12_hold_33 ?_
  refine a_iload_n C dX12_hold_34 (i := 2) rfl rfl ?_
  refine a_iadd C dX12_hold_35 ?_
  refine a_aload_n C dX12_hold_36 (i := 0) rfl rfl ?_
  refine a_get C fl_RX12_107 (i := 236) kd_236 (hid 236 (by decide)) (v := .ref (ad 266)) rfl dX12_hold_37 ?_
  refine a_iload_n C dX12_hold_40 (i := 2) rfl rfl ?_
  refine a_iald C (i := 266) 16 kd_266 (hid 266 (by decide)) (by decide) rfl (by rw [al_266]; decide) dX12_hold_41 (v := 0) h_266_16 ?_
  refine a_iast C (i := 276) 16 kd_276 (hid 276 (by decide)) (by decide) rfl (by rw [al_276]; decide) dX12_hold_42 ?_
  refine a_iinc C dX12_hold_43 rfl (v := 17) rfl (by decide) rfl (vs1 := [some (.ref (ad 236)), some (.int 0), some (.int 17)]) rfl ?_
  refine a_goto C dX12_hold_46 (tgt := 20) rfl ?_
  refine a_iload_n C dX12_hold_20 (i := 2) rfl rfl ?_
  refine a_bipush C dX12_hold_21 (v := 29) rfl ?_
  refine a_ic_ge C dX12_hold_23 (tgt := 49) rfl (fun h => absurd h (by decide)) (fun _ => ?_)
  refine a_aload_n C dX12_hold_26 (i := 0) rfl rfl ?_
  refine a_get C fl_RX12_137 (i := 236) kd_236 (hid 236 (by decide)) (v := .ref (ad 276)) rfl dX12_hold_27 ?_
  refine a_bipush C dX12_hold_30 (v := 29) rfl ?_
  refine a_iload_n C dX12_hold_32 (i := 1) rfl rfl ?_
  refine a_imul C dX12_hold_33 ?_
  refine a_iload_n C dX12_hold_34 (i := 2) rfl rfl ?_
  refine a_iadd C dX12_hold_35 ?_
  refine a_aload_n C dX12_hold_36 (i := 0) rfl rfl ?_
  refine a_get C fl_RX12_107 (i := 236) kd_236 (hid 236 (by decide)) (v := .ref (ad 266)) rfl dX12_hold_37 ?_
  refine a_iload_n C dX12_hold_40 (i := 2) rfl rfl ?_
  refine a_iald C (i := 266) 17 kd_266 (hid 266 (by decide)) (by decide) rfl (by rw [al_266]; decide) dX12_hold_41 (v := 0) h_266_17 ?_
  refine a_iast C (i := 276) 17 kd_276 (hid 276 (by decide)) (by decide) rfl (by rw [al_276]; decide) dX12_hold_42 ?_
  refine a_iinc C dX12_hold_43 rfl (v := 18) rfl (by decide) rfl (vs1 := [some (.ref (ad 236)), some (.int 0), some (.int 18)]) rfl ?_
  refine a_goto C dX12_hold_46 (tgt := 20) rfl ?_
  refine a_iload_n C dX12_hold_20 (i := 2) rfl rfl ?_
  refine a_bipush C dX12_hold_21 (v := 29) rfl ?_
  refine a_ic_ge C dX12_hold_23 (tgt := 49) rfl (fun h => absurd h (by decide)) (fun _ => ?_)
  refine a_aload_n C dX12_hold_26 (i := 0) rfl rfl ?_
  refine a_get C fl_RX12_137 (i := 236) kd_236 (hid 236 (by decide)) (v := .ref (ad 276)) rfl dX12_hold_27 ?_
  refine a_bipush C dX12_hold_30 (v := 29) rfl ?_
  refine a_iload_n C dX12_hold_32 (i := 1) rfl rfl ?_
  refine a_imul C dX12_hold_33 ?_
  refine a_iload_n C dX12_hold_34 (i := 2) rfl rfl ?_
  refine a_iadd C dX12_hold_35 ?_
  refine a_aload_n C dX12_hold_36 (i := 0) rfl rfl ?_
  refine a_get C fl_RX12_107 (i := 236) kd_236 (hid 236 (by decide)) (v := .ref (ad 266)) rfl dX12_hold_37 ?_
  refine a_iload_n C dX12_hold_40 (i := 2) rfl rfl ?_
  refine a_iald C (i := 266) 18 kd_266 (hid 266 (by decide)) (by decide) rfl (by rw [al_266]; decide) dX12_hold_41 (v := 0) h_266_18 ?_
  refine a_iast C (i := 276) 18 kd_276 (hid 276 (by decide)) (by decide) rfl (by rw [al_276]; decide) dX12_hold_42 ?_
  refine a_iinc C dX12_hold_43 rfl (v := 19) rfl (by decide) rfl (vs1 := [some (.ref (ad 236)), some (.int 0), some (.int 19)]) rfl ?_
  refine a_goto C dX12_hold_46 (tgt := 20) rfl ?_
  refine a_iload_n C dX12_hold_20 (i := 2) rfl rfl ?_
  refine a_bipush C dX12_hold_21 (v := 29) rfl ?_
  refine a_ic_ge C dX12_hold_23 (tgt := 49) rfl (fun h => absurd h (by decide)) (fun _ => ?_)
  refine a_aload_n C dX12_hold_26 (i := 0) rfl rfl ?_
  refine a_get C fl_RX12_137 (i := 236) kd_236 (hid 236 (by decide)) (v := .ref (ad 276)) rfl dX12_hold_27 ?_
  refine a_bipush C dX12_hold_30 (v := 29) rfl ?_
  refine a_iload_n C dX12_hold_32 (i := 1) rfl rfl ?_
  refine a_imul C dX12_hold_33 ?_
  refine a_iload_n C dX12_hold_34 (i := 2) rfl rfl ?_
  refine a_iadd C dX12_hold_35 ?_
  refine a_aload_n C dX12_hold_36 (i := 0) rfl rfl ?_
  refine a_get C fl_RX12_107 (i := 236) kd_236 (hid 236 (by decide)) (v := .ref (ad 266)) rfl dX12_hold_37 ?_
  refine a_iload_n C dX12_hold_40 (i := 2) rfl rfl ?_
  refine a_iald C (i := 266) 19 kd_266 (hid 266 (by decide)) (by decide) rfl (by rw [al_266]; decide) dX12_hold_41 (v := 0) h_266_19 ?_
  refine a_iast C (i := 276) 19 kd_276 (hid 276 (by decide)) (by decide) rfl (by rw [al_276]; decide) dX12_hold_42 ?_
  refine a_iinc C dX12_hold_43 rfl (v := 20) rfl (by decide) rfl (vs1 := [some (.ref (ad 236)), some (.int 0), some (.int 20)]) rfl ?_
  refine a_goto C dX12_hold_46 (tgt := 20) rfl ?_
  refine a_iload_n C dX12_hold_20 (i := 2) rfl rfl ?_
  refine a_bipush C dX12_hold_21 (v := 29) rfl ?_
  refine a_ic_ge C dX12_hold_23 (tgt := 49) rfl (fun h => absurd h (by decide)) (fun _ => ?_)
  refine a_aload_n C dX12_hold_26 (i := 0) rfl rfl ?_
  refine a_get C fl_RX12_137 (i := 236) kd_236 (hid 236 (by decide)) (v := .ref (ad 276)) rfl dX12_hold_27 ?_
  refine a_bipush C dX12_hold_30 (v := 29) rfl ?_
  refine a_iload_n C dX12_hold_32 (i := 1) rfl rfl ?_
  refine a_imul C dX12_hold_33 ?_
  refine a_iload_n C dX12_hold_34 (i := 2) rfl rfl ?_
  refine a_iadd C dX12_hold_35 ?_
  refine a_aload_n C dX12_hold_36 (i := 0) rfl rfl ?_
  refine a_get C fl_RX12_107 (i := 236) kd_236 (hid 236 (by decide)) (v := .ref (ad 266)) rfl dX12_hold_37 ?_
  refine a_iload_n C dX12_hold_40 (i := 2) rfl rfl ?_
  refine a_iald C (i := 266) 20 kd_266 (hid 266 (by decide)) (by decide) rfl (by rw [al_266]; decide) dX12_hold_41 (v := 0) h_266_20 ?_
  refine a_iast C (i := 276) 20 kd_276 (hid 276 (by decide)) (by decide) rfl (by rw [al_276]; decide) dX12_hold_42 ?_
  refine a_iinc C dX12_hold_43 rfl (v := 21) rfl (by decide) rfl (vs1 := [some (.ref (ad 236)), some (.int 0), some (.int 21)]) rfl ?_
  refine a_goto C dX12_hold_46 (tgt := 20) rfl ?_
  refine a_iload_n C dX12_hold_20 (i := 2) rfl rfl ?_
  refine a_bipush C dX12_hold_21 (v := 29) rfl ?_
  refine a_ic_ge C dX12_hold_23 (tgt := 49) rfl (fun h => absurd h (by decide)) (fun _ => ?_)
  refine a_aload_n C dX12_hold_26 (i := 0) rfl rfl ?_
  refine a_get C fl_RX12_137 (i := 236) kd_236 (hid 236 (by decide)) (v := .ref (ad 276)) rfl dX12_hold_27 ?_
  refine a_bipush C dX12_hold_30 (v := 29) rfl ?_
  refine a_iload_n C dX12_hold_32 (i := 1) rfl rfl ?_
  refine a_imul C dX12_hold_33 ?_
  refine a_iload_n C dX12_hold_34 (i := 2) rfl rfl ?_
  refine a_iadd C dX12_hold_35 ?_
  refine a_aload_n C dX12_hold_36 (i := 0) rfl rfl ?_
  refine a_get C fl_RX12_107 (i := 236) kd_236 (hid 236 (by decide)) (v := .ref (ad 266)) rfl dX12_hold_37 ?_
  refine a_iload_n C dX12_hold_40 (i := 2) rfl rfl ?_
  refine a_iald C (i := 266) 21 kd_266 (hid 266 (by decide)) (by decide) rfl (by rw [al_266]; decide) dX12_hold_41 (v := 0) h_266_21 ?_
  refine a_iast C (i := 276) 21 kd_276 (hid 276 (by decide)) (by decide) rfl (by rw [al_276]; decide) dX12_hold_42 ?_
  refine a_iinc C dX12_hold_43 rfl (v := 22) rfl (by decide) rfl (vs1 := [some (.ref (ad 236)), some (.int 0), some (.int 22)]) rfl ?_
  refine a_goto C dX12_hold_46 (tgt := 20) rfl ?_
  refine a_iload_n C dX12_hold_20 (i := 2) rfl rfl ?_
  refine a_bipush C dX12_hold_21 (v := 29) rfl ?_
  refine a_ic_ge C dX12_hold_23 (tgt := 49) rfl (fun h => absurd h (by decide)) (fun _ => ?_)
  refine a_aload_n C dX12_hold_26 (i := 0) rfl rfl ?_
  refine a_get C fl_RX12_137 (i := 236) kd_236 (hid 236 (by decide)) (v := .ref (ad 276)) rfl dX12_hold_27 ?_
  refine a_bipush C dX12_hold_30 (v := 29) rfl ?_
  refine a_iload_n C dX12_hold_32 (i := 1) rfl rfl ?_
  refine a_imul C dX12_hold_33 ?_
  refine a_iload_n C dX12_hold_34 (i := 2) rfl rfl ?_
  refine a_iadd C dX12_hold_35 ?_
  refine a_aload_n C dX12_hold_36 (i := 0) rfl rfl ?_
  refine a_get C fl_RX12_107 (i := 236) kd_236 (hid 236 (by decide)) (v := .ref (ad 266)) rfl dX12_hold_37 ?_
  refine a_iload_n C dX12_hold_40 (i := 2) rfl rfl ?_
  refine a_iald C (i := 266) 22 kd_266 (hid 266 (by decide)) (by decide) rfl (by rw [al_266]; decide) dX12_hold_41 (v := 0) h_266_22 ?_
  refine a_iast C (i := 276) 22 kd_276 (hid 276 (by decide)) (by decide) rfl (by rw [al_276]; decide) dX12_hold_42 ?_
  refine a_iinc C dX12_hold_43 rfl (v := 23) rfl (by decide) rfl (vs1 := [some (.ref (ad 236)), some (.int 0), some (.int 23)]) rfl ?_
  refine a_goto C dX12_hold_46 (tgt := 20) rfl ?_
  refine a_iload_n C dX12_hold_20 (i := 2) rfl rfl ?_
  refine a_bipush C dX12_hold_21 (v := 29) rfl ?_
  refine a_ic_ge C dX12_hold_23 (tgt := 49) rfl (fun h => absurd h (by decide)) (fun _ => ?_)
  refine a_aload_n C dX12_hold_26 (i := 0) rfl rfl ?_
  refine a_get C fl_RX12_137 (i := 236) kd_236 (hid 236 (by decide)) (v := .ref (ad 276)) rfl dX12_hold_27 ?_
  refine a_bipush C dX12_hold_30 (v := 29) rfl ?_
  refine a_iload_n C dX12_hold_32 (i := 1) rfl rfl ?_
  refine a_imul C dX12_hold_33 ?_
  refine a_iload_n C dX12_hold_34 (i := 2) rfl rfl ?_
  refine a_iadd C dX12_hold_35 ?_
  refine a_aload_n C dX12_hold_36 (i := 0) rfl rfl ?_
  refine a_get C fl_RX12_107 (i := 236) kd_236 (hid 236 (by decide)) (v := .ref (ad 266)) rfl dX12_hold_37 ?_
  refine a_iload_n C dX12_hold_40 (i := 2) rfl rfl ?_
  refine a_iald C (i := 266) 23 kd_266 (hid 266 (by decide)) (by decide) rfl (by rw [al_266]; decide) dX12_hold_41 (v := 0) h_266_23 ?_
  refine a_iast C (i := 276) 23 kd_276 (hid 276 (by decide)) (by decide) rfl (by rw [al_276]; decide) dX12_hold_42 ?_
  refine a_iinc C dX12_hold_43 rfl (v := 24) rfl (by decide) rfl (vs1 := [some (.ref (ad 236)), some (.int 0), some (.int 24)]) rfl ?_
  refine a_goto C dX12_hold_46 (tgt := 20) rfl ?_
  refine a_iload_n C dX12_hold_20 (i := 2) rfl rfl ?_
  refine a_bipush C dX12_hold_21 (v := 29) rfl ?_
  refine a_ic_ge C dX12_hold_23 (tgt := 49) rfl (fun h => absurd h (by decide)) (fun _ => ?_)
  refine a_aload_n C dX12_hold_26 (i := 0) rfl rfl ?_
  refine a_get C fl_RX12_137 (i := 236) kd_236 (hid 236 (by decide)) (v := .ref (ad 276)) rfl dX12_hold_27 ?_
  refine a_bipush C dX12_hold_30 (v := 29) rfl ?_
  refine a_iload_n C dX12_hold_32 (i := 1) rfl rfl ?_
  refine a_imul C dX12_hold_33 ?_
  refine a_iload_n C dX12_hold_34 (i := 2) rfl rfl ?_
  refine a_iadd C dX12_hold_35 ?_
  refine a_aload_n C dX12_hold_36 (i := 0) rfl rfl ?_
  refine a_get C fl_RX12_107 (i := 236) kd_236 (hid 236 (by decide)) (v := .ref (ad 266)) rfl dX12_hold_37 ?_
  refine a_iload_n C dX12_hold_40 (i := 2) rfl rfl ?_
  refine a_iald C (i := 266) 24 kd_266 (hid 266 (by decide)) (by decide) rfl (by rw [al_266]; decide) dX12_hold_41 (v := 0) h_266_24 ?_
  refine a_iast C (i := 276) 24 kd_276 (hid 276 (by decide)) (by decide) rfl (by rw [al_276]; decide) dX12_hold_42 ?_
  refine a_iinc C dX12_hold_43 rfl (v := 25) rfl (by decide) rfl (vs1 := [some (.ref (ad 236)), some (.int 0), some (.int 25)]) rfl ?_
  refine a_goto C dX12_hold_46 (tgt := 20) rfl ?_
  refine a_iload_n C dX12_hold_20 (i := 2) rfl rfl ?_
  refine a_bipush C dX12_hold_21 (v := 29) rfl ?_
  refine a_ic_ge C dX12_hold_23 (tgt := 49) rfl (fun h => absurd h (by decide)) (fun _ => ?_)
  refine a_aload_n C dX12_hold_26 (i := 0) rfl rfl ?_
  refine a_get C fl_RX12_137 (i := 236) kd_236 (hid 236 (by decide)) (v := .ref (ad 276)) rfl dX12_hold_27 ?_
  refine a_bipush C dX12_hold_30 (v := 29) rfl ?_
  refine a_iload_n C dX12_hold_32 (i := 1) rfl rfl ?_
  refine a_imul C dX12_hold_33 ?_
  refine a_iload_n C dX12_hold_34 (i := 2) rfl rfl ?_
  refine a_iadd C dX12_hold_35 ?_
  refine a_aload_n C dX12_hold_36 (i := 0) rfl rfl ?_
  refine a_get C fl_RX12_107 (i := 236) kd_236 (hid 236 (by decide)) (v := .ref (ad 266)) rfl dX12_hold_37 ?_
  refine a_iload_n C dX12_hold_40 (i := 2) rfl rfl ?_
  refine a_iald C (i := 266) 25 kd_266 (hid 266 (by decide)) (by decide) rfl (by rw [al_266]; decide) dX12_hold_41 (v := 0) h_266_25 ?_
  refine a_iast C (i := 276) 25 kd_276 (hid 276 (by decide)) (by decide) rfl (by rw [al_276]; decide) dX12_hold_42 ?_
  refine a_iinc C dX12_hold_43 rfl (v := 26) rfl (by decide) rfl (vs1 := [some (.ref (ad 236)), some (.int 0), some (.int 26)]) rfl ?_
  refine a_goto C dX12_hold_46 (tgt := 20) rfl ?_
  refine a_iload_n C dX12_hold_20 (i := 2) rfl rfl ?_
  refine a_bipush C dX12_hold_21 (v := 29) rfl ?_
  refine a_ic_ge C dX12_hold_23 (tgt := 49) rfl (fun h => absurd h (by decide)) (fun _ => ?_)
  refine a_aload_n C dX12_hold_26 (i := 0) rfl rfl ?_
  refine a_get C fl_RX12_137 (i := 236) kd_236 (hid 236 (by decide)) (v := .ref (ad 276)) rfl dX12_hold_27 ?_
  refine a_bipush C dX12_hold_30 (v := 29) rfl ?_
  refine a_iload_n C dX12_hold_32 (i := 1) rfl rfl ?_
  refine a_imul C dX12_hold_33 ?_
  refine a_iload_n C dX12_hold_34 (i := 2) rfl rfl ?_
  refine a_iadd C dX12_hold_35 ?_
  refine a_aload_n C dX12_hold_36 (i := 0) rfl rfl ?_
  refine a_get C fl_RX12_107 (i := 236) kd_236 (hid 236 (by decide)) (v := .ref (ad 266)) rfl dX12_hold_37 ?_
  refine a_iload_n C dX12_hold_40 (i := 2) rfl rfl ?_
  refine a_iald C (i := 266) 26 kd_266 (hid 266 (by decide)) (by decide) rfl (by rw [al_266]; decide) dX12_hold_41 (v := (-2)) h_266_26 ?_
  refine a_iast C (i := 276) 26 kd_276 (hid 276 (by decide)) (by decide) rfl (by rw [al_276]; decide) dX12_hold_42 ?_
  refine a_iinc C dX12_hold_43 rfl (v := 27) rfl (by decide) rfl (vs1 := [some (.ref (ad 236)), some (.int 0), some (.int 27)]) rfl ?_
  refine a_goto C dX12_hold_46 (tgt := 20) rfl ?_
  refine a_iload_n C dX12_hold_20 (i := 2) rfl rfl ?_
  refine a_bipush C dX12_hold_21 (v := 29) rfl ?_
  refine a_ic_ge C dX12_hold_23 (tgt := 49) rfl (fun h => absurd h (by decide)) (fun _ => ?_)
  refine a_aload_n C dX12_hold_26 (i := 0) rfl rfl ?_
  refine a_get C fl_RX12_137 (i := 236) kd_236 (hid 236 (by decide)) (v := .ref (ad 276)) rfl dX12_hold_27 ?_
  refine a_bipush C dX12_hold_30 (v := 29) rfl ?_
  refine a_iload_n C dX12_hold_32 (i := 1) rfl rfl ?_
  refine a_imul C dX12_hold_33 ?_
  refine a_iload_n C dX12_hold_34 (i := 2) rfl rfl ?_
  refine a_iadd C dX12_hold_35 ?_
  refine a_aload_n C dX12_hold_36 (i := 0) rfl rfl ?_
  refine a_get C fl_RX12_107 (i := 236) kd_236 (hid 236 (by decide)) (v := .ref (ad 266)) rfl dX12_hold_37 ?_
  refine a_iload_n C dX12_hold_40 (i := 2) rfl rfl ?_
  refine a_iald C (i := 266) 27 kd_266 (hid 266 (by decide)) (by decide) rfl (by rw [al_266]; decide) dX12_hold_41 (v := 0) h_266_27 ?_
  refine a_iast C (i := 276) 27 kd_276 (hid 276 (by decide)) (by decide) rfl (by rw [al_276]; decide) dX12_hold_42 ?_
  refine a_iinc C dX12_hold_43 rfl (v := 28) rfl (by decide) rfl (vs1 := [some (.ref (ad 236)), some (.int 0), some (.int 28)]) rfl ?_
  refine a_goto C dX12_hold_46 (tgt := 20) rfl ?_
  refine a_iload_n C dX12_hold_20 (i := 2) rfl rfl ?_
  refine a_bipush C dX12_hold_21 (v := 29) rfl ?_
  refine a_ic_ge C dX12_hold_23 (tgt := 49) rfl (fun h => absurd h (by decide)) (fun _ => ?_)
  refine a_aload_n C dX12_hold_26 (i := 0) rfl rfl ?_
  refine a_get C fl_RX12_137 (i := 236) kd_236 (hid 236 (by decide)) (v := .ref (ad 276)) rfl dX12_hold_27 ?_
  refine a_bipush C dX12_hold_30 (v := 29) rfl ?_
  refine a_iload_n C dX12_hold_32 (i := 1) rfl rfl ?_
  refine a_imul C dX12_hold_33 ?_
  refine a_iload_n C dX12_hold_34 (i := 2) rfl rfl ?_
  refine a_iadd C dX12_hold_35 ?_
  refine a_aload_n C dX12_hold_36 (i := 0) rfl rfl ?_
  refine a_get C fl_RX12_107 (i := 236) kd_236 (hid 236 (by decide)) (v := .ref (ad 266)) rfl dX12_hold_37 ?_
  refine a_iload_n C dX12_hold_40 (i := 2) rfl rfl ?_
  refine a_iald C (i := 266) 28 kd_266 (hid 266 (by decide)) (by decide) rfl (by rw [al_266]; decide) dX12_hold_41 (v := (-1)) h_266_28 ?_
  refine a_iast C (i := 276) 28 kd_276 (hid 276 (by decide)) (by decide) rfl (by rw [al_276]; decide) dX12_hold_42 ?_
  refine a_iinc C dX12_hold_43 rfl (v := 29) rfl (by decide) rfl (vs1 := [some (.ref (ad 236)), some (.int 0), some (.int 29)]) rfl ?_
  refine a_goto C dX12_hold_46 (tgt := 20) rfl ?_
  refine a_iload_n C dX12_hold_20 (i := 2) rfl rfl ?_
  refine a_bipush C dX12_hold_21 (v := 29) rfl ?_
  refine a_ic_ge C dX12_hold_23 (tgt := 49) rfl (fun _ => ?_) (fun h => absurd h (by decide))
  refine a_iconst C dX12_hold_49 (v := 1) rfl ?_
  exact a_iret Rt dX12_hold_50 rfl (rfl)
theorem dX12_restore_0 : decode cX12_restore 0 = .ok (.iload_n 1, 1) := by decide +kernel
theorem dX12_restore_1 : decode cX12_restore 1 = .ok (.iconst 0, 1) := by decide +kernel
theorem dX12_restore_2 : decode cX12_restore 2 = .ok (.iconst 2, 1) := by decide +kernel
theorem dX12_restore_3 : decode cX12_restore 3 = .ok (.invokestatic 301, 3) := by decide +kernel
theorem dX12_restore_6 : decode cX12_restore 6 = .ok (.ifCond .eq 12, 3) := by decide +kernel
theorem dX12_restore_9 : decode cX12_restore 9 = .ok (.aload_n 0, 1) := by decide +kernel
theorem dX12_restore_10 : decode cX12_restore 10 = .ok (.getfield 134, 3) := by decide +kernel
theorem dX12_restore_13 : decode cX12_restore 13 = .ok (.iload_n 1, 1) := by decide +kernel
theorem dX12_restore_14 : decode cX12_restore 14 = .ok (.baload, 1) := by decide +kernel
theorem dX12_restore_15 : decode cX12_restore 15 = .ok (.ifCond .ne 5, 3) := by decide +kernel
theorem dX12_restore_18 : decode cX12_restore 18 = .ok (.iconst 0, 1) := by decide +kernel
theorem dX12_restore_19 : decode cX12_restore 19 = .ok (.ireturn, 1) := by decide +kernel
set_option maxHeartbeats 4000000 in
set_option maxRecDepth 100000 in
theorem q_restore_0 {l : Launch} {D : va_G} {ids : List Nat} {ad : Nat → Nat} {ca : Nat → ClassId} {σ : HS} (hid : ∀ i, i < 277 → i ∈ ids) (h_275_0 : σ.1 275 0 = 0) : Ki l D ids ad ca yX12_restore cX12_restore 3 .boolean 1 22 [.ref (ad 236), .int 0] σ (fun r _ => r = 0) := by
  refine Ki.of (by decide) (Nat.le_of_ble_eq_true rfl) 1 (fun Γ C Rt => ?_)
  show AW ids ad ca Γ 0 [some (.ref (ad 236)), some (.int 0), none] [] σ
  refine a_iload_n C dX12_restore_0 (i := 1) rfl rfl ?_
  refine a_iconst C dX12_restore_1 (v := 0) rfl ?_
  refine a_iconst C dX12_restore_2 (v := 2) rfl ?_
  refine a_callSi C (m_in_yes hid (by decide) (by decide)) ms_X12_in ml_RX12_301 rfl rfl (Nat.le_of_ble_eq_true rfl) (Nat.le_of_ble_eq_true rfl) (Nat.le_of_ble_eq_true rfl) dX12_restore_3 (fun r1 σ2 q3 => ?_)
  obtain ⟨rfl, q3⟩ := q3
  rw [q3]
  refine a_if_eq C dX12_restore_6 (tgt := 18) rfl (fun h => absurd h (by decide)) (fun _ => ?_)
  refine a_aload_n C dX12_restore_9 (i := 0) rfl rfl ?_
  refine a_get C fl_RX12_134 (i := 236) kd_236 (hid 236 (by decide)) (v := .ref (ad 275)) rfl dX12_restore_10 ?_
  refine a_iload_n C dX12_restore_13 (i := 1) rfl rfl ?_
  refine a_zald C (i := 275) 0 kd_275 (hid 275 (by decide)) (by decide) rfl (by rw [al_275]; decide) dX12_restore_14 (v := 0) h_275_0 ?_
  refine a_if_ne C dX12_restore_15 (tgt := 20) rfl (fun h => absurd h (by decide)) (fun _ => ?_)
  refine a_iconst C dX12_restore_18 (v := 0) rfl ?_
  exact a_iret Rt dX12_restore_19 rfl (rfl)
set_option maxHeartbeats 4000000 in
set_option maxRecDepth 100000 in
theorem q_hold_1 {l : Launch} {D : va_G} {ids : List Nat} {ad : Nat → Nat} {ca : Nat → ClassId} {σ : HS} (hid : ∀ i, i < 277 → i ∈ ids) (h_266_0 : σ.1 266 0 = 0) (h_266_1 : σ.1 266 1 = 0) (h_266_2 : σ.1 266 2 = 0) (h_266_3 : σ.1 266 3 = 0) (h_266_4 : σ.1 266 4 = 0) (h_266_5 : σ.1 266 5 = 0) (h_266_6 : σ.1 266 6 = 0) (h_266_7 : σ.1 266 7 = 0) (h_266_8 : σ.1 266 8 = 0) (h_266_9 : σ.1 266 9 = 0) (h_266_10 : σ.1 266 10 = 0) (h_266_11 : σ.1 266 11 = 0) (h_266_12 : σ.1 266 12 = 0) (h_266_13 : σ.1 266 13 = 0) (h_266_14 : σ.1 266 14 = 0) (h_266_15 : σ.1 266 15 = 0) (h_266_16 : σ.1 266 16 = 0) (h_266_17 : σ.1 266 17 = 0) (h_266_18 : σ.1 266 18 = 0) (h_266_19 : σ.1 266 19 = 0) (h_266_20 : σ.1 266 20 = 0) (h_266_21 : σ.1 266 21 = 0) (h_266_22 : σ.1 266 22 = 0) (h_266_23 : σ.1 266 23 = 0) (h_266_24 : σ.1 266 24 = 0) (h_266_25 : σ.1 266 25 = 0) (h_266_26 : σ.1 266 26 = (-2)) (h_266_27 : σ.1 266 27 = 0) (h_266_28 : σ.1 266 28 = (-1)) : Ki l D ids ad ca yX12_hold cX12_hold 3 .boolean 1 22 [.ref (ad 236), .int 1] σ (fun r _ => r = 1) := by
  refine Ki.of (by decide) (Nat.le_of_ble_eq_true rfl) 1 (fun Γ C Rt => ?_)
  show AW ids ad ca Γ 0 [some (.ref (ad 236)), some (.int 1), none] [] σ
  refine a_iload_n C dX12_hold_0 (i := 1) rfl rfl ?_
  refine a_iconst C dX12_hold_1 (v := 0) rfl ?_
  refine a_iconst C dX12_hold_2 (v := 2) rfl ?_
  refine a_callSi C (m_in_yes hid (by decide) (by decide)) ms_X12_in ml_RX12_301 rfl rfl (Nat.le_of_ble_eq_true rfl) (Nat.le_of_ble_eq_true rfl) (Nat.le_of_ble_eq_true rfl) dX12_hold_3 (fun r1 σ2 q3 => ?_)
  obtain ⟨rfl, q3⟩ := q3
  rw [q3]
  refine a_if_ne C dX12_hold_6 (tgt := 11) rfl (fun _ => ?_) (fun h => absurd h (by decide))
  refine a_aload_n C dX12_hold_11 (i := 0) rfl rfl ?_
  refine a_get C fl_RX12_134 (i := 236) kd_236 (hid 236 (by decide)) (v := .ref (ad 275)) rfl dX12_hold_12 ?_
  refine a_iload_n C dX12_hold_15 (i := 1) rfl rfl ?_
  refine a_iconst C dX12_hold_16 (v := 1) rfl ?_
  refine a_zast C (i := 275) 1 rfl kd_275 (hid 275 (by decide)) (by decide) rfl (by rw [al_275]; decide) dX12_hold_17 ?_
  refine a_iconst C dX12_hold_18 (v := 0) rfl ?_
  refine a_istore_n C dX12_hold_19 (i := 2) rfl (by decide) rfl (vs1 := [some (.ref (ad 236)), some (.int 1), some (.int 0)]) rfl ?_
  refine a_iload_n C dX12_hold_20 (i := 2) rfl rfl ?_
  refine a_bipush C dX12_hold_21 (v := 29) rfl ?_
  refine a_ic_ge C dX12_hold_23 (tgt := 49) rfl (fun h => absurd h (by decide)) (fun _ => ?_)
  refine a_aload_n C dX12_hold_26 (i := 0) rfl rfl ?_
  refine a_get C fl_RX12_137 (i := 236) kd_236 (hid 236 (by decide)) (v := .ref (ad 276)) rfl dX12_hold_27 ?_
  refine a_bipush C dX12_hold_30 (v := 29) rfl ?_
  refine a_iload_n C dX12_hold_32 (i := 1) rfl rfl ?_
  refine a_imul C dX12_hold_33 ?_
  refine a_iload_n C dX12_hold_34 (i := 2) rfl rfl ?_
  refine a_iadd C dX12_hold_35 ?_
  refine a_aload_n C dX12_hold_36 (i := 0) rfl rfl ?_
  refine a_get C fl_RX12_107 (i := 236) kd_236 (hid 236 (by decide)) (v := .ref (ad 266)) rfl dX12_hold_37 ?_
  refine a_iload_n C dX12_hold_40 (i := 2) rfl rfl ?_
  refine a_iald C (i := 266) 0 kd_266 (hid 266 (by decide)) (by decide) rfl (by rw [al_266]; decide) dX12_hold_41 (v := 0) h_266_0 ?_
  refine a_iast C (i := 276) 29 kd_276 (hid 276 (by decide)) (by decide) rfl (by rw [al_276]; decide) dX12_hold_42 ?_
  refine a_iinc C dX12_hold_43 rfl (v := 1) rfl (by decide) rfl (vs1 := [some (.ref (ad 236)), some (.int 1), some (.int 1)]) rfl ?_
  refine a_goto C dX12_hold_46 (tgt := 20) rfl ?_
  refine a_iload_n C dX12_hold_20 (i := 2) rfl rfl ?_
  refine a_bipush C dX12_hold_21 (v := 29) rfl ?_
  refine a_ic_ge C dX12_hold_23 (tgt := 49) rfl (fun h => absurd h (by decide)) (fun _ => ?_)
  refine a_aload_n C dX12_hold_26 (i := 0) rfl rfl ?_
  refine a_get C fl_RX12_137 (i := 236) kd_236 (hid 236 (by decide)) (v := .ref (ad 276)) rfl dX12_hold_27 ?_
  refine a_bipush C dX12_hold_30 (v := 29) rfl ?_
  refine a_iload_n C dX12_hold_32 (i := 1) rfl rfl ?_
  refine a_imul C dX12_hold_33 ?_
  refine a_iload_n C dX12_hold_34 (i := 2) rfl rfl ?_
  refine a_iadd C dX12_hold_35 ?_
  refine a_aload_n C dX12_hold_36 (i := 0) rfl rfl ?_
  refine a_get C fl_RX12_107 (i := 236) kd_236 (hid 236 (by decide)) (v := .ref (ad 266)) rfl dX12_hold_37 ?_
  refine a_iload_n C dX12_hold_40 (i := 2) rfl rfl ?_
  refine a_iald C (i := 266) 1 kd_266 (hid 266 (by decide)) (by decide) rfl (by rw [al_266]; decide) dX12_hold_41 (v := 0) h_266_1 ?_
  refine a_iast C (i := 276) 30 kd_276 (hid 276 (by decide)) (by decide) rfl (by rw [al_276]; decide) dX12_hold_42 ?_
  refine a_iinc C dX12_hold_43 rfl (v := 2) rfl (by decide) rfl (vs1 := [some (.ref (ad 236)), some (.int 1), some (.int 2)]) rfl ?_
  refine a_goto C dX12_hold_46 (tgt := 20) rfl ?_
  refine a_iload_n C dX12_hold_20 (i := 2) rfl rfl ?_
  refine a_bipush C dX12_hold_21 (v := 29) rfl ?_
  refine a_ic_ge C dX12_hold_23 (tgt := 49) rfl (fun h => absurd h (by decide)) (fun _ => ?_)
  refine a_aload_n C dX12_hold_26 (i := 0) rfl rfl ?_
  refine a_get C fl_RX12_137 (i := 236) kd_236 (hid 236 (by decide)) (v := .ref (ad 276)) rfl dX12_hold_27 ?_
  refine a_bipush C dX12_hold_30 (v := 29) rfl ?_
  refine a_iload_n C dX12_hold_32 (i := 1) rfl rfl ?_
  refine a_imul C dX12_hold_33 ?_
  refine a_iload_n C dX12_hold_34 (i := 2) rfl rfl ?_
  refine a_iadd C dX12_hold_35 ?_
  refine a_aload_n C dX12_hold_36 (i := 0) rfl rfl ?_
  refine a_get C fl_RX12_107 (i := 236) kd_236 (hid 236 (by decide)) (v := .ref (ad 266)) rfl dX12_hold_37 ?_
  refine a_iload_n C dX12_hold_40 (i := 2) rfl rfl ?_
  refine a_iald C (i := 266) 2 kd_266 (hid 266 (by decide)) (by decide) rfl (by rw [al_266]; decide) dX12_hold_41 (v := 0) h_266_2 ?_
  refine a_iast C (i := 276) 31 kd_276 (hid 276 (by decide)) (by decide) rfl (by rw [al_276]; decide) dX12_hold_42 ?_
  refine a_iinc C dX12_hold_43 rfl (v := 3) rfl (by decide) rfl (vs1 := [some (.ref (ad 236)), some (.int 1), some (.int 3)]) rfl ?_
  refine a_goto C dX12_hold_46 (tgt := 20) rfl ?_
  refine a_iload_n C dX12_hold_20 (i := 2) rfl rfl ?_
  refine a_bipush C dX12_hold_21 (v := 29) rfl ?_
  refine a_ic_ge C dX12_hold_23 (tgt := 49) rfl (fun h => absurd h (by decide)) (fun _ => ?_)
  refine a_aload_n C dX12_hold_26 (i := 0) rfl rfl ?_
  refine a_get C fl_RX12_137 (i := 236) kd_236 (hid 236 (by decide)) (v := .ref (ad 276)) rfl dX12_hold_27 ?_
  refine a_bipush C dX12_hold_30 (v := 29) rfl ?_
  refine a_iload_n C dX12_hold_32 (i := 1) rfl rfl ?_
  refine a_imul C dX12_hold_33 ?_
  refine a_iload_n C dX12_hold_34 (i := 2) rfl rfl ?_
  refine a_iadd C dX12_hold_35 ?_
  refine a_aload_n C dX12_hold_36 (i := 0) rfl rfl ?_
  refine a_get C fl_RX12_107 (i := 236) kd_236 (hid 236 (by decide)) (v := .ref (ad 266)) rfl dX12_hold_37 ?_
  refine a_iload_n C dX12_hold_40 (i := 2) rfl rfl ?_
  refine a_iald C (i := 266) 3 kd_266 (hid 266 (by decide)) (by decide) rfl (by rw [al_266]; decide) dX12_hold_41 (v := 0) h_266_3 ?_
  refine a_iast C (i := 276) 32 kd_276 (hid 276 (by decide)) (by decide) rfl (by rw [al_276]; decide) dX12_hold_42 ?_
  refine a_iinc C dX12_hold_43 rfl (v := 4) rfl (by decide) rfl (vs1 := [some (.ref (ad 236)), some (.int 1), some (.int 4)]) rfl ?_
  refine a_goto C dX12_hold_46 (tgt := 20) rfl ?_
  refine a_iload_n C dX12_hold_20 (i := 2) rfl rfl ?_
  refine a_bipush C dX12_hold_21 (v := 29) rfl ?_
  refine a_ic_ge C dX12_hold_23 (tgt := 49) rfl (fun h => absurd h (by decide)) (fun _ => ?_)
  refine a_aload_n C dX12_hold_26 (i := 0) rfl rfl ?_
  refine a_get C fl_RX12_137 (i := 236) kd_236 (hid 236 (by decide)) (v := .ref (ad 276)) rfl dX12_hold_27 ?_
  refine a_bipush C dX12_hold_30 (v := 29) rfl ?_
  refine a_iload_n C dX12_hold_32 (i := 1) rfl rfl ?_
  refine a_imul C dX12_hold_33 ?_
  refine a_iload_n C dX12_hold_34 (i := 2) rfl rfl ?_
  refine a_iadd C dX12_hold_35 ?_
  refine a_aload_n C dX12_hold_36 (i := 0) rfl rfl ?_
  refine a_get C fl_RX12_107 (i := 236) kd_236 (hid 236 (by decide)) (v := .ref (ad 266)) rfl dX12_hold_37 ?_
  refine a_iload_n C dX12_hold_40 (i := 2) rfl rfl ?_
  refine a_iald C (i := 266) 4 kd_266 (hid 266 (by decide)) (by decide) rfl (by rw [al_266]; decide) dX12_hold_41 (v := 0) h_266_4 ?_
  refine a_iast C (i := 276) 33 kd_276 (hid 276 (by decide)) (by decide) rfl (by rw [al_276]; decide) dX12_hold_42 ?_
  refine a_iinc C dX12_hold_43 rfl (v := 5) rfl (by decide) rfl (vs1 := [some (.ref (ad 236)), some (.int 1), some (.int 5)]) rfl ?_
  refine a_goto C dX12_hold_46 (tgt := 20) rfl ?_
  refine a_iload_n C dX12_hold_20 (i := 2) rfl rfl ?_
  refine a_bipush C dX12_hold_21 (v := 29) rfl ?_
  refine a_ic_ge C dX12_hold_23 (tgt := 49) rfl (fun h => absurd h (by decide)) (fun _ => ?_)
  refine a_aload_n C dX12_hold_26 (i := 0) rfl rfl ?_
  refine a_get C fl_RX12_137 (i := 236) kd_236 (hid 236 (by decide)) (v := .ref (ad 276)) rfl dX12_hold_27 ?_
  refine a_bipush C dX12_hold_30 (v := 29) rfl ?_
  refine a_iload_n C dX12_hold_32 (i := 1) rfl rfl ?_
  refine a_imul C dX12_hold_33 ?_
  refine a_iload_n C dX12_hold_34 (i := 2) rfl rfl ?_
  refine a_iadd C dX12_hold_35 ?_
  refine a_aload_n C dX12_hold_36 (i := 0) rfl rfl ?_
  refine a_get C fl_RX12_107 (i := 236) kd_236 (hid 236 (by decide)) (v := .ref (ad 266)) rfl dX12_hold_37 ?_
  refine a_iload_n C dX12_hold_40 (i := 2) rfl rfl ?_
  refine a_iald C (i := 266) 5 kd_266 (hid 266 (by decide)) (by decide) rfl (by rw [al_266]; decide) dX12_hold_41 (v := 0) h_266_5 ?_
  refine a_iast C (i := 276) 34 kd_276 (hid 276 (by decide)) (by decide) rfl (by rw [al_276]; decide) dX12_hold_42 ?_
  refine a_iinc C dX12_hold_43 rfl (v := 6) rfl (by decide) rfl (vs1 := [some (.ref (ad 236)), some (.int 1), some (.int 6)]) rfl ?_
  refine a_goto C dX12_hold_46 (tgt := 20) rfl ?_
  refine a_iload_n C dX12_hold_20 (i := 2) rfl rfl ?_
  refine a_bipush C dX12_hold_21 (v := 29) rfl ?_
  refine a_ic_ge C dX12_hold_23 (tgt := 49) rfl (fun h => absurd h (by decide)) (fun _ => ?_)
  refine a_aload_n C dX12_hold_26 (i := 0) rfl rfl ?_
  refine a_get C fl_RX12_137 (i := 236) kd_236 (hid 236 (by decide)) (v := .ref (ad 276)) rfl dX12_hold_27 ?_
  refine a_bipush C dX12_hold_30 (v := 29) rfl ?_
  refine a_iload_n C dX12_hold_32 (i := 1) rfl rfl ?_
  refine a_imul C dX12_hold_33 ?_
  refine a_iload_n C dX12_hold_34 (i := 2) rfl rfl ?_
  refine a_iadd C dX12_hold_35 ?_
  refine a_aload_n C dX12_hold_36 (i := 0) rfl rfl ?_
  refine a_get C fl_RX12_107 (i := 236) kd_236 (hid 236 (by decide)) (v := .ref (ad 266)) rfl dX12_hold_37 ?_
  refine a_iload_n C dX12_hold_40 (i := 2) rfl rfl ?_
  refine a_iald C (i := 266) 6 kd_266 (hid 266 (by decide)) (by decide) rfl (by rw [al_266]; decide) dX12_hold_41 (v := 0) h_266_6 ?_
  refine a_iast C (i := 276) 35 kd_276 (hid 276 (by decide)) (by decide) rfl (by rw [al_276]; decide) dX12_hold_42 ?_
  refine a_iinc C dX12_hold_43 rfl (v := 7) rfl (by decide) rfl (vs1 := [some (.ref (ad 236)), some (.int 1), some (.int 7)]) rfl ?_
  refine a_goto C dX12_hold_46 (tgt := 20) rfl ?_
  refine a_iload_n C dX12_hold_20 (i := 2) rfl rfl ?_
  refine a_bipush C dX12_hold_21 (v := 29) rfl ?_
  refine a_ic_ge C dX12_hold_23 (tgt := 49) rfl (fun h => absurd h (by decide)) (fun _ => ?_)
  refine a_aload_n C dX12_hold_26 (i := 0) rfl rfl ?_
  refine a_get C fl_RX12_137 (i := 236) kd_236 (hid 236 (by decide)) (v := .ref (ad 276)) rfl dX12_hold_27 ?_
  refine a_bipush C dX12_hold_30 (v := 29) rfl ?_
  refine a_iload_n C dX12_hold_32 (i := 1) rfl rfl ?_
  refine a_imul C dX12_hold_33 ?_
  refine a_iload_n C dX12_hold_34 (i := 2) rfl rfl ?_
  refine a_iadd C dX12_hold_35 ?_
  refine a_aload_n C dX12_hold_36 (i := 0) rfl rfl ?_
  refine a_get C fl_RX12_107 (i := 236) kd_236 (hid 236 (by decide)) (v := .ref (ad 266)) rfl dX12_hold_37 ?_
  refine a_iload_n C dX12_hold_40 (i := 2) rfl rfl ?_
  refine a_iald C (i := 266) 7 kd_266 (hid 266 (by decide)) (by decide) rfl (by rw [al_266]; decide) dX12_hold_41 (v := 0) h_266_7 ?_
  refine a_iast C (i := 276) 36 kd_276 (hid 276 (by decide)) (by decide) rfl (by rw [al_276]; decide) dX12_hold_42 ?_
  refine a_iinc C dX12_hold_43 rfl (v := 8) rfl (by decide) rfl (vs1 := [some (.ref (ad 236)), some (.int 1), some (.int 8)]) rfl ?_
  refine a_goto C dX12_hold_46 (tgt := 20) rfl ?_
  refine a_iload_n C dX12_hold_20 (i := 2) rfl rfl ?_
  refine a_bipush C dX12_hold_21 (v := 29) rfl ?_
  refine a_ic_ge C dX12_hold_23 (tgt := 49) rfl (fun h => absurd h (by decide)) (fun _ => ?_)
  refine a_aload_n C dX12_hold_26 (i := 0) rfl rfl ?_
  refine a_get C fl_RX12_137 (i := 236) kd_236 (hid 236 (by decide)) (v := .ref (ad 276)) rfl dX12_hold_27 ?_
  refine a_bipush C dX12_hold_30 (v := 29) rfl ?_
  refine a_iload_n C dX12_hold_32 (i := 1) rfl rfl ?_
  refine a_imul C dX12_hold_33 ?_
  refine a_iload_n C dX12_hold_34 (i := 2) rfl rfl ?_
  refine a_iadd C dX12_hold_35 ?_
  refine a_aload_n C dX12_hold_36 (i := 0) rfl rfl ?_
  refine a_get C fl_RX12_107 (i := 236) kd_236 (hid 236 (by decide)) (v := .ref (ad 266)) rfl dX12_hold_37 ?_
  refine a_iload_n C dX12_hold_40 (i := 2) rfl rfl ?_
  refine a_iald C (i := 266) 8 kd_266 (hid 266 (by decide)) (by decide) rfl (by rw [al_266]; decide) dX12_hold_41 (v := 0) h_266_8 ?_
  refine a_iast C (i := 276) 37 kd_276 (hid 276 (by decide)) (by decide) rfl (by rw [al_276]; decide) dX12_hold_42 ?_
  refine a_iinc C dX12_hold_43 rfl (v := 9) rfl (by decide) rfl (vs1 := [some (.ref (ad 236)), some (.int 1), some (.int 9)]) rfl ?_
  refine a_goto C dX12_hold_46 (tgt := 20) rfl ?_
  refine a_iload_n C dX12_hold_20 (i := 2) rfl rfl ?_
  refine a_bipush C dX12_hold_21 (v := 29) rfl ?_
  refine a_ic_ge C dX12_hold_23 (tgt := 49) rfl (fun h => absurd h (by decide)) (fun _ => ?_)
  refine a_aload_n C dX12_hold_26 (i := 0) rfl rfl ?_
  refine a_get C fl_RX12_137 (i := 236) kd_236 (hid 236 (by decide)) (v := .ref (ad 276)) rfl dX12_hold_27 ?_
  refine a_bipush C dX12_hold_30 (v := 29) rfl ?_
  refine a_iload_n C dX12_hold_32 (i := 1) rfl rfl ?_
  refine a_imul C dX12_hold_33 ?_
  refine a_iload_n C dX12_hold_34 (i := 2) rfl rfl ?_
  refine a_iadd C dX12_hold_35 ?_
  refine a_aload_n C dX12_hold_36 (i := 0) rfl rfl ?_
  refine a_get C fl_RX12_107 (i := 236) kd_236 (hid 236 (by decide)) (v := .ref (ad 266)) rfl dX12_hold_37 ?_
  refine a_iload_n C dX12_hold_40 (i := 2) rfl rfl ?_
  refine a_iald C (i := 266) 9 kd_266 (hid 266 (by decide)) (by decide) rfl (by rw [al_266]; decide) dX12_hold_41 (v := 0) h_266_9 ?_
  refine a_iast C (i := 276) 38 kd_276 (hid 276 (by decide)) (by decide) rfl (by rw [al_276]; decide) dX12_hold_42 ?_
  refine a_iinc C dX12_hold_43 rfl (v := 10) rfl (by decide) rfl (vs1 := [some (.ref (ad 236)), some (.int 1), some (.int 10)]) rfl ?_
  refine a_goto C dX12_hold_46 (tgt := 20) rfl ?_
  refine a_iload_n C dX12_hold_20 (i := 2) rfl rfl ?_
  refine a_bipush C dX12_hold_21 (v := 29) rfl ?_
  refine a_ic_ge C dX12_hold_23 (tgt := 49) rfl (fun h => absurd h (by decide)) (fun _ => ?_)
  refine a_aload_n C dX12_hold_26 (i := 0) rfl rfl ?_
  refine a_get C fl_RX12_137 (i := 236) kd_236 (hid 236 (by decide)) (v := .ref (ad 276)) rfl dX12_hold_27 ?_
  refine a_bipush C dX12_hold_30 (v := 29) rfl ?_
  refine a_iload_n C dX12_hold_32 (i := 1) rfl rfl ?_
  refine a_imul C dX12_hold_33 ?_
  refine a_iload_n C dX12_hold_34 (i := 2) rfl rfl ?_
  refine a_iadd C dX12_hold_35 ?_
  refine a_aload_n C dX12_hold_36 (i := 0) rfl rfl ?_
  refine a_get C fl_RX12_107 (i := 236) kd_236 (hid 236 (by decide)) (v := .ref (ad 266)) rfl dX12_hold_37 ?_
  refine a_iload_n C dX12_hold_40 (i := 2) rfl rfl ?_
  refine a_iald C (i := 266) 10 kd_266 (hid 266 (by decide)) (by decide) rfl (by rw [al_266]; decide) dX12_hold_41 (v := 0) h_266_10 ?_
  refine a_iast C (i := 276) 39 kd_276 (hid 276 (by decide)) (by decide) rfl (by rw [al_276]; decide) dX12_hold_42 ?_
  refine a_iinc C dX12_hold_43 rfl (v := 11) rfl (by decide) rfl (vs1 := [some (.ref (ad 236)), some (.int 1), some (.int 11)]) rfl ?_
  refine a_goto C dX12_hold_46 (tgt := 20) rfl ?_
  refine a_iload_n C dX12_hold_20 (i := 2) rfl rfl ?_
  refine a_bipush C dX12_hold_21 (v := 29) rfl ?_
  refine a_ic_ge C dX12_hold_23 (tgt := 49) rfl (fun h => absurd h (by decide)) (fun _ => ?_)
  refine a_aload_n C dX12_hold_26 (i := 0) rfl rfl ?_
  refine a_get C fl_RX12_137 (i := 236) kd_236 (hid 236 (by decide)) (v := .ref (ad 276)) rfl dX12_hold_27 ?_
  refine a_bipush C dX12_hold_30 (v := 29) rfl ?_
  refine a_iload_n C dX12_hold_32 (i := 1) rfl rfl ?_
  refine a_imul C dX12_hold_33 ?_
  refine a_iload_n C dX12_hold_34 (i := 2) rfl rfl ?_
  refine a_iadd C dX12_hold_35 ?_
  refine a_aload_n C dX12_hold_36 (i := 0) rfl rfl ?_
  refine a_get C fl_RX12_107 (i := 236) kd_236 (hid 236 (by decide)) (v := .ref (ad 266)) rfl dX12_hold_37 ?_
  refine a_iload_n C dX12_hold_40 (i := 2) rfl rfl ?_
  refine a_iald C (i := 266) 11 kd_266 (hid 266 (by decide)) (by decide) rfl (by rw [al_266]; decide) dX12_hold_41 (v := 0) h_266_11 ?_
  refine a_iast C (i := 276) 40 kd_276 (hid 276 (by decide)) (by decide) rfl (by rw [al_276]; decide) dX12_hold_42 ?_
  refine a_iinc C dX12_hold_43 rfl (v := 12) rfl (by decide) rfl (vs1 := [some (.ref (ad 236)), some (.int 1), some (.int 12)]) rfl ?_
  refine a_goto C dX12_hold_46 (tgt := 20) rfl ?_
  refine a_iload_n C dX12_hold_20 (i := 2) rfl rfl ?_
  refine a_bipush C dX12_hold_21 (v := 29) rfl ?_
  refine a_ic_ge C dX12_hold_23 (tgt := 49) rfl (fun h => absurd h (by decide)) (fun _ => ?_)
  refine a_aload_n C dX12_hold_26 (i := 0) rfl rfl ?_
  refine a_get C fl_RX12_137 (i := 236) kd_236 (hid 236 (by decide)) (v := .ref (ad 276)) rfl dX12_hold_27 ?_
  refine a_bipush C dX12_hold_30 (v := 29) rfl ?_
  refine a_iload_n C dX12_hold_32 (i := 1) rfl rfl ?_
  refine a_imul C dX12_hold_33 ?_
  refine a_iload_n C dX12_hold_34 (i := 2) rfl rfl ?_
  refine a_iadd C dX12_hold_35 ?_
  refine a_aload_n C dX12_hold_36 (i := 0) rfl rfl ?_
  refine a_get C fl_RX12_107 (i := 236) kd_236 (hid 236 (by decide)) (v := .ref (ad 266)) rfl dX12_hold_37 ?_
  refine a_iload_n C dX12_hold_40 (i := 2) rfl rfl ?_
  refine a_iald C (i := 266) 12 kd_266 (hid 266 (by decide)) (by decide) rfl (by rw [al_266]; decide) dX12_hold_41 (v := 0) h_266_12 ?_
  refine a_iast C (i := 276) 41 kd_276 (hid 276 (by decide)) (by decide) rfl (by rw [al_276]; decide) dX12_hold_42 ?_
  refine a_iinc C dX12_hold_43 rfl (v := 13) rfl (by decide) rfl (vs1 := [some (.ref (ad 236)), some (.int 1), some (.int 13)]) rfl ?_
  refine a_goto C dX12_hold_46 (tgt := 20) rfl ?_
  refine a_iload_n C dX12_hold_20 (i := 2) rfl rfl ?_
  refine a_bipush C dX12_hold_21 (v := 29) rfl ?_
  refine a_ic_ge C dX12_hold_23 (tgt := 49) rfl (fun h => absurd h (by decide)) (fun _ => ?_)
  refine a_aload_n C dX12_hold_26 (i := 0) rfl rfl ?_
  refine a_get C fl_RX12_137 (i := 236) kd_236 (hid 236 (by decide)) (v := .ref (ad 276)) rfl dX12_hold_27 ?_
  refine a_bipush C dX12_hold_30 (v := 29) rfl ?_
  refine a_iload_n C dX12_hold_32 (i := 1) rfl rfl ?_
  refine a_imul C dX12_hold_33 ?_
  refine a_iload_n C dX12_hold_34 (i := 2) rfl rfl ?_
  refine a_iadd C dX12_hold_35 ?_
  refine a_aload_n C dX12_hold_36 (i := 0) rfl rfl ?_
  refine a_get C fl_RX12_107 (i := 236) kd_236 (hid 236 (by decide)) (v := .ref (ad 266)) rfl dX12_hold_37 ?_
  refine a_iload_n C dX12_hold_40 (i := 2) rfl rfl ?_
  refine a_iald C (i := 266) 13 kd_266 (hid 266 (by decide)) (by decide) rfl (by rw [al_266]; decide) dX12_hold_41 (v := 0) h_266_13 ?_
  refine a_iast C (i := 276) 42 kd_276 (hid 276 (by decide)) (by decide) rfl (by rw [al_276]; decide) dX12_hold_42 ?_
  refine a_iinc C dX12_hold_43 rfl (v := 14) rfl (by decide) rfl (vs1 := [some (.ref (ad 236)), some (.int 1), some (.int 14)]) rfl ?_
  refine a_goto C dX12_hold_46 (tgt := 20) rfl ?_
  refine a_iload_n C dX12_hold_20 (i := 2) rfl rfl ?_
  refine a_bipush C dX12_hold_21 (v := 29) rfl ?_
  refine a_ic_ge C dX12_hold_23 (tgt := 49) rfl (fun h => absurd h (by decide)) (fun _ => ?_)
  refine a_aload_n C dX12_hold_26 (i := 0) rfl rfl ?_
  refine a_get C fl_RX12_137 (i := 236) kd_236 (hid 236 (by decide)) (v := .ref (ad 276)) rfl dX12_hold_27 ?_
  refine a_bipush C dX12_hold_30 (v := 29) rfl ?_
  refine a_iload_n C dX12_hold_32 (i := 1) rfl rfl ?_
  refine a_imul C dX12_hold_33 ?_
  refine a_iload_n C dX12_hold_34 (i := 2) rfl rfl ?_
  refine a_iadd C dX12_hold_35 ?_
  refine a_aload_n C dX12_hold_36 (i := 0) rfl rfl ?_
  refine a_get C fl_RX12_107 (i := 236) kd_236 (hid 236 (by decide)) (v := .ref (ad 266)) rfl dX12_hold_37 ?_
  refine a_iload_n C dX12_hold_40 (i := 2) rfl rfl ?_
  refine a_iald C (i := 266) 14 kd_266 (hid 266 (by decide)) (by decide) rfl (by rw [al_266]; decide) dX12_hold_41 (v := 0) h_266_14 ?_
  refine a_iast C (i := 276) 43 kd_276 (hid 276 (by decide)) (by decide) rfl (by rw [al_276]; decide) dX12_hold_42 ?_
  refine a_iinc C dX12_hold_43 rfl (v := 15) rfl (by decide) rfl (vs1 := [some (.ref (ad 236)), some (.int 1), some (.int 15)]) rfl ?_
  refine a_goto C dX12_hold_46 (tgt := 20) rfl ?_
  refine a_iload_n C dX12_hold_20 (i := 2) rfl rfl ?_
  refine a_bipush C dX12_hold_21 (v := 29) rfl ?_
  refine a_ic_ge C dX12_hold_23 (tgt := 49) rfl (fun h => absurd h (by decide)) (fun _ => ?_)
  refine a_aload_n C dX12_hold_26 (i := 0) rfl rfl ?_
  refine a_get C fl_RX12_137 (i := 236) kd_236 (hid 236 (by decide)) (v := .ref (ad 276)) rfl dX12_hold_27 ?_
  refine a_bipush C dX12_hold_30 (v := 29) rfl ?_
  refine a_iload_n C dX12_hold_32 (i := 1) rfl rfl ?_
  refine a_imul C dX12_hold_33 ?_
  refine a_iload_n C dX12_hold_34 (i := 2) rfl rfl ?_
  refine a_iadd C dX12_hold_35 ?_
  refine a_aload_n C dX12_hold_36 (i := 0) rfl rfl ?_
  refine a_get C fl_RX12_107 (i := 236) kd_236 (hid 236 (by decide)) (v := .ref (ad 266)) rfl dX12_hold_37 ?_
  refine a_iload_n C dX12_hold_40 (i := 2) rfl rfl ?_
  refine a_iald C (i := 266) 15 kd_266 (hid 266 (by decide)) (by decide) rfl (by rw [al_266]; decide) dX12_hold_41 (v := 0) h_266_15 ?_
  refine a_iast C (i := 276) 44 kd_276 (hid 276 (by decide)) (by decide) rfl (by rw [al_276]; decide) dX12_hold_42 ?_
  refine a_iinc C dX12_hold_43 rfl (v := 16) rfl (by decide) rfl (vs1 := [some (.ref (ad 236)), some (.int 1), some (.int 16)]) rfl ?_
  refine a_goto C dX12_hold_46 (tgt := 20) rfl ?_
  refine a_iload_n C dX12_hold_20 (i := 2) rfl rfl ?_
  refine a_bipush C dX12_hold_21 (v := 29) rfl ?_
  refine a_ic_ge C dX12_hold_23 (tgt := 49) rfl (fun h => absurd h (by decide)) (fun _ => ?_)
  refine a_aload_n C dX12_hold_26 (i := 0) rfl rfl ?_
  refine a_get C fl_RX12_137 (i := 236) kd_236 (hid 236 (by decide)) (v := .ref (ad 276)) rfl dX12_hold_27 ?_
  refine a_bipush C dX12_hold_30 (v := 29) rfl ?_
  refine a_iload_n C dX12_hold_32 (i := 1) rfl rfl ?_
  refine a_imul C dX12_hold_33 ?_
  refine a_iload_n C dX12_hold_34 (i := 2) rfl rfl ?_
  refine a_iadd C dX12_hold_35 ?_
  refine a_aload_n C dX12_hold_36 (i := 0) rfl rfl ?_
  refine a_get C fl_RX12_107 (i := 236) kd_236 (hid 236 (by decide)) (v := .ref (ad 266)) rfl dX12_hold_37 ?_
  refine a_iload_n C dX12_hold_40 (i := 2) rfl rfl ?_
  refine a_iald C (i := 266) 16 kd_266 (hid 266 (by decide)) (by decide) rfl (by rw [al_266]; decide) dX12_hold_41 (v := 0) h_266_16 ?_
  refine a_iast C (i := 276) 45 kd_276 (hid 276 (by decide)) (by decide) rfl (by rw [al_276]; decide) dX12_hold_42 ?_
  refine a_iinc C dX12_hold_43 rfl (v := 17) rfl (by decide) rfl (vs1 := [some (.ref (ad 236)), some (.int 1), some (.int 17)]) rfl ?_
  refine a_goto C dX12_hold_46 (tgt := 20) rfl ?_
  refine a_iload_n C dX12_hold_20 (i := 2) rfl rfl ?_
  refine a_bipush C dX12_hold_21 (v := 29) rfl ?_
  refine a_ic_ge C dX12_hold_23 (tgt := 49) rfl (fun h => absurd h (by decide)) (fun _ => ?_)
  refine a_aload_n C dX12_hold_26 (i := 0) rfl rfl ?_
  refine a_get C fl_RX12_137 (i := 236) kd_236 (hid 236 (by decide)) (v := .ref (ad 276)) rfl dX12_hold_27 ?_
  refine a_bipush C dX12_hold_30 (v := 29) rfl ?_
  refine a_iload_n C dX12_hold_32 (i := 1) rfl rfl ?_
  refine a_imul C dX12_hold_33 ?_
  refine a_iload_n C dX12_hold_34 (i := 2) rfl rfl ?_
  refine a_iadd C dX12_hold_35 ?_
  refine a_aload_n C dX12_hold_36 (i := 0) rfl rfl ?_
  refine a_get C fl_RX12_107 (i := 236) kd_236 (hid 236 (by decide)) (v := .ref (ad 266)) rfl dX12_hold_37 ?_
  refine a_iload_n C dX12_hold_40 (i := 2) rfl rfl ?_
  refine a_iald C (i := 266) 17 kd_266 (hid 266 (by decide)) (by decide) rfl (by rw [al_266]; decide) dX12_hold_41 (v := 0) h_266_17 ?_
  refine a_iast C (i := 276) 46 kd_276 (hid 276 (by decide)) (by decide) rfl (by rw [al_276]; decide) dX12_hold_42 ?_
  refine a_iinc C dX12_hold_43 rfl (v := 18) rfl (by decide) rfl (vs1 := [some (.ref (ad 236)), some (.int 1), some (.int 18)]) rfl ?_
  refine a_goto C dX12_hold_46 (tgt := 20) rfl ?_
  refine a_iload_n C dX12_hold_20 (i := 2) rfl rfl ?_
  refine a_bipush C dX12_hold_21 (v := 29) rfl ?_
  refine a_ic_ge C dX12_hold_23 (tgt := 49) rfl (fun h => absurd h (by decide)) (fun _ => ?_)
  refine a_aload_n C dX12_hold_26 (i := 0) rfl rfl ?_
  refine a_get C fl_RX12_137 (i := 236) kd_236 (hid 236 (by decide)) (v := .ref (ad 276)) rfl dX12_hold_27 ?_
  refine a_bipush C dX12_hold_30 (v := 29) rfl ?_
  refine a_iload_n C dX12_hold_32 (i := 1) rfl rfl ?_
  refine a_imul C dX12_hold_33 ?_
  refine a_iload_n C dX12_hold_34 (i := 2) rfl rfl ?_
  refine a_iadd C dX12_hold_35 ?_
  refine a_aload_n C dX12_hold_36 (i := 0) rfl rfl ?_
  refine a_get C fl_RX12_107 (i := 236) kd_236 (hid 236 (by decide)) (v := .ref (ad 266)) rfl dX12_hold_37 ?_
  refine a_iload_n C dX12_hold_40 (i := 2) rfl rfl ?_
  refine a_iald C (i := 266) 18 kd_266 (hid 266 (by decide)) (by decide) rfl (by rw [al_266]; decide) dX12_hold_41 (v := 0) h_266_18 ?_
  refine a_iast C (i := 276) 47 kd_276 (hid 276 (by decide)) (by decide) rfl (by rw [al_276]; decide) dX12_hold_42 ?_
  refine a_iinc C dX12_hold_43 rfl (v := 19) rfl (by decide) rfl (vs1 := [some (.ref (ad 236)), some (.int 1), some (.int 19)]) rfl ?_
  refine a_goto C dX12_hold_46 (tgt := 20) rfl ?_
  refine a_iload_n C dX12_hold_20 (i := 2) rfl rfl ?_
  refine a_bipush C dX12_hold_21 (v := 29) rfl ?_
  refine a_ic_ge C dX12_hold_23 (tgt := 49) rfl (fun h => absurd h (by decide)) (fun _ => ?_)
  refine a_aload_n C dX12_hold_26 (i := 0) rfl rfl ?_
  refine a_get C fl_RX12_137 (i := 236) kd_236 (hid 236 (by decide)) (v := .ref (ad 276)) rfl dX12_hold_27 ?_
  refine a_bipush C dX12_hold_30 (v := 29) rfl ?_
  refine a_iload_n C dX12_hold_32 (i := 1) rfl rfl ?_
  refine a_imul C dX12_hold_33 ?_
  refine a_iload_n C dX12_hold_34 (i := 2) rfl rfl ?_
  refine a_iadd C dX12_hold_35 ?_
  refine a_aload_n C dX12_hold_36 (i := 0) rfl rfl ?_
  refine a_get C fl_RX12_107 (i := 236) kd_236 (hid 236 (by decide)) (v := .ref (ad 266)) rfl dX12_hold_37 ?_
  refine a_iload_n C dX12_hold_40 (i := 2) rfl rfl ?_
  refine a_iald C (i := 266) 19 kd_266 (hid 266 (by decide)) (by decide) rfl (by rw [al_266]; decide) dX12_hold_41 (v := 0) h_266_19 ?_
  refine a_iast C (i := 276) 48 kd_276 (hid 276 (by decide)) (by decide) rfl (by rw [al_276]; decide) dX12_hold_42 ?_
  refine a_iinc C dX12_hold_43 rfl (v := 20) rfl (by decide) rfl (vs1 := [some (.ref (ad 236)), some (.int 1), some (.int 20)]) rfl ?_
  refine a_goto C dX12_hold_46 (tgt := 20) rfl ?_
  refine a_iload_n C dX12_hold_20 (i := 2) rfl rfl ?_
  refine a_bipush C dX12_hold_21 (v := 29) rfl ?_
  refine a_ic_ge C dX12_hold_23 (tgt := 49) rfl (fun h => absurd h (by decide)) (fun _ => ?_)
  refine a_aload_n C dX12_hold_26 (i := 0) rfl rfl ?_
  refine a_get C fl_RX12_137 (i := 236) kd_236 (hid 236 (by decide)) (v := .ref (ad 276)) rfl dX12_hold_27 ?_
  refine a_bipush C dX12_hold_30 (v := 29) rfl ?_
  refine a_iload_n C dX12_hold_32 (i := 1) rfl rfl ?_
  refine a_imul C dX12_hold_33 ?_
  refine a_iload_n C dX12_hold_34 (i := 2) rfl rfl ?_
  refine a_iadd C dX12_hold_35 ?_
  refine a_aload_n C dX12_hold_36 (i := 0) rfl rfl ?_
  refine a_get C fl_RX12_107 (i := 236) kd_236 (hid 236 (by decide)) (v := .ref (ad 266)) rfl dX12_hold_37 ?_
  refine a_iload_n C dX12_hold_40 (i := 2) rfl rfl ?_
  refine a_iald C (i := 266) 20 kd_266 (hid 266 (by decide)) (by decide) rfl (by rw [al_266]; decide) dX12_hold_41 (v := 0) h_266_20 ?_
  refine a_iast C (i := 276) 49 kd_276 (hid 276 (by decide)) (by decide) rfl (by rw [al_276]; decide) dX12_hold_42 ?_
  refine a_iinc C dX12_hold_43 rfl (v := 21) rfl (by decide) rfl (vs1 := [some (.ref (ad 236)), some (.int 1), some (.int 21)]) rfl ?_
  refine a_goto C dX12_hold_46 (tgt := 20) rfl ?_
  refine a_iload_n C dX12_hold_20 (i := 2) rfl rfl ?_
  refine a_bipush C dX12_hold_21 (v := 29) rfl ?_
  refine a_ic_ge C dX12_hold_23 (tgt := 49) rfl (fun h => absurd h (by decide)) (fun _ => ?_)
  refine a_aload_n C dX12_hold_26 (i := 0) rfl rfl ?_
  refine a_get C fl_RX12_137 (i := 236) kd_236 (hid 236 (by decide)) (v := .ref (ad 276)) rfl dX12_hold_27 ?_
  refine a_bipush C dX12_hold_30 (v := 29) rfl ?_
  refine a_iload_n C dX12_hold_32 (i := 1) rfl rfl ?_
  refine a_imul C dX12_hold_33 ?_
  refine a_iload_n C dX12_hold_34 (i := 2) rfl rfl ?_
  refine a_iadd C dX12_hold_35 ?_
  refine a_aload_n C dX12_hold_36 (i := 0) rfl rfl ?_
  refine a_get C fl_RX12_107 (i := 236) kd_236 (hid 236 (by decide)) (v := .ref (ad 266)) rfl dX12_hold_37 ?_
  refine a_iload_n C dX12_hold_40 (i := 2) rfl rfl ?_
  refine a_iald C (i := 266) 21 kd_266 (hid 266 (by decide)) (by decide) rfl (by rw [al_266]; decide) dX12_hold_41 (v := 0) h_266_21 ?_
  refine a_iast C (i := 276) 50 kd_276 (hid 276 (by decide)) (by decide) rfl (by rw [al_276]; decide) dX12_hold_42 ?_
  refine a_iinc C dX12_hold_43 rfl (v := 22) rfl (by decide) rfl (vs1 := [some (.ref (ad 236)), some (.int 1), some (.int 22)]) rfl ?_
  refine a_goto C dX12_hold_46 (tgt := 20) rfl ?_
  refine a_iload_n C dX12_hold_20 (i := 2) rfl rfl ?_
  refine a_bipush C dX12_hold_21 (v := 29) rfl ?_
  refine a_ic_ge C dX12_hold_23 (tgt := 49) rfl (fun h => absurd h (by decide)) (fun _ => ?_)
  refine a_aload_n C dX12_hold_26 (i := 0) rfl rfl ?_
  refine a_get C fl_RX12_137 (i := 236) kd_236 (hid 236 (by decide)) (v := .ref (ad 276)) rfl dX12_hold_27 ?_
  refine a_bipush C dX12_hold_30 (v := 29) rfl ?_
  refine a_iload_n C dX12_hold_32 (i := 1) rfl rfl ?_
  refine a_imul C dX12_hold_33 ?_
  refine a_iload_n C dX12_hold_34 (i := 2) rfl rfl ?_
  refine a_iadd C dX12_hold_35 ?_
  refine a_aload_n C dX12_hold_36 (i := 0) rfl rfl ?_
  refine a_get C fl_RX12_107 (i := 236) kd_236 (hid 236 (by decide)) (v := .ref (ad 266)) rfl dX12_hold_37 ?_
  refine a_iload_n C dX12_hold_40 (i := 2) rfl rfl ?_
  refine a_iald C (i := 266) 22 kd_266 (hid 266 (by decide)) (by decide) rfl (by rw [al_266]; decide) dX12_hold_41 (v := 0) h_266_22 ?_
  refine a_iast C (i := 276) 51 kd_276 (hid 276 (by decide)) (by decide) rfl (by rw [al_276]; decide) dX12_hold_42 ?_
  refine a_iinc C dX12_hold_43 rfl (v := 23) rfl (by decide) rfl (vs1 := [some (.ref (ad 236)), some (.int 1), some (.int 23)]) rfl ?_
  refine a_goto C dX12_hold_46 (tgt := 20) rfl ?_
  refine a_iload_n C dX12_hold_20 (i := 2) rfl rfl ?_
  refine a_bipush C dX12_hold_21 (v := 29) rfl ?_
  refine a_ic_ge C dX12_hold_23 (tgt := 49) rfl (fun h => absurd h (by decide)) (fun _ => ?_)
  refine a_aload_n C dX12_hold_26 (i := 0) rfl rfl ?_
  refine a_get C fl_RX12_137 (i := 236) kd_236 (hid 236 (by decide)) (v := .ref (ad 276)) rfl dX12_hold_27 ?_
  refine a_bipush C dX12_hold_30 (v := 29) rfl ?_
  refine a_iload_n C dX12_hold_32 (i := 1) rfl rfl ?_
  refine a_imul C dX12_hold_33 ?_
  refine a_iload_n C dX12_hold_34 (i := 2) rfl rfl ?_
  refine a_iadd C dX12_hold_35 ?_
  refine a_aload_n C dX12_hold_36 (i := 0) rfl rfl ?_
  refine a_get C fl_RX12_107 (i := 236) kd_236 (hid 236 (by decide)) (v := .ref (ad 266)) rfl dX12_hold_37 ?_
  refine a_iload_n C dX12_hold_40 (i := 2) rfl rfl ?_
  refine a_iald C (i := 266) 23 kd_266 (hid 266 (by decide)) (by decide) rfl (by rw [al_266]; decide) dX12_hold_41 (v := 0) h_266_23 ?_
  refine a_iast C (i := 276) 52 kd_276 (hid 276 (by decide)) (by decide) rfl (by rw [al_276]; decide) dX12_hold_42 ?_
  refine a_iinc C dX12_hold_43 rfl (v := 24) rfl (by decide) rfl (vs1 := [some (.ref (ad 236)), some (.int 1), some (.int 24)]) rfl ?_
  refine a_goto C dX12_hold_46 (tgt := 20) rfl ?_
  refine a_iload_n C dX12_hold_20 (i := 2) rfl rfl ?_
  refine a_bipush C dX12_hold_21 (v := 29) rfl ?_
  refine a_ic_ge C dX12_hold_23 (tgt := 49) rfl (fun h => absurd h (by decide)) (fun _ => ?_)
  refine a_aload_n C dX12_hold_26 (i := 0) rfl rfl ?_
  refine a_get C fl_RX12_137 (i := 236) kd_236 (hid 236 (by decide)) (v := .ref (ad 276)) rfl dX12_hold_27 ?_
  refine a_bipush C dX12_hold_30 (v := 29) rfl ?_
  refine a_iload_n C dX12_hold_32 (i := 1) rfl rfl ?_
  refine a_imul C dX12_hold_33 ?_
  refine a_iload_n C dX12_hold_34 (i := 2) rfl rfl ?_
  refine a_iadd C dX12_hold_35 ?_
  refine a_aload_n C dX12_hold_36 (i := 0) rfl rfl ?_
  refine a_get C fl_RX12_107 (i := 236) kd_236 (hid 236 (by decide)) (v := .ref (ad 266)) rfl dX12_hold_37 ?_
  refine a_iload_n C dX12_hold_40 (i := 2) rfl rfl ?_
  refine a_iald C (i := 266) 24 kd_266 (hid 266 (by decide)) (by decide) rfl (by rw [al_266]; decide) dX12_hold_41 (v := 0) h_266_24 ?_
  refine a_iast C (i := 276) 53 kd_276 (hid 276 (by decide)) (by decide) rfl (by rw [al_276]; decide) dX12_hold_42 ?_
  refine a_iinc C dX12_hold_43 rfl (v := 25) rfl (by decide) rfl (vs1 := [some (.ref (ad 236)), some (.int 1), some (.int 25)]) rfl ?_
  refine a_goto C dX12_hold_46 (tgt := 20) rfl ?_
  refine a_iload_n C dX12_hold_20 (i := 2) rfl rfl ?_
  refine a_bipush C dX12_hold_21 (v := 29) rfl ?_
  refine a_ic_ge C dX12_hold_23 (tgt := 49) rfl (fun h => absurd h (by decide)) (fun _ => ?_)
  refine a_aload_n C dX12_hold_26 (i := 0) rfl rfl ?_
  refine a_get C fl_RX12_137 (i := 236) kd_236 (hid 236 (by decide)) (v := .ref (ad 276)) rfl dX12_hold_27 ?_
  refine a_bipush C dX12_hold_30 (v := 29) rfl ?_
  refine a_iload_n C dX12_hold_32 (i := 1) rfl rfl ?_
  refine a_imul C dX12_hold_33 ?_
  refine a_iload_n C dX12_hold_34 (i := 2) rfl rfl ?_
  refine a_iadd C dX12_hold_35 ?_
  refine a_aload_n C dX12_hold_36 (i := 0) rfl rfl ?_
  refine a_get C fl_RX12_107 (i := 236) kd_236 (hid 236 (by decide)) (v := .ref (ad 266)) rfl dX12_hold_37 ?_
  refine a_iload_n C dX12_hold_40 (i := 2) rfl rfl ?_
  refine a_iald C (i := 266) 25 kd_266 (hid 266 (by decide)) (by decide) rfl (by rw [al_266]; decide) dX12_hold_41 (v := 0) h_266_25 ?_
  refine a_iast C (i := 276) 54 kd_276 (hid 276 (by decide)) (by decide) rfl (by rw [al_276]; decide) dX12_hold_42 ?_
  refine a_iinc C dX12_hold_43 rfl (v := 26) rfl (by decide) rfl (vs1 := [some (.ref (ad 236)), some (.int 1), some (.int 26)]) rfl ?_
  refine a_goto C dX12_hold_46 (tgt := 20) rfl ?_
  refine a_iload_n C dX12_hold_20 (i := 2) rfl rfl ?_
  refine a_bipush C dX12_hold_21 (v := 29) rfl ?_
  refine a_ic_ge C dX12_hold_23 (tgt := 49) rfl (fun h => absurd h (by decide)) (fun _ => ?_)
  refine a_aload_n C dX12_hold_26 (i := 0) rfl rfl ?_
  refine a_get C fl_RX12_137 (i := 236) kd_236 (hid 236 (by decide)) (v := .ref (ad 276)) rfl dX12_hold_27 ?_
  refine a_bipush C dX12_hold_30 (v := 29) rfl ?_
  refine a_iload_n C dX12_hold_32 (i := 1) rfl rfl ?_
  refine a_imul C dX12_hold_33 ?_
  refine a_iload_n C dX12_hold_34 (i := 2) rfl rfl ?_
  refine a_iadd C dX12_hold_35 ?_
  refine a_aload_n C dX12_hold_36 (i := 0) rfl rfl ?_
  refine a_get C fl_RX12_107 (i := 236) kd_236 (hid 236 (by decide)) (v := .ref (ad 266)) rfl dX12_hold_37 ?_
  refine a_iload_n C dX12_hold_40 (i := 2) rfl rfl ?_
  refine a_iald C (i := 266) 26 kd_266 (hid 266 (by decide)) (by decide) rfl (by rw [al_266]; decide) dX12_hold_41 (v := (-2)) h_266_26 ?_
  refine a_iast C (i := 276) 55 kd_276 (hid 276 (by decide)) (by decide) rfl (by rw [al_276]; decide) dX12_hold_42 ?_
  refine a_iinc C dX12_hold_43 rfl (v := 27) rfl (by decide) rfl (vs1 := [some (.ref (ad 236)), some (.int 1), some (.int 27)]) rfl ?_
  refine a_goto C dX12_hold_46 (tgt := 20) rfl ?_
  refine a_iload_n C dX12_hold_20 (i := 2) rfl rfl ?_
  refine a_bipush C dX12_hold_21 (v := 29) rfl ?_
  refine a_ic_ge C dX12_hold_23 (tgt := 49) rfl (fun h => absurd h (by decide)) (fun _ => ?_)
  refine a_aload_n C dX12_hold_26 (i := 0) rfl rfl ?_
  refine a_get C fl_RX12_137 (i := 236) kd_236 (hid 236 (by decide)) (v := .ref (ad 276)) rfl dX12_hold_27 ?_
  refine a_bipush C dX12_hold_30 (v := 29) rfl ?_
  refine a_iload_n C dX12_hold_32 (i := 1) rfl rfl ?_
  refine a_imul C dX12_hold_33 ?_
  refine a_iload_n C dX12_hold_34 (i := 2) rfl rfl ?_
  refine a_iadd C dX12_hold_35 ?_
  refine a_aload_n C dX12_hold_36 (i := 0) rfl rfl ?_
  refine a_get C fl_RX12_107 (i := 236) kd_236 (hid 236 (by decide)) (v := .ref (ad 266)) rfl dX12_hold_37 ?_
  refine a_iload_n C dX12_hold_40 (i := 2) rfl rfl ?_
  refine a_iald C (i := 266) 27 kd_266 (hid 266 (by decide)) (by decide) rfl (by rw [al_266]; decide) dX12_hold_41 (v := 0) h_266_27 ?_
  refine a_iast C (i := 276) 56 kd_276 (hid 276 (by decide)) (by decide) rfl (by rw [al_276]; decide) dX12_hold_42 ?_
  refine a_iinc C dX12_hold_43 rfl (v := 28) rfl (by decide) rfl (vs1 := [some (.ref (ad 236)), some (.int 1), some (.int 28)]) rfl ?_
  refine a_goto C dX12_hold_46 (tgt := 20) rfl ?_
  refine a_iload_n C dX12_hold_20 (i := 2) rfl rfl ?_
  refine a_bipush C dX12_hold_21 (v := 29) rfl ?_
  refine a_ic_ge C dX12_hold_23 (tgt := 49) rfl (fun h => absurd h (by decide)) (fun _ => ?_)
  refine a_aload_n C dX12_hold_26 (i := 0) rfl rfl ?_
  refine a_get C fl_RX12_137 (i := 236) kd_236 (hid 236 (by decide)) (v := .ref (ad 276)) rfl dX12_hold_27 ?_
  refine a_bipush C dX12_hold_30 (v := 29) rfl ?_
  refine a_iload_n C dX12_hold_32 (i := 1) rfl rfl ?_
  refine a_imul C dX12_hold_33 ?_
  refine a_iload_n C dX12_hold_34 (i := 2) rfl rfl ?_
  refine a_iadd C dX12_hold_35 ?_
  refine a_aload_n C dX12_hold_36 (i := 0) rfl rfl ?_
  refine a_get C fl_RX12_107 (i := 236) kd_236 (hid 236 (by decide)) (v := .ref (ad 266)) rfl dX12_hold_37 ?_
  refine a_iload_n C dX12_hold_40 (i := 2) rfl rfl ?_
  refine a_iald C (i := 266) 28 kd_266 (hid 266 (by decide)) (by decide) rfl (by rw [al_266]; decide) dX12_hold_41 (v := (-1)) h_266_28 ?_
  refine a_iast C (i := 276) 57 kd_276 (hid 276 (by decide)) (by decide) rfl (by rw [al_276]; decide) dX12_hold_42 ?_
  refine a_iinc C dX12_hold_43 rfl (v := 29) rfl (by decide) rfl (vs1 := [some (.ref (ad 236)), some (.int 1), some (.int 29)]) rfl ?_
  refine a_goto C dX12_hold_46 (tgt := 20) rfl ?_
  refine a_iload_n C dX12_hold_20 (i := 2) rfl rfl ?_
  refine a_bipush C dX12_hold_21 (v := 29) rfl ?_
  refine a_ic_ge C dX12_hold_23 (tgt := 49) rfl (fun _ => ?_) (fun h => absurd h (by decide))
  refine a_iconst C dX12_hold_49 (v := 1) rfl ?_
  exact a_iret Rt dX12_hold_50 rfl (rfl)
set_option maxHeartbeats 4000000 in
set_option maxRecDepth 100000 in
theorem q_restore_1 {l : Launch} {D : va_G} {ids : List Nat} {ad : Nat → Nat} {ca : Nat → ClassId} {σ : HS} (hid : ∀ i, i < 277 → i ∈ ids) (h_275_1 : σ.1 275 1 = 0) : Ki l D ids ad ca yX12_restore cX12_restore 3 .boolean 1 22 [.ref (ad 236), .int 1] σ (fun r _ => r = 0) := by
  refine Ki.of (by decide) (Nat.le_of_ble_eq_true rfl) 1 (fun Γ C Rt => ?_)
  show AW ids ad ca Γ 0 [some (.ref (ad 236)), some (.int 1), none] [] σ
  refine a_iload_n C dX12_restore_0 (i := 1) rfl rfl ?_
  refine a_iconst C dX12_restore_1 (v := 0) rfl ?_
  refine a_iconst C dX12_restore_2 (v := 2) rfl ?_
  refine a_callSi C (m_in_yes hid (by decide) (by decide)) ms_X12_in ml_RX12_301 rfl rfl (Nat.le_of_ble_eq_true rfl) (Nat.le_of_ble_eq_true rfl) (Nat.le_of_ble_eq_true rfl) dX12_restore_3 (fun r1 σ2 q3 => ?_)
  obtain ⟨rfl, q3⟩ := q3
  rw [q3]
  refine a_if_eq C dX12_restore_6 (tgt := 18) rfl (fun h => absurd h (by decide)) (fun _ => ?_)
  refine a_aload_n C dX12_restore_9 (i := 0) rfl rfl ?_
  refine a_get C fl_RX12_134 (i := 236) kd_236 (hid 236 (by decide)) (v := .ref (ad 275)) rfl dX12_restore_10 ?_
  refine a_iload_n C dX12_restore_13 (i := 1) rfl rfl ?_
  refine a_zald C (i := 275) 1 kd_275 (hid 275 (by decide)) (by decide) rfl (by rw [al_275]; decide) dX12_restore_14 (v := 0) h_275_1 ?_
  refine a_if_ne C dX12_restore_15 (tgt := 20) rfl (fun h => absurd h (by decide)) (fun _ => ?_)
  refine a_iconst C dX12_restore_18 (v := 0) rfl ?_
  exact a_iret Rt dX12_restore_19 rfl (rfl)
set_option maxHeartbeats 4000000 in
set_option maxRecDepth 100000 in
theorem q_hold_2 {l : Launch} {D : va_G} {ids : List Nat} {ad : Nat → Nat} {ca : Nat → ClassId} {σ : HS} (hid : ∀ i, i < 277 → i ∈ ids) (h_266_0 : σ.1 266 0 = 0) (h_266_1 : σ.1 266 1 = 0) (h_266_2 : σ.1 266 2 = 0) (h_266_3 : σ.1 266 3 = 0) (h_266_4 : σ.1 266 4 = 0) (h_266_5 : σ.1 266 5 = 0) (h_266_6 : σ.1 266 6 = 0) (h_266_7 : σ.1 266 7 = 0) (h_266_8 : σ.1 266 8 = 0) (h_266_9 : σ.1 266 9 = 0) (h_266_10 : σ.1 266 10 = 0) (h_266_11 : σ.1 266 11 = 0) (h_266_12 : σ.1 266 12 = 0) (h_266_13 : σ.1 266 13 = 0) (h_266_14 : σ.1 266 14 = 0) (h_266_15 : σ.1 266 15 = 0) (h_266_16 : σ.1 266 16 = 0) (h_266_17 : σ.1 266 17 = 0) (h_266_18 : σ.1 266 18 = 0) (h_266_19 : σ.1 266 19 = 0) (h_266_20 : σ.1 266 20 = 0) (h_266_21 : σ.1 266 21 = 0) (h_266_22 : σ.1 266 22 = 0) (h_266_23 : σ.1 266 23 = 0) (h_266_24 : σ.1 266 24 = 0) (h_266_25 : σ.1 266 25 = 0) (h_266_26 : σ.1 266 26 = (-2)) (h_266_27 : σ.1 266 27 = 0) (h_266_28 : σ.1 266 28 = (-1)) : Ki l D ids ad ca yX12_hold cX12_hold 3 .boolean 1 22 [.ref (ad 236), .int 2] σ (fun r _ => r = 1) := by
  refine Ki.of (by decide) (Nat.le_of_ble_eq_true rfl) 1 (fun Γ C Rt => ?_)
  show AW ids ad ca Γ 0 [some (.ref (ad 236)), some (.int 2), none] [] σ
  refine a_iload_n C dX12_hold_0 (i := 1) rfl rfl ?_
  refine a_iconst C dX12_hold_1 (v := 0) rfl ?_
  refine a_iconst C dX12_hold_2 (v := 2) rfl ?_
  refine a_callSi C (m_in_yes hid (by decide) (by decide)) ms_X12_in ml_RX12_301 rfl rfl (Nat.le_of_ble_eq_true rfl) (Nat.le_of_ble_eq_true rfl) (Nat.le_of_ble_eq_true rfl) dX12_hold_3 (fun r1 σ2 q3 => ?_)
  obtain ⟨rfl, q3⟩ := q3
  rw [q3]
  refine a_if_ne C dX12_hold_6 (tgt := 11) rfl (fun _ => ?_) (fun h => absurd h (by decide))
  refine a_aload_n C dX12_hold_11 (i := 0) rfl rfl ?_
  refine a_get C fl_RX12_134 (i := 236) kd_236 (hid 236 (by decide)) (v := .ref (ad 275)) rfl dX12_hold_12 ?_
  refine a_iload_n C dX12_hold_15 (i := 1) rfl rfl ?_
  refine a_iconst C dX12_hold_16 (v := 1) rfl ?_
  refine a_zast C (i := 275) 2 rfl kd_275 (hid 275 (by decide)) (by decide) rfl (by rw [al_275]; decide) dX12_hold_17 ?_
  refine a_iconst C dX12_hold_18 (v := 0) rfl ?_
  refine a_istore_n C dX12_hold_19 (i := 2) rfl (by decide) rfl (vs1 := [some (.ref (ad 236)), some (.int 2), some (.int 0)]) rfl ?_
  refine a_iload_n C dX12_hold_20 (i := 2) rfl rfl ?_
  refine a_bipush C dX12_hold_21 (v := 29) rfl ?_
  refine a_ic_ge C dX12_hold_23 (tgt := 49) rfl (fun h => absurd h (by decide)) (fun _ => ?_)
  refine a_aload_n C dX12_hold_26 (i := 0) rfl rfl ?_
  refine a_get C fl_RX12_137 (i := 236) kd_236 (hid 236 (by decide)) (v := .ref (ad 276)) rfl dX12_hold_27 ?_
  refine a_bipush C dX12_hold_30 (v := 29) rfl ?_
  refine a_iload_n C dX12_hold_32 (i := 1) rfl rfl ?_
  refine a_imul C dX12_hold_33 ?_
  refine a_iload_n C dX12_hold_34 (i := 2) rfl rfl ?_
  refine a_iadd C dX12_hold_35 ?_
  refine a_aload_n C dX12_hold_36 (i := 0) rfl rfl ?_
  refine a_get C fl_RX12_107 (i := 236) kd_236 (hid 236 (by decide)) (v := .ref (ad 266)) rfl dX12_hold_37 ?_
  refine a_iload_n C dX12_hold_40 (i := 2) rfl rfl ?_
  refine a_iald C (i := 266) 0 kd_266 (hid 266 (by decide)) (by decide) rfl (by rw [al_266]; decide) dX12_hold_41 (v := 0) h_266_0 ?_
  refine a_iast C (i := 276) 58 kd_276 (hid 276 (by decide)) (by decide) rfl (by rw [al_276]; decide) dX12_hold_42 ?_
  refine a_iinc C dX12_hold_43 rfl (v := 1) rfl (by decide) rfl (vs1 := [some (.ref (ad 236)), some (.int 2), some (.int 1)]) rfl ?_
  refine a_goto C dX12_hold_46 (tgt := 20) rfl ?_
  refine a_iload_n C dX12_hold_20 (i := 2) rfl rfl ?_
  refine a_bipush C dX12_hold_21 (v := 29) rfl ?_
  refine a_ic_ge C dX12_hold_23 (tgt := 49) rfl (fun h => absurd h (by decide)) (fun _ => ?_)
  refine a_aload_n C dX12_hold_26 (i := 0) rfl rfl ?_
  refine a_get C fl_RX12_137 (i := 236) kd_236 (hid 236 (by decide)) (v := .ref (ad 276)) rfl dX12_hold_27 ?_
  refine a_bipush C dX12_hold_30 (v := 29) rfl ?_
  refine a_iload_n C dX12_hold_32 (i := 1) rfl rfl ?_
  refine a_imul C dX12_hold_33 ?_
  refine a_iload_n C dX12_hold_34 (i := 2) rfl rfl ?_
  refine a_iadd C dX12_hold_35 ?_
  refine a_aload_n C dX12_hold_36 (i := 0) rfl rfl ?_
  refine a_get C fl_RX12_107 (i := 236) kd_236 (hid 236 (by decide)) (v := .ref (ad 266)) rfl dX12_hold_37 ?_
  refine a_iload_n C dX12_hold_40 (i := 2) rfl rfl ?_
  refine a_iald C (i := 266) 1 kd_266 (hid 266 (by decide)) (by decide) rfl (by rw [al_266]; decide) dX12_hold_41 (v := 0) h_266_1 ?_
  refine a_iast C (i := 276) 59 kd_276 (hid 276 (by decide)) (by decide) rfl (by rw [al_276]; decide) dX12_hold_42 ?_
  refine a_iinc C dX12_hold_43 rfl (v := 2) rfl (by decide) rfl (vs1 := [some (.ref (ad 236)), some (.int 2), some (.int 2)]) rfl ?_
  refine a_goto C dX12_hold_46 (tgt := 20) rfl ?_
  refine a_iload_n C dX12_hold_20 (i := 2) rfl rfl ?_
  refine a_bipush C dX12_hold_21 (v := 29) rfl ?_
  refine a_ic_ge C dX12_hold_23 (tgt := 49) rfl (fun h => absurd h (by decide)) (fun _ => ?_)
  refine a_aload_n C dX12_hold_26 (i := 0) rfl rfl ?_
  refine a_get C fl_RX12_137 (i := 236) kd_236 (hid 236 (by decide)) (v := .ref (ad 276)) rfl dX12_hold_27 ?_
  refine a_bipush C dX12_hold_30 (v := 29) rfl ?_
  refine a_iload_n C dX12_hold_32 (i := 1) rfl rfl ?_
  refine a_imul C dX12_hold_33 ?_
  refine a_iload_n C dX12_hold_34 (i := 2) rfl rfl ?_
  refine a_iadd C dX12_hold_35 ?_
  refine a_aload_n C dX12_hold_36 (i := 0) rfl rfl ?_
  refine a_get C fl_RX12_107 (i := 236) kd_236 (hid 236 (by decide)) (v := .ref (ad 266)) rfl dX12_hold_37 ?_
  refine a_iload_n C dX12_hold_40 (i := 2) rfl rfl ?_
  refine a_iald C (i := 266) 2 kd_266 (hid 266 (by decide)) (by decide) rfl (by rw [al_266]; decide) dX12_hold_41 (v := 0) h_266_2 ?_
  refine a_iast C (i := 276) 60 kd_276 (hid 276 (by decide)) (by decide) rfl (by rw [al_276]; decide) dX12_hold_42 ?_
  refine a_iinc C dX12_hold_43 rfl (v := 3) rfl (by decide) rfl (vs1 := [some (.ref (ad 236)), some (.int 2), some (.int 3)]) rfl ?_
  refine a_goto C dX12_hold_46 (tgt := 20) rfl ?_
  refine a_iload_n C dX12_hold_20 (i := 2) rfl rfl ?_
  refine a_bipush C dX12_hold_21 (v := 29) rfl ?_
  refine a_ic_ge C dX12_hold_23 (tgt := 49) rfl (fun h => absurd h (by decide)) (fun _ => ?_)
  refine a_aload_n C dX12_hold_26 (i := 0) rfl rfl ?_
  refine a_get C fl_RX12_137 (i := 236) kd_236 (hid 236 (by decide)) (v := .ref (ad 276)) rfl dX12_hold_27 ?_
  refine a_bipush C dX12_hold_30 (v := 29) rfl ?_
  refine a_iload_n C dX12_hold_32 (i := 1) rfl rfl ?_
  refine a_imul C dX12_hold_33 ?_
  refine a_iload_n C dX12_hold_34 (i := 2) rfl rfl ?_
  refine a_iadd C dX12_hold_35 ?_
  refine a_aload_n C dX12_hold_36 (i := 0) rfl rfl ?_
  refine a_get C fl_RX12_107 (i := 236) kd_236 (hid 236 (by decide)) (v := .ref (ad 266)) rfl dX12_hold_37 ?_
  refine a_iload_n C dX12_hold_40 (i := 2) rfl rfl ?_
  refine a_iald C (i := 266) 3 kd_266 (hid 266 (by decide)) (by decide) rfl (by rw [al_266]; decide) dX12_hold_41 (v := 0) h_266_3 ?_
  refine a_iast C (i := 276) 61 kd_276 (hid 276 (by decide)) (by decide) rfl (by rw [al_276]; decide) dX12_hold_42 ?_
  refine a_iinc C dX12_hold_43 rfl (v := 4) rfl (by decide) rfl (vs1 := [some (.ref (ad 236)), some (.int 2), some (.int 4)]) rfl ?_
  refine a_goto C dX12_hold_46 (tgt := 20) rfl ?_
  refine a_iload_n C dX12_hold_20 (i := 2) rfl rfl ?_
  refine a_bipush C dX12_hold_21 (v := 29) rfl ?_
  refine a_ic_ge C dX12_hold_23 (tgt := 49) rfl (fun h => absurd h (by decide)) (fun _ => ?_)
  refine a_aload_n C dX12_hold_26 (i := 0) rfl rfl ?_
  refine a_get C fl_RX12_137 (i := 236) kd_236 (hid 236 (by decide)) (v := .ref (ad 276)) rfl dX12_hold_27 ?_
  refine a_bipush C dX12_hold_30 (v := 29) rfl ?_
  refine a_iload_n C dX12_hold_32 (i := 1) rfl rfl ?_
  refine a_imul C dX12_hold_33 ?_
  refine a_iload_n C dX12_hold_34 (i := 2) rfl rfl ?_
  refine a_iadd C dX12_hold_35 ?_
  refine a_aload_n C dX12_hold_36 (i := 0) rfl rfl ?_
  refine a_get C fl_RX12_107 (i := 236) kd_236 (hid 236 (by decide)) (v := .ref (ad 266)) rfl dX12_hold_37 ?_
  refine a_iload_n C dX12_hold_40 (i := 2) rfl rfl ?_
  refine a_iald C (i := 266) 4 kd_266 (hid 266 (by decide)) (by decide) rfl (by rw [al_266]; decide) dX12_hold_41 (v := 0) h_266_4 ?_
  refine a_iast C (i := 276) 62 kd_276 (hid 276 (by decide)) (by decide) rfl (by rw [al_276]; decide) dX12_hold_42 ?_
  refine a_iinc C dX12_hold_43 rfl (v := 5) rfl (by decide) rfl (vs1 := [some (.ref (ad 236)), some (.int 2), some (.int 5)]) rfl ?_
  refine a_goto C dX12_hold_46 (tgt := 20) rfl ?_
  refine a_iload_n C dX12_hold_20 (i := 2) rfl rfl ?_
  refine a_bipush C dX12_hold_21 (v := 29) rfl ?_
  refine a_ic_ge C dX12_hold_23 (tgt := 49) rfl (fun h => absurd h (by decide)) (fun _ => ?_)
  refine a_aload_n C dX12_hold_26 (i := 0) rfl rfl ?_
  refine a_get C fl_RX12_137 (i := 236) kd_236 (hid 236 (by decide)) (v := .ref (ad 276)) rfl dX12_hold_27 ?_
  refine a_bipush C dX12_hold_30 (v := 29) rfl ?_
  refine a_iload_n C dX12_hold_32 (i := 1) rfl rfl ?_
  refine a_imul C dX12_hold_33 ?_
  refine a_iload_n C dX12_hold_34 (i := 2) rfl rfl ?_
  refine a_iadd C dX12_hold_35 ?_
  refine a_aload_n C dX12_hold_36 (i := 0) rfl rfl ?_
  refine a_get C fl_RX12_107 (i := 236) kd_236 (hid 236 (by decide)) (v := .ref (ad 266)) rfl dX12_hold_37 ?_
  refine a_iload_n C dX12_hold_40 (i := 2) rfl rfl ?_
  refine a_iald C (i := 266) 5 kd_266 (hid 266 (by decide)) (by decide) rfl (by rw [al_266]; decide) dX12_hold_41 (v := 0) h_266_5 ?_
  refine a_iast C (i := 276) 63 kd_276 (hid 276 (by decide)) (by decide) rfl (by rw [al_276]; decide) dX12_hold_42 ?_
  refine a_iinc C dX12_hold_43 rfl (v := 6) rfl (by decide) rfl (vs1 := [some (.ref (ad 236)), some (.int 2), some (.int 6)]) rfl ?_
  refine a_goto C dX12_hold_46 (tgt := 20) rfl ?_
  refine a_iload_n C dX12_hold_20 (i := 2) rfl rfl ?_
  refine a_bipush C dX12_hold_21 (v := 29) rfl ?_
  refine a_ic_ge C dX12_hold_23 (tgt := 49) rfl (fun h => absurd h (by decide)) (fun _ => ?_)
  refine a_aload_n C dX12_hold_26 (i := 0) rfl rfl ?_
  refine a_get C fl_RX12_137 (i := 236) kd_236 (hid 236 (by decide)) (v := .ref (ad 276)) rfl dX12_hold_27 ?_
  refine a_bipush C dX12_hold_30 (v := 29) rfl ?_
  refine a_iload_n C dX12_hold_32 (i := 1) rfl rfl ?_
  refine a_imul C dX12_hold_33 ?_
  refine a_iload_n C dX12_hold_34 (i := 2) rfl rfl ?_
  refine a_iadd C dX12_hold_35 ?_
  refine a_aload_n C dX12_hold_36 (i := 0) rfl rfl ?_
  refine a_get C fl_RX12_107 (i := 236) kd_236 (hid 236 (by decide)) (v := .ref (ad 266)) rfl dX12_hold_37 ?_
  refine a_iload_n C dX12_hold_40 (i := 2) rfl rfl ?_
  refine a_iald C (i := 266) 6 kd_266 (hid 266 (by decide)) (by decide) rfl (by rw [al_266]; decide) dX12_hold_41 (v := 0) h_266_6 ?_
  refine a_iast C (i := 276) 64 kd_276 (hid 276 (by decide)) (by decide) rfl (by rw [al_276]; decide) dX12_hold_42 ?_
  refine a_iinc C dX12_hold_43 rfl (v := 7) rfl (by decide) rfl (vs1 := [some (.ref (ad 236)), some (.int 2), some (.int 7)]) rfl ?_
  refine a_goto C dX12_hold_46 (tgt := 20) rfl ?_
  refine a_iload_n C dX12_hold_20 (i := 2) rfl rfl ?_
  refine a_bipush C dX12_hold_21 (v := 29) rfl ?_
  refine a_ic_ge C dX12_hold_23 (tgt := 49) rfl (fun h => absurd h (by decide)) (fun _ => ?_)
  refine a_aload_n C dX12_hold_26 (i := 0) rfl rfl ?_
  refine a_get C fl_RX12_137 (i := 236) kd_236 (hid 236 (by decide)) (v := .ref (ad 276)) rfl dX12_hold_27 ?_
  refine a_bipush C dX12_hold_30 (v := 29) rfl ?_
  refine a_iload_n C dX12_hold_32 (i := 1) rfl rfl ?_
  refine a_imul C dX12_hold_33 ?_
  refine a_iload_n C dX12_hold_34 (i := 2) rfl rfl ?_
  refine a_iadd C dX12_hold_35 ?_
  refine a_aload_n C dX12_hold_36 (i := 0) rfl rfl ?_
  refine a_get C fl_RX12_107 (i := 236) kd_236 (hid 236 (by decide)) (v := .ref (ad 266)) rfl dX12_hold_37 ?_
  refine a_iload_n C dX12_hold_40 (i := 2) rfl rfl ?_
  refine a_iald C (i := 266) 7 kd_266 (hid 266 (by decide)) (by decide) rfl (by rw [al_266]; decide) dX12_hold_41 (v := 0) h_266_7 ?_
  refine a_iast C (i := 276) 65 kd_276 (hid 276 (by decide)) (by decide) rfl (by rw [al_276]; decide) dX12_hold_42 ?_
  refine a_iinc C dX12_hold_43 rfl (v := 8) rfl (by decide) rfl (vs1 := [some (.ref (ad 236)), some (.int 2), some (.int 8)]) rfl ?_
  refine a_goto C dX12_hold_46 (tgt := 20) rfl ?_
  refine a_iload_n C dX12_hold_20 (i := 2) rfl rfl ?_
  refine a_bipush C dX12_hold_21 (v := 29) rfl ?_
  refine a_ic_ge C dX12_hold_23 (tgt := 49) rfl (fun h => absurd h (by decide)) (fun _ => ?_)
  refine a_aload_n C dX12_hold_26 (i := 0) rfl rfl ?_
  refine a_get C fl_RX12_137 (i := 236) kd_236 (hid 236 (by decide)) (v := .ref (ad 276)) rfl dX12_hold_27 ?_
  refine a_bipush C dX12_hold_30 (v := 29) rfl ?_
  refine a_iload_n C dX12_hold_32 (i := 1) rfl rfl ?_
  refine a_imul C dX12_hold_33 ?_
  refine a_iload_n C dX12_hold_34 (i := 2) rfl rfl ?_
  refine a_iadd C dX12_hold_35 ?_
  refine a_aload_n C dX12_hold_36 (i := 0) rfl rfl ?_
  refine a_get C fl_RX12_107 (i := 236) kd_236 (hid 236 (by decide)) (v := .ref (ad 266)) rfl dX12_hold_37 ?_
  refine a_iload_n C dX12_hold_40 (i := 2) rfl rfl ?_
  refine a_iald C (i := 266) 8 kd_266 (hid 266 (by decide)) (by decide) rfl (by rw [al_266]; decide) dX12_hold_41 (v := 0) h_266_8 ?_
  refine a_iast C (i := 276) 66 kd_276 (hid 276 (by decide)) (by decide) rfl (by rw [al_276]; decide) dX12_hold_42 ?_
  refine a_iinc C dX12_hold_43 rfl (v := 9) rfl (by decide) rfl (vs1 := [some (.ref (ad 236)), some (.int 2), some (.int 9)]) rfl ?_
  refine a_goto C dX12_hold_46 (tgt := 20) rfl ?_
  refine a_iload_n C dX12_hold_20 (i := 2) rfl rfl ?_
  refine a_bipush C dX12_hold_21 (v := 29) rfl ?_
  refine a_ic_ge C dX12_hold_23 (tgt := 49) rfl (fun h => absurd h (by decide)) (fun _ => ?_)
  refine a_aload_n C dX12_hold_26 (i := 0) rfl rfl ?_
  refine a_get C fl_RX12_137 (i := 236) kd_236 (hid 236 (by decide)) (v := .ref (ad 276)) rfl dX12_hold_27 ?_
  refine a_bipush C dX12_hold_30 (v := 29) rfl ?_
  refine a_iload_n C dX12_hold_32 (i := 1) rfl rfl ?_
  refine a_imul C dX12_hold_33 ?_
  refine a_iload_n C dX12_hold_34 (i := 2) rfl rfl ?_
  refine a_iadd C dX12_hold_35 ?_
  refine a_aload_n C dX12_hold_36 (i := 0) rfl rfl ?_
  refine a_get C fl_RX12_107 (i := 236) kd_236 (hid 236 (by decide)) (v := .ref (ad 266)) rfl dX12_hold_37 ?_
  refine a_iload_n C dX12_hold_40 (i := 2) rfl rfl ?_
  refine a_iald C (i := 266) 9 kd_266 (hid 266 (by decide)) (by decide) rfl (by rw [al_266]; decide) dX12_hold_41 (v := 0) h_266_9 ?_
  refine a_iast C (i := 276) 67 kd_276 (hid 276 (by decide)) (by decide) rfl (by rw [al_276]; decide) dX12_hold_42 ?_
  refine a_iinc C dX12_hold_43 rfl (v := 10) rfl (by decide) rfl (vs1 := [some (.ref (ad 236)), some (.int 2), some (.int 10)]) rfl ?_
  refine a_goto C dX12_hold_46 (tgt := 20) rfl ?_
  refine a_iload_n C dX12_hold_20 (i := 2) rfl rfl ?_
  refine a_bipush C dX12_hold_21 (v := 29) rfl ?_
  refine a_ic_ge C dX12_hold_23 (tgt := 49) rfl (fun h => absurd h (by decide)) (fun _ => ?_)
  refine a_aload_n C dX12_hold_26 (i := 0) rfl rfl ?_
  refine a_get C fl_RX12_137 (i := 236) kd_236 (hid 236 (by decide)) (v := .ref (ad 276)) rfl dX12_hold_27 ?_
  refine a_bipush C dX12_hold_30 (v := 29) rfl ?_
  refine a_iload_n C dX12_hold_32 (i := 1) rfl rfl ?_
  refine a_imul C dX12_hold_33 ?_
  refine a_iload_n C dX12_hold_34 (i := 2) rfl rfl ?_
  refine a_iadd C dX12_hold_35 ?_
  refine a_aload_n C dX12_hold_36 (i := 0) rfl rfl ?_
  refine a_get C fl_RX12_107 (i := 236) kd_236 (hid 236 (by decide)) (v := .ref (ad 266)) rfl dX12_hold_37 ?_
  refine a_iload_n C dX12_hold_40 (i := 2) rfl rfl ?_
  refine a_iald C (i := 266) 10 kd_266 (hid 266 (by decide)) (by decide) rfl (by rw [al_266]; decide) dX12_hold_41 (v := 0) h_266_10 ?_
  refine a_iast C (i := 276) 68 kd_276 (hid 276 (by decide)) (by decide) rfl (by rw [al_276]; decide) dX12_hold_42 ?_
  refine a_iinc C dX12_hold_43 rfl (v := 11) rfl (by decide) rfl (vs1 := [some (.ref (ad 236)), some (.int 2), some (.int 11)]) rfl ?_
  refine a_goto C dX12_hold_46 (tgt := 20) rfl ?_
  refine a_iload_n C dX12_hold_20 (i := 2) rfl rfl ?_
  refine a_bipush C dX12_hold_21 (v := 29) rfl ?_
  refine a_ic_ge C dX12_hold_23 (tgt := 49) rfl (fun h => absurd h (by decide)) (fun _ => ?_)
  refine a_aload_n C dX12_hold_26 (i := 0) rfl rfl ?_
  refine a_get C fl_RX12_137 (i := 236) kd_236 (hid 236 (by decide)) (v := .ref (ad 276)) rfl dX12_hold_27 ?_
  refine a_bipush C dX12_hold_30 (v := 29) rfl ?_
  refine a_iload_n C dX12_hold_32 (i := 1) rfl rfl ?_
  refine a_imul C dX12_hold_33 ?_
  refine a_iload_n C dX12_hold_34 (i := 2) rfl rfl ?_
  refine a_iadd C dX12_hold_35 ?_
  refine a_aload_n C dX12_hold_36 (i := 0) rfl rfl ?_
  refine a_get C fl_RX12_107 (i := 236) kd_236 (hid 236 (by decide)) (v := .ref (ad 266)) rfl dX12_hold_37 ?_
  refine a_iload_n C dX12_hold_40 (i := 2) rfl rfl ?_
  refine a_iald C (i := 266) 11 kd_266 (hid 266 (by decide)) (by decide) rfl (by rw [al_266]; decide) dX12_hold_41 (v := 0) h_266_11 ?_
  refine a_iast C (i := 276) 69 kd_276 (hid 276 (by decide)) (by decide) rfl (by rw [al_276]; decide) dX12_hold_42 ?_
  refine a_iinc C dX12_hold_43 rfl (v := 12) rfl (by decide) rfl (vs1 := [some (.ref (ad 236)), some (.int 2), some (.int 12)]) rfl ?_
  refine a_goto C dX12_hold_46 (tgt := 20) rfl ?_
  refine a_iload_n C dX12_hold_20 (i := 2) rfl rfl ?_
  refine a_bipush C dX12_hold_21 (v := 29) rfl ?_
  refine a_ic_ge C dX12_hold_23 (tgt := 49) rfl (fun h => absurd h (by decide)) (fun _ => ?_)
  refine a_aload_n C dX12_hold_26 (i := 0) rfl rfl ?_
  refine a_get C fl_RX12_137 (i := 236) kd_236 (hid 236 (by decide)) (v := .ref (ad 276)) rfl dX12_hold_27 ?_
  refine a_bipush C dX12_hold_30 (v := 29) rfl ?_
  refine a_iload_n C dX12_hold_32 (i := 1) rfl rfl ?_
  refine a_imul C dX12_hold_33 ?_
  refine a_iload_n C dX12_hold_34 (i := 2) rfl rfl ?_
  refine a_iadd C dX12_hold_35 ?_
  refine a_aload_n C dX12_hold_36 (i := 0) rfl rfl ?_
  refine a_get C fl_RX12_107 (i := 236) kd_236 (hid 236 (by decide)) (v := .ref (ad 266)) rfl dX12_hold_37 ?_
  refine a_iload_n C dX12_hold_40 (i := 2) rfl rfl ?_
  refine a_iald C (i := 266) 12 kd_266 (hid 266 (by decide)) (by decide) rfl (by rw [al_266]; decide) dX12_hold_41 (v := 0) h_266_12 ?_
  refine a_iast C (i := 276) 70 kd_276 (hid 276 (by decide)) (by decide) rfl (by rw [al_276]; decide) dX12_hold_42 ?_
  refine a_iinc C dX12_hold_43 rfl (v := 13) rfl (by decide) rfl (vs1 := [some (.ref (ad 236)), some (.int 2), some (.int 13)]) rfl ?_
  refine a_goto C dX12_hold_46 (tgt := 20) rfl ?_
  refine a_iload_n C dX12_hold_20 (i := 2) rfl rfl ?_
  refine a_bipush C dX12_hold_21 (v := 29) rfl ?_
  refine a_ic_ge C dX12_hold_23 (tgt := 49) rfl (fun h => absurd h (by decide)) (fun _ => ?_)
  refine a_aload_n C dX12_hold_26 (i := 0) rfl rfl ?_
  refine a_get C fl_RX12_137 (i := 236) kd_236 (hid 236 (by decide)) (v := .ref (ad 276)) rfl dX12_hold_27 ?_
  refine a_bipush C dX12_hold_30 (v := 29) rfl ?_
  refine a_iload_n C dX12_hold_32 (i := 1) rfl rfl ?_
  refine a_imul C dX12_hold_33 ?_
  refine a_iload_n C dX12_hold_34 (i := 2) rfl rfl ?_
  refine a_iadd C dX12_hold_35 ?_
  refine a_aload_n C dX12_hold_36 (i := 0) rfl rfl ?_
  refine a_get C fl_RX12_107 (i := 236) kd_236 (hid 236 (by decide)) (v := .ref (ad 266)) rfl dX12_hold_37 ?_
  refine a_iload_n C dX12_hold_40 (i := 2) rfl rfl ?_
  refine a_iald C (i := 266) 13 kd_266 (hid 266 (by decide)) (by decide) rfl (by rw [al_266]; decide) dX12_hold_41 (v := 0) h_266_13 ?_
  refine a_iast C (i := 276) 71 kd_276 (hid 276 (by decide)) (by decide) rfl (by rw [al_276]; decide) dX12_hold_42 ?_
  refine a_iinc C dX12_hold_43 rfl (v := 14) rfl (by decide) rfl (vs1 := [some (.ref (ad 236)), some (.int 2), some (.int 14)]) rfl ?_
  refine a_goto C dX12_hold_46 (tgt := 20) rfl ?_
  refine a_iload_n C dX12_hold_20 (i := 2) rfl rfl ?_
  refine a_bipush C dX12_hold_21 (v := 29) rfl ?_
  refine a_ic_ge C dX12_hold_23 (tgt := 49) rfl (fun h => absurd h (by decide)) (fun _ => ?_)
  refine a_aload_n C dX12_hold_26 (i := 0) rfl rfl ?_
  refine a_get C fl_RX12_137 (i := 236) kd_236 (hid 236 (by decide)) (v := .ref (ad 276)) rfl dX12_hold_27 ?_
  refine a_bipush C dX12_hold_30 (v := 29) rfl ?_
  refine a_iload_n C dX12_hold_32 (i := 1) rfl rfl ?_
  refine a_imul C dX12_hold_33 ?_
  refine a_iload_n C dX12_hold_34 (i := 2) rfl rfl ?_
  refine a_iadd C dX12_hold_35 ?_
  refine a_aload_n C dX12_hold_36 (i := 0) rfl rfl ?_
  refine a_get C fl_RX12_107 (i := 236) kd_236 (hid 236 (by decide)) (v := .ref (ad 266)) rfl dX12_hold_37 ?_
  refine a_iload_n C dX12_hold_40 (i := 2) rfl rfl ?_
  refine a_iald C (i := 266) 14 kd_266 (hid 266 (by decide)) (by decide) rfl (by rw [al_266]; decide) dX12_hold_41 (v := 0) h_266_14 ?_
  refine a_iast C (i := 276) 72 kd_276 (hid 276 (by decide)) (by decide) rfl (by rw [al_276]; decide) dX12_hold_42 ?_
  refine a_iinc C dX12_hold_43 rfl (v := 15) rfl (by decide) rfl (vs1 := [some (.ref (ad 236)), some (.int 2), some (.int 15)]) rfl ?_
  refine a_goto C dX12_hold_46 (tgt := 20) rfl ?_
  refine a_iload_n C dX12_hold_20 (i := 2) rfl rfl ?_
  refine a_bipush C dX12_hold_21 (v := 29) rfl ?_
  refine a_ic_ge C dX12_hold_23 (tgt := 49) rfl (fun h => absurd h (by decide)) (fun _ => ?_)
  refine a_aload_n C dX12_hold_26 (i := 0) rfl rfl ?_
  refine a_get C fl_RX12_137 (i := 236) kd_236 (hid 236 (by decide)) (v := .ref (ad 276)) rfl dX12_hold_27 ?_
  refine a_bipush C dX12_hold_30 (v := 29) rfl ?_
  refine a_iload_n C dX12_hold_32 (i := 1) rfl rfl ?_
  refine a_imul C dX12_hold_33 ?_
  refine a_iload_n C dX12_hold_34 (i := 2) rfl rfl ?_
  refine a_iadd C dX12_hold_35 ?_
  refine a_aload_n C dX12_hold_36 (i := 0) rfl rfl ?_
  refine a_get C fl_RX12_107 (i := 236) kd_236 (hid 236 (by decide)) (v := .ref (ad 266)) rfl dX12_hold_37 ?_
  refine a_iload_n C dX12_hold_40 (i := 2) rfl rfl ?_
  refine a_iald C (i := 266) 15 kd_266 (hid 266 (by decide)) (by decide) rfl (by rw [al_266]; decide) dX12_hold_41 (v := 0) h_266_15 ?_
  refine a_iast C (i := 276) 73 kd_276 (hid 276 (by decide)) (by decide) rfl (by rw [al_276]; decide) dX12_hold_42 ?_
  refine a_iinc C dX12_hold_43 rfl (v := 16) rfl (by decide) rfl (vs1 := [some (.ref (ad 236)), some (.int 2), some (.int 16)]) rfl ?_
  refine a_goto C dX12_hold_46 (tgt := 20) rfl ?_
  refine a_iload_n C dX12_hold_20 (i := 2) rfl rfl ?_
  refine a_bipush C dX12_hold_21 (v := 29) rfl ?_
  refine a_ic_ge C dX12_hold_23 (tgt := 49) rfl (fun h => absurd h (by decide)) (fun _ => ?_)
  refine a_aload_n C dX12_hold_26 (i := 0) rfl rfl ?_
  refine a_get C fl_RX12_137 (i := 236) kd_236 (hid 236 (by decide)) (v := .ref (ad 276)) rfl dX12_hold_27 ?_
  refine a_bipush C dX12_hold_30 (v := 29) rfl ?_
  refine a_iload_n C dX12_hold_32 (i := 1) rfl rfl ?_
  refine a_imul C dX12_hold_33 ?_
  refine a_iload_n C dX12_hold_34 (i := 2) rfl rfl ?_
  refine a_iadd C dX12_hold_35 ?_
  refine a_aload_n C dX12_hold_36 (i := 0) rfl rfl ?_
  refine a_get C fl_RX12_107 (i := 236) kd_236 (hid 236 (by decide)) (v := .ref (ad 266)) rfl dX12_hold_37 ?_
  refine a_iload_n C dX12_hold_40 (i := 2) rfl rfl ?_
  refine a_iald C (i := 266) 16 kd_266 (hid 266 (by decide)) (by decide) rfl (by rw [al_266]; decide) dX12_hold_41 (v := 0) h_266_16 ?_
  refine a_iast C (i := 276) 74 kd_276 (hid 276 (by decide)) (by decide) rfl (by rw [al_276]; decide) dX12_hold_42 ?_
  refine a_iinc C dX12_hold_43 rfl (v := 17) rfl (by decide) rfl (vs1 := [some (.ref (ad 236)), some (.int 2), some (.int 17)]) rfl ?_
  refine a_goto C dX12_hold_46 (tgt := 20) rfl ?_
  refine a_iload_n C dX12_hold_20 (i := 2) rfl rfl ?_
  refine a_bipush C dX12_hold_21 (v := 29) rfl ?_
  refine a_ic_ge C dX12_hold_23 (tgt := 49) rfl (fun h => absurd h (by decide)) (fun _ => ?_)
  refine a_aload_n C dX12_hold_26 (i := 0) rfl rfl ?_
  refine a_get C fl_RX12_137 (i := 236) kd_236 (hid 236 (by decide)) (v := .ref (ad 276)) rfl dX12_hold_27 ?_
  refine a_bipush C dX12_hold_30 (v := 29) rfl ?_
  refine a_iload_n C dX12_hold_32 (i := 1) rfl rfl ?_
  refine a_imul C dX12_hold_33 ?_
  refine a_iload_n C dX12_hold_34 (i := 2) rfl rfl ?_
  refine a_iadd C dX12_hold_35 ?_
  refine a_aload_n C dX12_hold_36 (i := 0) rfl rfl ?_
  refine a_get C fl_RX12_107 (i := 236) kd_236 (hid 236 (by decide)) (v := .ref (ad 266)) rfl dX12_hold_37 ?_
  refine a_iload_n C dX12_hold_40 (i := 2) rfl rfl ?_
  refine a_iald C (i := 266) 17 kd_266 (hid 266 (by decide)) (by decide) rfl (by rw [al_266]; decide) dX12_hold_41 (v := 0) h_266_17 ?_
  refine a_iast C (i := 276) 75 kd_276 (hid 276 (by decide)) (by decide) rfl (by rw [al_276]; decide) dX12_hold_42 ?_
  refine a_iinc C dX12_hold_43 rfl (v := 18) rfl (by decide) rfl (vs1 := [some (.ref (ad 236)), some (.int 2), some (.int 18)]) rfl ?_
  refine a_goto C dX12_hold_46 (tgt := 20) rfl ?_
  refine a_iload_n C dX12_hold_20 (i := 2) rfl rfl ?_
  refine a_bipush C dX12_hold_21 (v := 29) rfl ?_
  refine a_ic_ge C dX12_hold_23 (tgt := 49) rfl (fun h => absurd h (by decide)) (fun _ => ?_)
  refine a_aload_n C dX12_hold_26 (i := 0) rfl rfl ?_
  refine a_get C fl_RX12_137 (i := 236) kd_236 (hid 236 (by decide)) (v := .ref (ad 276)) rfl dX12_hold_27 ?_
  refine a_bipush C dX12_hold_30 (v := 29) rfl ?_
  refine a_iload_n C dX12_hold_32 (i := 1) rfl rfl ?_
  refine a_imul C dX12_hold_33 ?_
  refine a_iload_n C dX12_hold_34 (i := 2) rfl rfl ?_
  refine a_iadd C dX12_hold_35 ?_
  refine a_aload_n C dX12_hold_36 (i := 0) rfl rfl ?_
  refine a_get C fl_RX12_107 (i := 236) kd_236 (hid 236 (by decide)) (v := .ref (ad 266)) rfl dX12_hold_37 ?_
  refine a_iload_n C dX12_hold_40 (i := 2) rfl rfl ?_
  refine a_iald C (i := 266) 18 kd_266 (hid 266 (by decide)) (by decide) rfl (by rw [al_266]; decide) dX12_hold_41 (v := 0) h_266_18 ?_
  refine a_iast C (i := 276) 76 kd_276 (hid 276 (by decide)) (by decide) rfl (by rw [al_276]; decide) dX12_hold_42 ?_
  refine a_iinc C dX12_hold_43 rfl (v := 19) rfl (by decide) rfl (vs1 := [some (.ref (ad 236)), some (.int 2), some (.int 19)]) rfl ?_
  refine a_goto C dX12_hold_46 (tgt := 20) rfl ?_
  refine a_iload_n C dX12_hold_20 (i := 2) rfl rfl ?_
  refine a_bipush C dX12_hold_21 (v := 29) rfl ?_
  refine a_ic_ge C dX12_hold_23 (tgt := 49) rfl (fun h => absurd h (by decide)) (fun _ => ?_)
  refine a_aload_n C dX12_hold_26 (i := 0) rfl rfl ?_
  refine a_get C fl_RX12_137 (i := 236) kd_236 (hid 236 (by decide)) (v := .ref (ad 276)) rfl dX12_hold_27 ?_
  refine a_bipush C dX12_hold_30 (v := 29) rfl ?_
  refine a_iload_n C dX12_hold_32 (i := 1) rfl rfl ?_
  refine a_imul C dX12_hold_33 ?_
  refine a_iload_n C dX12_hold_34 (i := 2) rfl rfl ?_
  refine a_iadd C dX12_hold_35 ?_
  refine a_aload_n C dX12_hold_36 (i := 0) rfl rfl ?_
  refine a_get C fl_RX12_107 (i := 236) kd_236 (hid 236 (by decide)) (v := .ref (ad 266)) rfl dX12_hold_37 ?_
  refine a_iload_n C dX12_hold_40 (i := 2) rfl rfl ?_
  refine a_iald C (i := 266) 19 kd_266 (hid 266 (by decide)) (by decide) rfl (by rw [al_266]; decide) dX12_hold_41 (v := 0) h_266_19 ?_
  refine a_iast C (i := 276) 77 kd_276 (hid 276 (by decide)) (by decide) rfl (by rw [al_276]; decide) dX12_hold_42 ?_
  refine a_iinc C dX12_hold_43 rfl (v := 20) rfl (by decide) rfl (vs1 := [some (.ref (ad 236)), some (.int 2), some (.int 20)]) rfl ?_
  refine a_goto C dX12_hold_46 (tgt := 20) rfl ?_
  refine a_iload_n C dX12_hold_20 (i := 2) rfl rfl ?_
  refine a_bipush C dX12_hold_21 (v := 29) rfl ?_
  refine a_ic_ge C dX12_hold_23 (tgt := 49) rfl (fun h => absurd h (by decide)) (fun _ => ?_)
  refine a_aload_n C dX12_hold_26 (i := 0) rfl rfl ?_
  refine a_get C fl_RX12_137 (i := 236) kd_236 (hid 236 (by decide)) (v := .ref (ad 276)) rfl dX12_hold_27 ?_
  refine a_bipush C dX12_hold_30 (v := 29) rfl ?_
  refine a_iload_n C dX12_hold_32 (i := 1) rfl rfl ?_
  refine a_imul C dX12_hold_33 ?_
  refine a_iload_n C dX12_hold_34 (i := 2) rfl rfl ?_
  refine a_iadd C dX12_hold_35 ?_
  refine a_aload_n C dX12_hold_36 (i := 0) rfl rfl ?_
  refine a_get C fl_RX12_107 (i := 236) kd_236 (hid 236 (by decide)) (v := .ref (ad 266)) rfl dX12_hold_37 ?_
  refine a_iload_n C dX12_hold_40 (i := 2) rfl rfl ?_
  refine a_iald C (i := 266) 20 kd_266 (hid 266 (by decide)) (by decide) rfl (by rw [al_266]; decide) dX12_hold_41 (v := 0) h_266_20 ?_
  refine a_iast C (i := 276) 78 kd_276 (hid 276 (by decide)) (by decide) rfl (by rw [al_276]; decide) dX12_hold_42 ?_
  refine a_iinc C dX12_hold_43 rfl (v := 21) rfl (by decide) rfl (vs1 := [some (.ref (ad 236)), some (.int 2), some (.int 21)]) rfl ?_
  refine a_goto C dX12_hold_46 (tgt := 20) rfl ?_
  refine a_iload_n C dX12_hold_20 (i := 2) rfl rfl ?_
  refine a_bipush C dX12_hold_21 (v := 29) rfl ?_
  refine a_ic_ge C dX12_hold_23 (tgt := 49) rfl (fun h => absurd h (by decide)) (fun _ => ?_)
  refine a_aload_n C dX12_hold_26 (i := 0) rfl rfl ?_
  refine a_get C fl_RX12_137 (i := 236) kd_236 (hid 236 (by decide)) (v := .ref (ad 276)) rfl dX12_hold_27 ?_
  refine a_bipush C dX12_hold_30 (v := 29) rfl ?_
  refine a_iload_n C dX12_hold_32 (i := 1) rfl rfl ?_
  refine a_imul C dX12_hold_33 ?_
  refine a_iload_n C dX12_hold_34 (i := 2) rfl rfl ?_
  refine a_iadd C dX12_hold_35 ?_
  refine a_aload_n C dX12_hold_36 (i := 0) rfl rfl ?_
  refine a_get C fl_RX12_107 (i := 236) kd_236 (hid 236 (by decide)) (v := .ref (ad 266)) rfl dX12_hold_37 ?_
  refine a_iload_n C dX12_hold_40 (i := 2) rfl rfl ?_
  refine a_iald C (i := 266) 21 kd_266 (hid 266 (by decide)) (by decide) rfl (by rw [al_266]; decide) dX12_hold_41 (v := 0) h_266_21 ?_
  refine a_iast C (i := 276) 79 kd_276 (hid 276 (by decide)) (by decide) rfl (by rw [al_276]; decide) dX12_hold_42 ?_
  refine a_iinc C dX12_hold_43 rfl (v := 22) rfl (by decide) rfl (vs1 := [some (.ref (ad 236)), some (.int 2), some (.int 22)]) rfl ?_
  refine a_goto C dX12_hold_46 (tgt := 20) rfl ?_
  refine a_iload_n C dX12_hold_20 (i := 2) rfl rfl ?_
  refine a_bipush C dX12_hold_21 (v := 29) rfl ?_
  refine a_ic_ge C dX12_hold_23 (tgt := 49) rfl (fun h => absurd h (by decide)) (fun _ => ?_)
  refine a_aload_n C dX12_hold_26 (i := 0) rfl rfl ?_
  refine a_get C fl_RX12_137 (i := 236) kd_236 (hid 236 (by decide)) (v := .ref (ad 276)) rfl dX12_hold_27 ?_
  refine a_bipush C dX12_hold_30 (v := 29) rfl ?_
  refine a_iload_n C dX12_hold_32 (i := 1) rfl rfl ?_
  refine a_imul C dX12_hold_33 ?_
  refine a_iload_n C dX12_hold_34 (i := 2) rfl rfl ?_
  refine a_iadd C dX12_hold_35 ?_
  refine a_aload_n C dX12_hold_36 (i := 0) rfl rfl ?_
  refine a_get C fl_RX12_107 (i := 236) kd_236 (hid 236 (by decide)) (v := .ref (ad 266)) rfl dX12_hold_37 ?_
  refine a_iload_n C dX12_hold_40 (i := 2) rfl rfl ?_
  refine a_iald C (i := 266) 22 kd_266 (hid 266 (by decide)) (by decide) rfl (by rw [al_266]; decide) dX12_hold_41 (v := 0) h_266_22 ?_
  refine a_iast C (i := 276) 80 kd_276 (hid 276 (by decide)) (by decide) rfl (by rw [al_276]; decide) dX12_hold_42 ?_
  refine a_iinc C dX12_hold_43 rfl (v := 23) rfl (by decide) rfl (vs1 := [some (.ref (ad 236)), some (.int 2), some (.int 23)]) rfl ?_
  refine a_goto C dX12_hold_46 (tgt := 20) rfl ?_
  refine a_iload_n C dX12_hold_20 (i := 2) rfl rfl ?_
  refine a_bipush C dX12_hold_21 (v := 29) rfl ?_
  refine a_ic_ge C dX12_hold_23 (tgt := 49) rfl (fun h => absurd h (by decide)) (fun _ => ?_)
  refine a_aload_n C dX12_hold_26 (i := 0) rfl rfl ?_
  refine a_get C fl_RX12_137 (i := 236) kd_236 (hid 236 (by decide)) (v := .ref (ad 276)) rfl dX12_hold_27 ?_
  refine a_bipush C dX12_hold_30 (v := 29) rfl ?_
  refine a_iload_n C dX12_hold_32 (i := 1) rfl rfl ?_
  refine a_imul C dX12_hold_33 ?_
  refine a_iload_n C dX12_hold_34 (i := 2) rfl rfl ?_
  refine a_iadd C dX12_hold_35 ?_
  refine a_aload_n C dX12_hold_36 (i := 0) rfl rfl ?_
  refine a_get C fl_RX12_107 (i := 236) kd_236 (hid 236 (by decide)) (v := .ref (ad 266)) rfl dX12_hold_37 ?_
  refine a_iload_n C dX12_hold_40 (i := 2) rfl rfl ?_
  refine a_iald C (i := 266) 23 kd_266 (hid 266 (by decide)) (by decide) rfl (by rw [al_266]; decide) dX12_hold_41 (v := 0) h_266_23 ?_
  refine a_iast C (i := 276) 81 kd_276 (hid 276 (by decide)) (by decide) rfl (by rw [al_276]; decide) dX12_hold_42 ?_
  refine a_iinc C dX12_hold_43 rfl (v := 24) rfl (by decide) rfl (vs1 := [some (.ref (ad 236)), some (.int 2), some (.int 24)]) rfl ?_
  refine a_goto C dX12_hold_46 (tgt := 20) rfl ?_
  refine a_iload_n C dX12_hold_20 (i := 2) rfl rfl ?_
  refine a_bipush C dX12_hold_21 (v := 29) rfl ?_
  refine a_ic_ge C dX12_hold_23 (tgt := 49) rfl (fun h => absurd h (by decide)) (fun _ => ?_)
  refine a_aload_n C dX12_hold_26 (i := 0) rfl rfl ?_
  refine a_get C fl_RX12_137 (i := 236) kd_236 (hid 236 (by decide)) (v := .ref (ad 276)) rfl dX12_hold_27 ?_
  refine a_bipush C dX12_hold_30 (v := 29) rfl ?_
  refine a_iload_n C dX12_hold_32 (i := 1) rfl rfl ?_
  refine a_imul C dX12_hold_33 ?_
  refine a_iload_n C dX12_hold_34 (i := 2) rfl rfl ?_
  refine a_iadd C dX12_hold_35 ?_
  refine a_aload_n C dX12_hold_36 (i := 0) rfl rfl ?_
  refine a_get C fl_RX12_107 (i := 236) kd_236 (hid 236 (by decide)) (v := .ref (ad 266)) rfl dX12_hold_37 ?_
  refine a_iload_n C dX12_hold_40 (i := 2) rfl rfl ?_
  refine a_iald C (i := 266) 24 kd_266 (hid 266 (by decide)) (by decide) rfl (by rw [al_266]; decide) dX12_hold_41 (v := 0) h_266_24 ?_
  refine a_iast C (i := 276) 82 kd_276 (hid 276 (by decide)) (by decide) rfl (by rw [al_276]; decide) dX12_hold_42 ?_
  refine a_iinc C dX12_hold_43 rfl (v := 25) rfl (by decide) rfl (vs1 := [some (.ref (ad 236)), some (.int 2), some (.int 25)]) rfl ?_
  refine a_goto C dX12_hold_46 (tgt := 20) rfl ?_
  refine a_iload_n C dX12_hold_20 (i := 2) rfl rfl ?_
  refine a_bipush C dX12_hold_21 (v := 29) rfl ?_
  refine a_ic_ge C dX12_hold_23 (tgt := 49) rfl (fun h => absurd h (by decide)) (fun _ => ?_)
  refine a_aload_n C dX12_hold_26 (i := 0) rfl rfl ?_
  refine a_get C fl_RX12_137 (i := 236) kd_236 (hid 236 (by decide)) (v := .ref (ad 276)) rfl dX12_hold_27 ?_
  refine a_bipush C dX12_hold_30 (v := 29) rfl ?_
  refine a_iload_n C dX12_hold_32 (i := 1) rfl rfl ?_
  refine a_imul C dX12_hold_33 ?_
  refine a_iload_n C dX12_hold_34 (i := 2) rfl rfl ?_
  refine a_iadd C dX12_hold_35 ?_
  refine a_aload_n C dX12_hold_36 (i := 0) rfl rfl ?_
  refine a_get C fl_RX12_107 (i := 236) kd_236 (hid 236 (by decide)) (v := .ref (ad 266)) rfl dX12_hold_37 ?_
  refine a_iload_n C dX12_hold_40 (i := 2) rfl rfl ?_
  refine a_iald C (i := 266) 25 kd_266 (hid 266 (by decide)) (by decide) rfl (by rw [al_266]; decide) dX12_hold_41 (v := 0) h_266_25 ?_
  refine a_iast C (i := 276) 83 kd_276 (hid 276 (by decide)) (by decide) rfl (by rw [al_276]; decide) dX12_hold_42 ?_
  refine a_iinc C dX12_hold_43 rfl (v := 26) rfl (by decide) rfl (vs1 := [some (.ref (ad 236)), some (.int 2), some (.int 26)]) rfl ?_
  refine a_goto C dX12_hold_46 (tgt := 20) rfl ?_
  refine a_iload_n C dX12_hold_20 (i := 2) rfl rfl ?_
  refine a_bipush C dX12_hold_21 (v := 29) rfl ?_
  refine a_ic_ge C dX12_hold_23 (tgt := 49) rfl (fun h => absurd h (by decide)) (fun _ => ?_)
  refine a_aload_n C dX12_hold_26 (i := 0) rfl rfl ?_
  refine a_get C fl_RX12_137 (i := 236) kd_236 (hid 236 (by decide)) (v := .ref (ad 276)) rfl dX12_hold_27 ?_
  refine a_bipush C dX12_hold_30 (v := 29) rfl ?_
  refine a_iload_n C dX12_hold_32 (i := 1) rfl rfl ?_
  refine a_imul C dX12_hold_33 ?_
  refine a_iload_n C dX12_hold_34 (i := 2) rfl rfl ?_
  refine a_iadd C dX12_hold_35 ?_
  refine a_aload_n C dX12_hold_36 (i := 0) rfl rfl ?_
  refine a_get C fl_RX12_107 (i := 236) kd_236 (hid 236 (by decide)) (v := .ref (ad 266)) rfl dX12_hold_37 ?_
  refine a_iload_n C dX12_hold_40 (i := 2) rfl rfl ?_
  refine a_iald C (i := 266) 26 kd_266 (hid 266 (by decide)) (by decide) rfl (by rw [al_266]; decide) dX12_hold_41 (v := (-2)) h_266_26 ?_
  refine a_iast C (i := 276) 84 kd_276 (hid 276 (by decide)) (by decide) rfl (by rw [al_276]; decide) dX12_hold_42 ?_
  refine a_iinc C dX12_hold_43 rfl (v := 27) rfl (by decide) rfl (vs1 := [some (.ref (ad 236)), some (.int 2), some (.int 27)]) rfl ?_
  refine a_goto C dX12_hold_46 (tgt := 20) rfl ?_
  refine a_iload_n C dX12_hold_20 (i := 2) rfl rfl ?_
  refine a_bipush C dX12_hold_21 (v := 29) rfl ?_
  refine a_ic_ge C dX12_hold_23 (tgt := 49) rfl (fun h => absurd h (by decide)) (fun _ => ?_)
  refine a_aload_n C dX12_hold_26 (i := 0) rfl rfl ?_
  refine a_get C fl_RX12_137 (i := 236) kd_236 (hid 236 (by decide)) (v := .ref (ad 276)) rfl dX12_hold_27 ?_
  refine a_bipush C dX12_hold_30 (v := 29) rfl ?_
  refine a_iload_n C dX12_hold_32 (i := 1) rfl rfl ?_
  refine a_imul C dX12_hold_33 ?_
  refine a_iload_n C dX12_hold_34 (i := 2) rfl rfl ?_
  refine a_iadd C dX12_hold_35 ?_
  refine a_aload_n C dX12_hold_36 (i := 0) rfl rfl ?_
  refine a_get C fl_RX12_107 (i := 236) kd_236 (hid 236 (by decide)) (v := .ref (ad 266)) rfl dX12_hold_37 ?_
  refine a_iload_n C dX12_hold_40 (i := 2) rfl rfl ?_
  refine a_iald C (i := 266) 27 kd_266 (hid 266 (by decide)) (by decide) rfl (by rw [al_266]; decide) dX12_hold_41 (v := 0) h_266_27 ?_
  refine a_iast C (i := 276) 85 kd_276 (hid 276 (by decide)) (by decide) rfl (by rw [al_276]; decide) dX12_hold_42 ?_
  refine a_iinc C dX12_hold_43 rfl (v := 28) rfl (by decide) rfl (vs1 := [some (.ref (ad 236)), some (.int 2), some (.int 28)]) rfl ?_
  refine a_goto C dX12_hold_46 (tgt := 20) rfl ?_
  refine a_iload_n C dX12_hold_20 (i := 2) rfl rfl ?_
  refine a_bipush C dX12_hold_21 (v := 29) rfl ?_
  refine a_ic_ge C dX12_hold_23 (tgt := 49) rfl (fun h => absurd h (by decide)) (fun _ => ?_)
  refine a_aload_n C dX12_hold_26 (i := 0) rfl rfl ?_
  refine a_get C fl_RX12_137 (i := 236) kd_236 (hid 236 (by decide)) (v := .ref (ad 276)) rfl dX12_hold_27 ?_
  refine a_bipush C dX12_hold_30 (v := 29) rfl ?_
  refine a_iload_n C dX12_hold_32 (i := 1) rfl rfl ?_
  refine a_imul C dX12_hold_33 ?_
  refine a_iload_n C dX12_hold_34 (i := 2) rfl rfl ?_
  refine a_iadd C dX12_hold_35 ?_
  refine a_aload_n C dX12_hold_36 (i := 0) rfl rfl ?_
  refine a_get C fl_RX12_107 (i := 236) kd_236 (hid 236 (by decide)) (v := .ref (ad 266)) rfl dX12_hold_37 ?_
  refine a_iload_n C dX12_hold_40 (i := 2) rfl rfl ?_
  refine a_iald C (i := 266) 28 kd_266 (hid 266 (by decide)) (by decide) rfl (by rw [al_266]; decide) dX12_hold_41 (v := (-1)) h_266_28 ?_
  refine a_iast C (i := 276) 86 kd_276 (hid 276 (by decide)) (by decide) rfl (by rw [al_276]; decide) dX12_hold_42 ?_
  refine a_iinc C dX12_hold_43 rfl (v := 29) rfl (by decide) rfl (vs1 := [some (.ref (ad 236)), some (.int 2), some (.int 29)]) rfl ?_
  refine a_goto C dX12_hold_46 (tgt := 20) rfl ?_
  refine a_iload_n C dX12_hold_20 (i := 2) rfl rfl ?_
  refine a_bipush C dX12_hold_21 (v := 29) rfl ?_
  refine a_ic_ge C dX12_hold_23 (tgt := 49) rfl (fun _ => ?_) (fun h => absurd h (by decide))
  refine a_iconst C dX12_hold_49 (v := 1) rfl ?_
  exact a_iret Rt dX12_hold_50 rfl (rfl)
set_option maxHeartbeats 4000000 in
set_option maxRecDepth 100000 in
theorem q_restore_2 {l : Launch} {D : va_G} {ids : List Nat} {ad : Nat → Nat} {ca : Nat → ClassId} {σ : HS} (hid : ∀ i, i < 277 → i ∈ ids) (h_275_2 : σ.1 275 2 = 0) : Ki l D ids ad ca yX12_restore cX12_restore 3 .boolean 1 22 [.ref (ad 236), .int 2] σ (fun r _ => r = 0) := by
  refine Ki.of (by decide) (Nat.le_of_ble_eq_true rfl) 1 (fun Γ C Rt => ?_)
  show AW ids ad ca Γ 0 [some (.ref (ad 236)), some (.int 2), none] [] σ
  refine a_iload_n C dX12_restore_0 (i := 1) rfl rfl ?_
  refine a_iconst C dX12_restore_1 (v := 0) rfl ?_
  refine a_iconst C dX12_restore_2 (v := 2) rfl ?_
  refine a_callSi C (m_in_yes hid (by decide) (by decide)) ms_X12_in ml_RX12_301 rfl rfl (Nat.le_of_ble_eq_true rfl) (Nat.le_of_ble_eq_true rfl) (Nat.le_of_ble_eq_true rfl) dX12_restore_3 (fun r1 σ2 q3 => ?_)
  obtain ⟨rfl, q3⟩ := q3
  rw [q3]
  refine a_if_eq C dX12_restore_6 (tgt := 18) rfl (fun h => absurd h (by decide)) (fun _ => ?_)
  refine a_aload_n C dX12_restore_9 (i := 0) rfl rfl ?_
  refine a_get C fl_RX12_134 (i := 236) kd_236 (hid 236 (by decide)) (v := .ref (ad 275)) rfl dX12_restore_10 ?_
  refine a_iload_n C dX12_restore_13 (i := 1) rfl rfl ?_
  refine a_zald C (i := 275) 2 kd_275 (hid 275 (by decide)) (by decide) rfl (by rw [al_275]; decide) dX12_restore_14 (v := 0) h_275_2 ?_
  refine a_if_ne C dX12_restore_15 (tgt := 20) rfl (fun h => absurd h (by decide)) (fun _ => ?_)
  refine a_iconst C dX12_restore_18 (v := 0) rfl ?_
  exact a_iret Rt dX12_restore_19 rfl (rfl)
theorem dX12_hold_9 : decode cX12_hold 9 = .ok (.iconst 0, 1) := by decide +kernel
theorem dX12_hold_10 : decode cX12_hold 10 = .ok (.ireturn, 1) := by decide +kernel
set_option maxHeartbeats 4000000 in
set_option maxRecDepth 100000 in
theorem q_hold_out {l : Launch} {D : va_G} {ids : List Nat} {ad : Nat → Nat} {ca : Nat → ClassId} {σ : HS} {p0 : Int32} (hid : ∀ i, i < 277 → i ∈ ids) (ho : p0 < 0 ∨ 2 < p0) : Ki l D ids ad ca yX12_hold cX12_hold 3 .boolean 1 22 [.ref (ad 236), .int p0] σ (fun r _ => r = 0) := by
  refine Ki.of (by decide) (Nat.le_of_ble_eq_true rfl) 1 (fun Γ C Rt => ?_)
  show AW ids ad ca Γ 0 [some (.ref (ad 236)), some (.int p0), none] [] σ
  refine a_iload_n C dX12_hold_0 (i := 1) rfl rfl ?_
  refine a_iconst C dX12_hold_1 (v := 0) rfl ?_
  refine a_iconst C dX12_hold_2 (v := 2) rfl ?_
  refine a_callSi C (m_in_no hid ho) ms_X12_in ml_RX12_301 rfl rfl (Nat.le_of_ble_eq_true rfl) (Nat.le_of_ble_eq_true rfl) (Nat.le_of_ble_eq_true rfl) dX12_hold_3 (fun r1 σ2 q3 => ?_)
  obtain ⟨rfl, q3⟩ := q3
  rw [q3]
  refine a_if_ne C dX12_hold_6 (tgt := 11) rfl (fun h => absurd h (by decide)) (fun _ => ?_)
  refine a_iconst C dX12_hold_9 (v := 0) rfl ?_
  exact a_iret Rt dX12_hold_10 rfl (rfl)
set_option maxHeartbeats 4000000 in
set_option maxRecDepth 100000 in
theorem q_restore_out {l : Launch} {D : va_G} {ids : List Nat} {ad : Nat → Nat} {ca : Nat → ClassId} {σ : HS} {p0 : Int32} (hid : ∀ i, i < 277 → i ∈ ids) (ho : p0 < 0 ∨ 2 < p0) : Ki l D ids ad ca yX12_restore cX12_restore 3 .boolean 1 22 [.ref (ad 236), .int p0] σ (fun r _ => r = 0) := by
  refine Ki.of (by decide) (Nat.le_of_ble_eq_true rfl) 1 (fun Γ C Rt => ?_)
  show AW ids ad ca Γ 0 [some (.ref (ad 236)), some (.int p0), none] [] σ
  refine a_iload_n C dX12_restore_0 (i := 1) rfl rfl ?_
  refine a_iconst C dX12_restore_1 (v := 0) rfl ?_
  refine a_iconst C dX12_restore_2 (v := 2) rfl ?_
  refine a_callSi C (m_in_no hid ho) ms_X12_in ml_RX12_301 rfl rfl (Nat.le_of_ble_eq_true rfl) (Nat.le_of_ble_eq_true rfl) (Nat.le_of_ble_eq_true rfl) dX12_restore_3 (fun r1 σ2 q3 => ?_)
  obtain ⟨rfl, q3⟩ := q3
  rw [q3]
  refine a_if_eq C dX12_restore_6 (tgt := 18) rfl (fun _ => ?_) (fun h => absurd h (by decide))
  refine a_iconst C dX12_restore_18 (v := 0) rfl ?_
  exact a_iret Rt dX12_restore_19 rfl (rfl)
theorem dX12_inHand_0 : decode cX12_inHand 0 = .ok (.iload_n 1, 1) := by decide +kernel
theorem dX12_inHand_1 : decode cX12_inHand 1 = .ok (.invokestatic 402, 3) := by decide +kernel
theorem dX12_inHand_4 : decode cX12_inHand 4 = .ok (.ifCond .ne 5, 3) := by decide +kernel
theorem dX12_inHand_9 : decode cX12_inHand 9 = .ok (.aload_n 0, 1) := by decide +kernel
theorem dX12_inHand_10 : decode cX12_inHand 10 = .ok (.invokevirtual 429, 3) := by decide +kernel
theorem dX12_inHand_13 : decode cX12_inHand 13 = .ok (.aload_n 0, 1) := by decide +kernel
theorem dX12_inHand_14 : decode cX12_inHand 14 = .ok (.iload_n 1, 1) := by decide +kernel
theorem dX12_inHand_15 : decode cX12_inHand 15 = .ok (.invokevirtual 405, 3) := by decide +kernel
theorem dX12_inHand_18 : decode cX12_inHand 18 = .ok (.aload_n 0, 1) := by decide +kernel
theorem dX12_inHand_19 : decode cX12_inHand 19 = .ok (.invokevirtual 378, 3) := by decide +kernel
theorem dX12_inHand_22 : decode cX12_inHand 22 = .ok (.ireturn, 1) := by decide +kernel
set_option maxHeartbeats 4000000 in
set_option maxRecDepth 100000 in
theorem q_inHand_in {l : Launch} {D : va_G} {ids : List Nat} {ad : Nat → Nat} {ca : Nat → ClassId} {σ : HS} {m : Nat} (hid : ∀ i, i < 277 → i ∈ ids) (hm : m ≤ 60) (h_236_2 : σ.1 236 2 = 0) (h_236_18 : σ.1 236 18 = 0) (h_236_54 : σ.1 236 54 = 0) (h_236_60 : σ.1 236 60 = 0) (h_245_0 : σ.1 245 0 = 0) (h_252_0 : σ.1 252 0 = 1) (h_253_0 : σ.1 253 0 = 0) (h_266_0 : σ.1 266 0 = 0) (h_266_1 : σ.1 266 1 = 0) (h_266_2 : σ.1 266 2 = 0) (h_266_3 : σ.1 266 3 = 0) (h_266_4 : σ.1 266 4 = 0) (h_266_5 : σ.1 266 5 = 0) (h_266_6 : σ.1 266 6 = 0) (h_266_7 : σ.1 266 7 = 0) (h_266_8 : σ.1 266 8 = 0) (h_266_9 : σ.1 266 9 = 0) (h_266_10 : σ.1 266 10 = 0) (h_266_11 : σ.1 266 11 = 0) (h_266_12 : σ.1 266 12 = 0) (h_266_13 : σ.1 266 13 = 0) (h_266_14 : σ.1 266 14 = 0) (h_266_15 : σ.1 266 15 = 0) (h_266_16 : σ.1 266 16 = 0) (h_266_17 : σ.1 266 17 = 0) (h_266_18 : σ.1 266 18 = 0) (h_266_19 : σ.1 266 19 = 0) (h_266_20 : σ.1 266 20 = 0) (h_266_21 : σ.1 266 21 = 0) (h_266_22 : σ.1 266 22 = 0) (h_266_23 : σ.1 266 23 = 0) (h_266_24 : σ.1 266 24 = 0) (h_266_25 : σ.1 266 25 = 0) (h_266_26 : σ.1 266 26 = (-2)) (h_266_27 : σ.1 266 27 = 0) (h_266_28 : σ.1 266 28 = (-1)) : Ki l D ids ad ca yX12_inHand cX12_inHand 2 .int 3 65 [.ref (ad 236), .int (nI m)] σ (fun r _ => r = (-2)) := by
  refine Ki.of (by decide) (Nat.le_of_ble_eq_true rfl) 0 (fun Γ C Rt => ?_)
  show AW ids ad ca Γ 0 [some (.ref (ad 236)), some (.int (nI m))] [] σ
  refine a_iload_n C dX12_inHand_0 (i := 1) rfl rfl ?_
  refine a_callSi C (m_isLong_yes hid (by omega)) ms_X12_isLong ml_RX12_402 rfl rfl (Nat.le_of_ble_eq_true rfl) (Nat.le_of_ble_eq_true rfl) (Nat.le_of_ble_eq_true rfl) dX12_inHand_1 (fun r1 σ2 q3 => ?_)
  obtain ⟨rfl, q3⟩ := q3
  rw [q3]
  refine a_if_ne C dX12_inHand_4 (tgt := 9) rfl (fun _ => ?_) (fun h => absurd h (by decide))
  refine a_aload_n C dX12_inHand_9 (i := 0) rfl rfl ?_
  refine a_callVv C (i := 236) kd_236 (hid 236 (by decide)) ⟨_, _, rfl⟩ (by decide) (m_copiesStill hid h_236_2 h_236_18 h_236_54 h_236_60 h_253_0 h_266_0 h_266_1 h_266_2 h_266_3 h_266_4 h_266_5 h_266_6 h_266_7 h_266_8 h_266_9 h_266_10 h_266_11 h_266_12 h_266_13 h_266_14 h_266_15 h_266_16 h_266_17 h_266_18 h_266_19 h_266_20 h_266_21 h_266_22 h_266_23 h_266_24 h_266_25 h_266_26 h_266_27 h_266_28) mi_X12_copiesStill ml_RX12_429 rfl rfl (Nat.le_of_ble_eq_true rfl) (Nat.le_of_ble_eq_true rfl) (Nat.le_of_ble_eq_true rfl) dX12_inHand_10 (fun σ5 q6 => ?_)
  refine a_aload_n C dX12_inHand_13 (i := 0) rfl rfl ?_
  refine a_iload_n C dX12_inHand_14 (i := 1) rfl rfl ?_
  refine a_callVv C (i := 236) kd_236 (hid 236 (by decide)) ⟨_, _, rfl⟩ (by decide) (m_goes hid (bt := 0) (m := m) q6.2.2.2.2.2.2.2.2.2.2.2.2.2.2.2.2.2.2.2.2.2.2.1 (by omega) q6.2.2.2.2.2.2.2.2.2.2.2.2.2.2.2.2.2.2.2.2.2.2.2.2.2.2.2.2.2.2.2.2.2 q6.2.2.2.2.2.2.2.2.2.2.2.2.2.2.2.2.2.2.2.2.2.2.2.2.2.2.2.2.2.2.1 q6.2.2.2.2.2.2.2.2.2.2.2.2.2.2.2.2.2.2.2.2.2.2.2.2.2.2.2.2.2.2.2.1 q6.2.2.2.2.2.2.2.2.2.2.2.2.2.2.2.2.2.2.2.2.2.2.2.2.2.2.2.2.2.2.2.2.1 ((congrFun (q6.1.1 245 (by decide)) 0).trans h_245_0) ((congrFun (q6.1.1 252 (by decide)) 0).trans h_252_0) q6.2.2.2.2.2.2.2.2.2.2.2.2.2.2.2.2.2.2.2.2.2.2.2.1 q6.2.2.2.2.2.2.2.2.2.2.2.2.2.2.2.2.2.2.2.2.2.2.2.2.1 q6.2.2.2.2.2.2.2.2.2.2.2.2.2.2.2.2.2.2.2.2.2.2.2.2.2.2.1 q6.2.2.2.2.2.2.2.2.2.2.2.2.2.2.2.2.2.2.2.2.2.2.2.2.2.2.2.1 q6.2.2.2.2.2.2.2.2.2.2.2.2.2.2.2.2.2.2.2.2.2.2.2.2.2.2.2.2.1 q6.2.2.2.2.2.2.2.2.2.2.2.2.2.2.2.2.2.2.2.2.2.2.2.2.2.2.2.2.2.1) mi_X12_goes ml_RX12_405 rfl rfl (Nat.le_of_ble_eq_true rfl) (Nat.le_of_ble_eq_true rfl) (Nat.le_of_ble_eq_true rfl) dX12_inHand_15 (fun σ8 q9 => ?_)
  refine a_aload_n C dX12_inHand_18 (i := 0) rfl rfl ?_
  refine a_callVi C (i := 236) kd_236 (hid 236 (by decide)) ⟨_, _, rfl⟩ (by decide) (m_catchesNow hid q9.2.2.2.2.2.2.2.2.1 ((congrFun (q9.1.1 245 (by decide)) 0).trans ((congrFun (q6.1.1 245 (by decide)) 0).trans h_245_0))) mi_X12_catchesNow ml_RX12_378 rfl rfl (Nat.le_of_ble_eq_true rfl) (Nat.le_of_ble_eq_true rfl) (Nat.le_of_ble_eq_true rfl) dX12_inHand_19 (fun r10 σ11 q12 => ?_)
  obtain ⟨rfl, q12⟩ := q12
  rw [q12]
  exact a_iret Rt dX12_inHand_22 rfl (rfl)
theorem dX12_inHand_7 : decode cX12_inHand 7 = .ok (.iconst (-1), 1) := by decide +kernel
theorem dX12_inHand_8 : decode cX12_inHand 8 = .ok (.ireturn, 1) := by decide +kernel
set_option maxHeartbeats 4000000 in
set_option maxRecDepth 100000 in
theorem q_inHand_out {l : Launch} {D : va_G} {ids : List Nat} {ad : Nat → Nat} {ca : Nat → ClassId} {σ : HS} {p0 : Int32} (hid : ∀ i, i < 277 → i ∈ ids) (ho : p0 < 0 ∨ 60 < p0) : Ki l D ids ad ca yX12_inHand cX12_inHand 2 .int 2 42 [.ref (ad 236), .int p0] σ (fun r _ => r = (-1)) := by
  refine Ki.of (by decide) (Nat.le_of_ble_eq_true rfl) 0 (fun Γ C Rt => ?_)
  show AW ids ad ca Γ 0 [some (.ref (ad 236)), some (.int p0)] [] σ
  refine a_iload_n C dX12_inHand_0 (i := 1) rfl rfl ?_
  refine a_callSi C (m_isLong_no hid ho) ms_X12_isLong ml_RX12_402 rfl rfl (Nat.le_of_ble_eq_true rfl) (Nat.le_of_ble_eq_true rfl) (Nat.le_of_ble_eq_true rfl) dX12_inHand_1 (fun r1 σ2 q3 => ?_)
  obtain ⟨rfl, q3⟩ := q3
  rw [q3]
  refine a_if_ne C dX12_inHand_4 (tgt := 9) rfl (fun h => absurd h (by decide)) (fun _ => ?_)
  refine a_iconst C dX12_inHand_7 (v := (-1)) rfl ?_
  exact a_iret Rt dX12_inHand_8 rfl (rfl)
theorem dX12_clash_0 : decode cX12_clash 0 = .ok (.aload_n 0, 1) := by decide +kernel
theorem dX12_clash_1 : decode cX12_clash 1 = .ok (.invokevirtual 429, 3) := by decide +kernel
theorem dX12_clash_4 : decode cX12_clash 4 = .ok (.iconst 0, 1) := by decide +kernel
theorem dX12_clash_5 : decode cX12_clash 5 = .ok (.istore_n 1, 1) := by decide +kernel
theorem dX12_clash_6 : decode cX12_clash 6 = .ok (.iload_n 1, 1) := by decide +kernel
theorem dX12_clash_7 : decode cX12_clash 7 = .ok (.bipush 60, 2) := by decide +kernel
theorem dX12_clash_9 : decode cX12_clash 9 = .ok (.if_icmp .gt 22, 3) := by decide +kernel
theorem dX12_clash_12 : decode cX12_clash 12 = .ok (.aload_n 0, 1) := by decide +kernel
theorem dX12_clash_13 : decode cX12_clash 13 = .ok (.invokevirtual 387, 3) := by decide +kernel
theorem dX12_clash_16 : decode cX12_clash 16 = .ok (.aload_n 0, 1) := by decide +kernel
theorem dX12_clash_17 : decode cX12_clash 17 = .ok (.getfield 344, 3) := by decide +kernel
theorem dX12_clash_20 : decode cX12_clash 20 = .ok (.ifCond .eq 5, 3) := by decide +kernel
theorem dX12_clash_25 : decode cX12_clash 25 = .ok (.iinc 1 1, 3) := by decide +kernel
theorem dX12_clash_28 : decode cX12_clash 28 = .ok (.goto (-22), 3) := by decide +kernel
theorem dX12_clash_31 : decode cX12_clash 31 = .ok (.bipush (-2), 2) := by decide +kernel
theorem dX12_clash_33 : decode cX12_clash 33 = .ok (.ireturn, 1) := by decide +kernel
set_option maxHeartbeats 4000000 in
set_option maxRecDepth 100000 in
theorem q_clash {l : Launch} {D : va_G} {ids : List Nat} {ad : Nat → Nat} {ca : Nat → ClassId} {σ : HS} (hid : ∀ i, i < 277 → i ∈ ids) (h_236_2 : σ.1 236 2 = 0) (h_236_18 : σ.1 236 18 = 0) (h_236_54 : σ.1 236 54 = 0) (h_236_60 : σ.1 236 60 = 0) (h_245_0 : σ.1 245 0 = 0) (h_252_0 : σ.1 252 0 = 1) (h_253_0 : σ.1 253 0 = 0) (h_266_0 : σ.1 266 0 = 0) (h_266_1 : σ.1 266 1 = 0) (h_266_2 : σ.1 266 2 = 0) (h_266_3 : σ.1 266 3 = 0) (h_266_4 : σ.1 266 4 = 0) (h_266_5 : σ.1 266 5 = 0) (h_266_6 : σ.1 266 6 = 0) (h_266_7 : σ.1 266 7 = 0) (h_266_8 : σ.1 266 8 = 0) (h_266_9 : σ.1 266 9 = 0) (h_266_10 : σ.1 266 10 = 0) (h_266_11 : σ.1 266 11 = 0) (h_266_12 : σ.1 266 12 = 0) (h_266_13 : σ.1 266 13 = 0) (h_266_14 : σ.1 266 14 = 0) (h_266_15 : σ.1 266 15 = 0) (h_266_16 : σ.1 266 16 = 0) (h_266_17 : σ.1 266 17 = 0) (h_266_18 : σ.1 266 18 = 0) (h_266_19 : σ.1 266 19 = 0) (h_266_20 : σ.1 266 20 = 0) (h_266_21 : σ.1 266 21 = 0) (h_266_22 : σ.1 266 22 = 0) (h_266_23 : σ.1 266 23 = 0) (h_266_24 : σ.1 266 24 = 0) (h_266_25 : σ.1 266 25 = 0) (h_266_26 : σ.1 266 26 = (-2)) (h_266_27 : σ.1 266 27 = 0) (h_266_28 : σ.1 266 28 = (-1)) : Ki l D ids ad ca yX12_clash cX12_clash 2 .int 2 43 [.ref (ad 236)] σ (fun r _ => r = (-2)) := by
  refine Ki.of (by decide) (Nat.le_of_ble_eq_true rfl) 1 (fun Γ C Rt => ?_)
  show AW ids ad ca Γ 0 [some (.ref (ad 236)), none] [] σ
  refine a_aload_n C dX12_clash_0 (i := 0) rfl rfl ?_
  refine a_callVv C (i := 236) kd_236 (hid 236 (by decide)) ⟨_, _, rfl⟩ (by decide) (m_copiesStill hid h_236_2 h_236_18 h_236_54 h_236_60 h_253_0 h_266_0 h_266_1 h_266_2 h_266_3 h_266_4 h_266_5 h_266_6 h_266_7 h_266_8 h_266_9 h_266_10 h_266_11 h_266_12 h_266_13 h_266_14 h_266_15 h_266_16 h_266_17 h_266_18 h_266_19 h_266_20 h_266_21 h_266_22 h_266_23 h_266_24 h_266_25 h_266_26 h_266_27 h_266_28) mi_X12_copiesStill ml_RX12_429 rfl rfl (Nat.le_of_ble_eq_true rfl) (Nat.le_of_ble_eq_true rfl) (Nat.le_of_ble_eq_true rfl) dX12_clash_1 (fun σ2 q3 => ?_)
  refine a_iconst C dX12_clash_4 (v := 0) rfl ?_
  refine a_istore_n C dX12_clash_5 (i := 1) rfl (by decide) rfl (vs1 := [some (.ref (ad 236)), some (.int 0)]) rfl ?_
  have loop : ∀ (d j : Nat) (σ2 : HS), j + d = 61 → (only [267, 236] σ σ2 ∧ σ2.1 267 21 = (nI (0 + j)) ∧ σ2.1 267 22 = 0 ∧ σ2.1 267 23 = 0 ∧ σ2.1 267 25 = 0 ∧ σ2.1 267 26 = (-2) ∧ σ2.1 267 27 = 0 ∧ σ2.1 267 28 = (-1) ∧ σ2.1 236 18 = 0 ∧ σ2.1 236 54 = 0 ∧ σ2.1 236 60 = 0 ∧ σ2.1 236 2 = 0) → AW ids ad ca Γ 6 [some (.ref (ad 236)), some (.int (nI j))] [] σ2 := by
    intro d
    induction d with
    | zero =>
      intro j σ2 hj hV
      refine a_iload_n C dX12_clash_6 (i := 1) rfl rfl ?_
      refine a_bipush C dX12_clash_7 (v := 60) rfl ?_
      refine a_ic_gt C dX12_clash_9 (tgt := 31) rfl (fun c4 => ?_) (fun c4 => absurd c4 (fun q => q (nI_lt (a := (60)) (b := (j)) (by omega) (by omega))))
      refine a_bipush C dX12_clash_31 (v := (-2)) rfl ?_
      exact a_iret Rt dX12_clash_33 rfl (rfl)
    | succ d ih =>
      intro j σ2 hj hV
      refine a_iload_n C dX12_clash_6 (i := 1) rfl rfl ?_
      refine a_bipush C dX12_clash_7 (v := 60) rfl ?_
      refine a_ic_gt C dX12_clash_9 (tgt := 31) rfl (fun c5 => absurd c5 (nI_nlt (a := (60)) (b := (j)) (by omega) (by omega))) (fun c5 => ?_)
      refine a_aload_n C dX12_clash_12 (i := 0) rfl rfl ?_
      refine a_callVv C (i := 236) kd_236 (hid 236 (by decide)) ⟨_, _, rfl⟩ (by decide) (m_beatGoes hid (bt := 0 + j) hV.2.1 hV.2.2.2.2.2.2.2.2.2.2.2 hV.2.2.2.2.2.2.2.2.1 hV.2.2.2.2.2.2.2.2.2.1 hV.2.2.2.2.2.2.2.2.2.2.1 ((congrFun (hV.1.1 245 (by decide)) 0).trans h_245_0) ((congrFun (hV.1.1 252 (by decide)) 0).trans h_252_0) hV.2.2.1 hV.2.2.2.1 hV.2.2.2.2.1 hV.2.2.2.2.2.1 hV.2.2.2.2.2.2.1) mi_X12_beatGoes ml_RX12_387 rfl rfl (Nat.le_of_ble_eq_true rfl) (Nat.le_of_ble_eq_true rfl) (Nat.le_of_ble_eq_true rfl) dX12_clash_13 (fun σ7 q8 => ?_)
      refine a_aload_n C dX12_clash_16 (i := 0) rfl rfl ?_
      refine a_get C fl_RX12_344 (i := 236) kd_236 (hid 236 (by decide)) (v := .int 0) (congrArg (fun z => some (Value.int z)) q8.2.2.2.2.2.2.2.2.2.1) dX12_clash_17 ?_
      refine a_if_eq C dX12_clash_20 (tgt := 25) rfl (fun _ => ?_) (fun h => absurd h (by decide))
      refine a_iinc C dX12_clash_25 rfl (v := (nI (j + 1))) (nI_1 _) (by decide) rfl (vs1 := [some (.ref (ad 236)), some (.int (nI (j + 1)))]) rfl ?_
      refine a_goto C dX12_clash_28 (tgt := 6) rfl ?_
      exact ih (j + 1) _ (by omega) ⟨(only.tr (only.tr only.rf (only.mono hV.1 (by decide))) (only.mono q8.1 (by decide))), (Eq.trans q8.2.1 (congrArg nI (show 0 + j + 1 = 0 + (j + 1) by omega))), q8.2.2.1, q8.2.2.2.1, q8.2.2.2.2.1, q8.2.2.2.2.2.1, q8.2.2.2.2.2.2.1, q8.2.2.2.2.2.2.2.1, q8.2.2.2.2.2.2.2.2.2.2.2.1, q8.2.2.2.2.2.2.2.2.2.2.2.2.1, q8.2.2.2.2.2.2.2.2.2.2.2.2.2.1, q8.2.2.2.2.2.2.2.2.2.2.2.2.2.2⟩
  exact loop (61 - 0) 0 _ (by omega) ⟨(only.tr only.rf (only.mono q3.1 (by decide))), (Eq.trans q3.2.2.2.2.2.2.2.2.2.2.2.2.2.2.2.2.2.2.2.2.2.2.1 (congrArg nI (show 0 = 0 + 0 by omega))), q3.2.2.2.2.2.2.2.2.2.2.2.2.2.2.2.2.2.2.2.2.2.2.2.1, q3.2.2.2.2.2.2.2.2.2.2.2.2.2.2.2.2.2.2.2.2.2.2.2.2.1, q3.2.2.2.2.2.2.2.2.2.2.2.2.2.2.2.2.2.2.2.2.2.2.2.2.2.2.1, q3.2.2.2.2.2.2.2.2.2.2.2.2.2.2.2.2.2.2.2.2.2.2.2.2.2.2.2.1, q3.2.2.2.2.2.2.2.2.2.2.2.2.2.2.2.2.2.2.2.2.2.2.2.2.2.2.2.2.1, q3.2.2.2.2.2.2.2.2.2.2.2.2.2.2.2.2.2.2.2.2.2.2.2.2.2.2.2.2.2.1, q3.2.2.2.2.2.2.2.2.2.2.2.2.2.2.2.2.2.2.2.2.2.2.2.2.2.2.2.2.2.2.1, q3.2.2.2.2.2.2.2.2.2.2.2.2.2.2.2.2.2.2.2.2.2.2.2.2.2.2.2.2.2.2.2.1, q3.2.2.2.2.2.2.2.2.2.2.2.2.2.2.2.2.2.2.2.2.2.2.2.2.2.2.2.2.2.2.2.2.1, q3.2.2.2.2.2.2.2.2.2.2.2.2.2.2.2.2.2.2.2.2.2.2.2.2.2.2.2.2.2.2.2.2.2⟩
theorem dX12_limit_0 : decode cX12_limit 0 = .ok (.iload_n 1, 1) := by decide +kernel
theorem dX12_limit_1 : decode cX12_limit 1 = .ok (.iconst 0, 1) := by decide +kernel
theorem dX12_limit_2 : decode cX12_limit 2 = .ok (.sipush 999, 3) := by decide +kernel
theorem dX12_limit_5 : decode cX12_limit 5 = .ok (.invokestatic 301, 3) := by decide +kernel
theorem dX12_limit_8 : decode cX12_limit 8 = .ok (.ifCond .ne 5, 3) := by decide +kernel
theorem dX12_limit_13 : decode cX12_limit 13 = .ok (.aload_n 0, 1) := by decide +kernel
theorem dX12_limit_14 : decode cX12_limit 14 = .ok (.invokevirtual 429, 3) := by decide +kernel
theorem dX12_limit_17 : decode cX12_limit 17 = .ok (.iconst 0, 1) := by decide +kernel
theorem dX12_limit_18 : decode cX12_limit 18 = .ok (.istore_n 2, 1) := by decide +kernel
theorem dX12_limit_19 : decode cX12_limit 19 = .ok (.iload_n 2, 1) := by decide +kernel
theorem dX12_limit_20 : decode cX12_limit 20 = .ok (.sipush 200, 3) := by decide +kernel
theorem dX12_limit_23 : decode cX12_limit 23 = .ok (.if_icmp .gt 26, 3) := by decide +kernel
theorem dX12_limit_26 : decode cX12_limit 26 = .ok (.aload_n 0, 1) := by decide +kernel
theorem dX12_limit_27 : decode cX12_limit 27 = .ok (.getfield 110, 3) := by decide +kernel
theorem dX12_limit_30 : decode cX12_limit 30 = .ok (.bipush 22, 2) := by decide +kernel
theorem dX12_limit_32 : decode cX12_limit 32 = .ok (.iaload, 1) := by decide +kernel
theorem dX12_limit_33 : decode cX12_limit 33 = .ok (.iload_n 1, 1) := by decide +kernel
theorem dX12_limit_34 : decode cX12_limit 34 = .ok (.if_icmp .lt 5, 3) := by decide +kernel
theorem dX12_limit_37 : decode cX12_limit 37 = .ok (.iload_n 2, 1) := by decide +kernel
theorem dX12_limit_38 : decode cX12_limit 38 = .ok (.ireturn, 1) := by decide +kernel
set_option maxHeartbeats 4000000 in
set_option maxRecDepth 100000 in
theorem q_limit_0 {l : Launch} {D : va_G} {ids : List Nat} {ad : Nat → Nat} {ca : Nat → ClassId} {σ : HS} (hid : ∀ i, i < 277 → i ∈ ids) (h_236_2 : σ.1 236 2 = 0) (h_236_18 : σ.1 236 18 = 0) (h_236_54 : σ.1 236 54 = 0) (h_236_60 : σ.1 236 60 = 0) (h_253_0 : σ.1 253 0 = 0) (h_266_0 : σ.1 266 0 = 0) (h_266_1 : σ.1 266 1 = 0) (h_266_2 : σ.1 266 2 = 0) (h_266_3 : σ.1 266 3 = 0) (h_266_4 : σ.1 266 4 = 0) (h_266_5 : σ.1 266 5 = 0) (h_266_6 : σ.1 266 6 = 0) (h_266_7 : σ.1 266 7 = 0) (h_266_8 : σ.1 266 8 = 0) (h_266_9 : σ.1 266 9 = 0) (h_266_10 : σ.1 266 10 = 0) (h_266_11 : σ.1 266 11 = 0) (h_266_12 : σ.1 266 12 = 0) (h_266_13 : σ.1 266 13 = 0) (h_266_14 : σ.1 266 14 = 0) (h_266_15 : σ.1 266 15 = 0) (h_266_16 : σ.1 266 16 = 0) (h_266_17 : σ.1 266 17 = 0) (h_266_18 : σ.1 266 18 = 0) (h_266_19 : σ.1 266 19 = 0) (h_266_20 : σ.1 266 20 = 0) (h_266_21 : σ.1 266 21 = 0) (h_266_22 : σ.1 266 22 = 0) (h_266_23 : σ.1 266 23 = 0) (h_266_24 : σ.1 266 24 = 0) (h_266_25 : σ.1 266 25 = 0) (h_266_26 : σ.1 266 26 = (-2)) (h_266_27 : σ.1 266 27 = 0) (h_266_28 : σ.1 266 28 = (-1)) : Ki l D ids ad ca yX12_limit cX12_limit 3 .int 2 41 [.ref (ad 236), .int 0] σ (fun r _ => r = 0) := by
  refine Ki.of (by decide) (Nat.le_of_ble_eq_true rfl) 1 (fun Γ C Rt => ?_)
  show AW ids ad ca Γ 0 [some (.ref (ad 236)), some (.int 0), none] [] σ
  refine a_iload_n C dX12_limit_0 (i := 1) rfl rfl ?_
  refine a_iconst C dX12_limit_1 (v := 0) rfl ?_
  refine a_sipush C dX12_limit_2 (v := 999) rfl ?_
  refine a_callSi C (m_in_yes hid (by decide) (by decide)) ms_X12_in ml_RX12_301 rfl rfl (Nat.le_of_ble_eq_true rfl) (Nat.le_of_ble_eq_true rfl) (Nat.le_of_ble_eq_true rfl) dX12_limit_5 (fun r1 σ2 q3 => ?_)
  obtain ⟨rfl, q3⟩ := q3
  rw [q3]
  refine a_if_ne C dX12_limit_8 (tgt := 13) rfl (fun _ => ?_) (fun h => absurd h (by decide))
  refine a_aload_n C dX12_limit_13 (i := 0) rfl rfl ?_
  refine a_callVv C (i := 236) kd_236 (hid 236 (by decide)) ⟨_, _, rfl⟩ (by decide) (m_copiesStill hid h_236_2 h_236_18 h_236_54 h_236_60 h_253_0 h_266_0 h_266_1 h_266_2 h_266_3 h_266_4 h_266_5 h_266_6 h_266_7 h_266_8 h_266_9 h_266_10 h_266_11 h_266_12 h_266_13 h_266_14 h_266_15 h_266_16 h_266_17 h_266_18 h_266_19 h_266_20 h_266_21 h_266_22 h_266_23 h_266_24 h_266_25 h_266_26 h_266_27 h_266_28) mi_X12_copiesStill ml_RX12_429 rfl rfl (Nat.le_of_ble_eq_true rfl) (Nat.le_of_ble_eq_true rfl) (Nat.le_of_ble_eq_true rfl) dX12_limit_14 (fun σ5 q6 => ?_)
  refine a_iconst C dX12_limit_17 (v := 0) rfl ?_
  refine a_istore_n C dX12_limit_18 (i := 2) rfl (by decide) rfl (vs1 := [some (.ref (ad 236)), some (.int 0), some (.int 0)]) rfl ?_
  refine a_iload_n C dX12_limit_19 (i := 2) rfl rfl ?_
  refine a_sipush C dX12_limit_20 (v := 200) rfl ?_
  refine a_ic_gt C dX12_limit_23 (tgt := 49) rfl (fun h => absurd h (by decide)) (fun _ => ?_)
  refine a_aload_n C dX12_limit_26 (i := 0) rfl rfl ?_
  refine a_get C fl_RX12_110 (i := 236) kd_236 (hid 236 (by decide)) (v := .ref (ad 267)) rfl dX12_limit_27 ?_
  refine a_bipush C dX12_limit_30 (v := 22) rfl ?_
  refine a_iald C (i := 267) 22 kd_267 (hid 267 (by decide)) (by decide) rfl (by rw [al_267]; decide) dX12_limit_32 (v := 0) q6.2.2.2.2.2.2.2.2.2.2.2.2.2.2.2.2.2.2.2.2.2.2.2.1 ?_
  refine a_iload_n C dX12_limit_33 (i := 1) rfl rfl ?_
  refine a_ic_lt C dX12_limit_34 (tgt := 39) rfl (fun h => absurd h (by decide)) (fun _ => ?_)
  refine a_iload_n C dX12_limit_37 (i := 2) rfl rfl ?_
  exact a_iret Rt dX12_limit_38 rfl (rfl)
theorem dX12_limit_39 : decode cX12_limit 39 = .ok (.aload_n 0, 1) := by decide +kernel
theorem dX12_limit_40 : decode cX12_limit 40 = .ok (.invokevirtual 387, 3) := by decide +kernel
theorem dX12_limit_43 : decode cX12_limit 43 = .ok (.iinc 2 1, 3) := by decide +kernel
theorem dX12_limit_46 : decode cX12_limit 46 = .ok (.goto (-27), 3) := by decide +kernel
theorem dX12_limit_49 : decode cX12_limit 49 = .ok (.bipush (-2), 2) := by decide +kernel
theorem dX12_limit_51 : decode cX12_limit 51 = .ok (.ireturn, 1) := by decide +kernel
set_option maxHeartbeats 4000000 in
set_option maxRecDepth 100000 in
theorem q_limit_in {l : Launch} {D : va_G} {ids : List Nat} {ad : Nat → Nat} {ca : Nat → ClassId} {σ : HS} {p0 : Int32} (hid : ∀ i, i < 277 → i ∈ ids) (h1 : 0 < p0) (h2 : p0 ≤ 999) (h_236_2 : σ.1 236 2 = 0) (h_236_18 : σ.1 236 18 = 0) (h_236_54 : σ.1 236 54 = 0) (h_236_60 : σ.1 236 60 = 0) (h_245_0 : σ.1 245 0 = 0) (h_252_0 : σ.1 252 0 = 1) (h_253_0 : σ.1 253 0 = 0) (h_266_0 : σ.1 266 0 = 0) (h_266_1 : σ.1 266 1 = 0) (h_266_2 : σ.1 266 2 = 0) (h_266_3 : σ.1 266 3 = 0) (h_266_4 : σ.1 266 4 = 0) (h_266_5 : σ.1 266 5 = 0) (h_266_6 : σ.1 266 6 = 0) (h_266_7 : σ.1 266 7 = 0) (h_266_8 : σ.1 266 8 = 0) (h_266_9 : σ.1 266 9 = 0) (h_266_10 : σ.1 266 10 = 0) (h_266_11 : σ.1 266 11 = 0) (h_266_12 : σ.1 266 12 = 0) (h_266_13 : σ.1 266 13 = 0) (h_266_14 : σ.1 266 14 = 0) (h_266_15 : σ.1 266 15 = 0) (h_266_16 : σ.1 266 16 = 0) (h_266_17 : σ.1 266 17 = 0) (h_266_18 : σ.1 266 18 = 0) (h_266_19 : σ.1 266 19 = 0) (h_266_20 : σ.1 266 20 = 0) (h_266_21 : σ.1 266 21 = 0) (h_266_22 : σ.1 266 22 = 0) (h_266_23 : σ.1 266 23 = 0) (h_266_24 : σ.1 266 24 = 0) (h_266_25 : σ.1 266 25 = 0) (h_266_26 : σ.1 266 26 = (-2)) (h_266_27 : σ.1 266 27 = 0) (h_266_28 : σ.1 266 28 = (-1)) : Ki l D ids ad ca yX12_limit cX12_limit 3 .int 2 43 [.ref (ad 236), .int p0] σ (fun r _ => r = (-2)) := by
  refine Ki.of (by decide) (Nat.le_of_ble_eq_true rfl) 1 (fun Γ C Rt => ?_)
  show AW ids ad ca Γ 0 [some (.ref (ad 236)), some (.int p0), none] [] σ
  refine a_iload_n C dX12_limit_0 (i := 1) rfl rfl ?_
  refine a_iconst C dX12_limit_1 (v := 0) rfl ?_
  refine a_sipush C dX12_limit_2 (v := 999) rfl ?_
  refine a_callSi C (m_in_yes hid (Int32.not_lt.mpr (Int32.le_of_lt h1)) h2) ms_X12_in ml_RX12_301 rfl rfl (Nat.le_of_ble_eq_true rfl) (Nat.le_of_ble_eq_true rfl) (Nat.le_of_ble_eq_true rfl) dX12_limit_5 (fun r1 σ2 q3 => ?_)
  obtain ⟨rfl, q3⟩ := q3
  rw [q3]
  refine a_if_ne C dX12_limit_8 (tgt := 13) rfl (fun _ => ?_) (fun h => absurd h (by decide))
  refine a_aload_n C dX12_limit_13 (i := 0) rfl rfl ?_
  refine a_callVv C (i := 236) kd_236 (hid 236 (by decide)) ⟨_, _, rfl⟩ (by decide) (m_copiesStill hid h_236_2 h_236_18 h_236_54 h_236_60 h_253_0 h_266_0 h_266_1 h_266_2 h_266_3 h_266_4 h_266_5 h_266_6 h_266_7 h_266_8 h_266_9 h_266_10 h_266_11 h_266_12 h_266_13 h_266_14 h_266_15 h_266_16 h_266_17 h_266_18 h_266_19 h_266_20 h_266_21 h_266_22 h_266_23 h_266_24 h_266_25 h_266_26 h_266_27 h_266_28) mi_X12_copiesStill ml_RX12_429 rfl rfl (Nat.le_of_ble_eq_true rfl) (Nat.le_of_ble_eq_true rfl) (Nat.le_of_ble_eq_true rfl) dX12_limit_14 (fun σ5 q6 => ?_)
  refine a_iconst C dX12_limit_17 (v := 0) rfl ?_
  refine a_istore_n C dX12_limit_18 (i := 2) rfl (by decide) rfl (vs1 := [some (.ref (ad 236)), some (.int p0), some (.int 0)]) rfl ?_
  have loop : ∀ (d j : Nat) (σ2 : HS), j + d = 201 → (only [267, 236] σ σ2 ∧ σ2.1 267 21 = (nI (0 + j)) ∧ σ2.1 267 22 = 0 ∧ σ2.1 267 23 = 0 ∧ σ2.1 267 25 = 0 ∧ σ2.1 267 26 = (-2) ∧ σ2.1 267 27 = 0 ∧ σ2.1 267 28 = (-1) ∧ σ2.1 236 18 = 0 ∧ σ2.1 236 54 = 0 ∧ σ2.1 236 60 = 0 ∧ σ2.1 236 2 = 0) → AW ids ad ca Γ 19 [some (.ref (ad 236)), some (.int p0), some (.int (nI j))] [] σ2 := by
    intro d
    induction d with
    | zero =>
      intro j σ2 hj hV
      refine a_iload_n C dX12_limit_19 (i := 2) rfl rfl ?_
      refine a_sipush C dX12_limit_20 (v := 200) rfl ?_
      refine a_ic_gt C dX12_limit_23 (tgt := 49) rfl (fun c7 => ?_) (fun c7 => absurd c7 (fun q => q (nI_lt (a := (200)) (b := (j)) (by omega) (by omega))))
      refine a_bipush C dX12_limit_49 (v := (-2)) rfl ?_
      exact a_iret Rt dX12_limit_51 rfl (rfl)
    | succ d ih =>
      intro j σ2 hj hV
      refine a_iload_n C dX12_limit_19 (i := 2) rfl rfl ?_
      refine a_sipush C dX12_limit_20 (v := 200) rfl ?_
      refine a_ic_gt C dX12_limit_23 (tgt := 49) rfl (fun c8 => absurd c8 (nI_nlt (a := (200)) (b := (j)) (by omega) (by omega))) (fun c8 => ?_)
      refine a_aload_n C dX12_limit_26 (i := 0) rfl rfl ?_
      refine a_get C fl_RX12_110 (i := 236) kd_236 (hid 236 (by decide)) (v := .ref (ad 267)) rfl dX12_limit_27 ?_
      refine a_bipush C dX12_limit_30 (v := 22) rfl ?_
      refine a_iald C (i := 267) 22 kd_267 (hid 267 (by decide)) (by decide) rfl (by rw [al_267]; decide) dX12_limit_32 (v := 0) hV.2.2.1 ?_
      refine a_iload_n C dX12_limit_33 (i := 1) rfl rfl ?_
      refine a_ic_lt C dX12_limit_34 (tgt := 39) rfl (fun c9 => ?_) (fun c9 => absurd c9 (fun q => q h1))
      refine a_aload_n C dX12_limit_39 (i := 0) rfl rfl ?_
      refine a_callVv C (i := 236) kd_236 (hid 236 (by decide)) ⟨_, _, rfl⟩ (by decide) (m_beatGoes hid (bt := 0 + j) hV.2.1 hV.2.2.2.2.2.2.2.2.2.2.2 hV.2.2.2.2.2.2.2.2.1 hV.2.2.2.2.2.2.2.2.2.1 hV.2.2.2.2.2.2.2.2.2.2.1 ((congrFun (hV.1.1 245 (by decide)) 0).trans h_245_0) ((congrFun (hV.1.1 252 (by decide)) 0).trans h_252_0) hV.2.2.1 hV.2.2.2.1 hV.2.2.2.2.1 hV.2.2.2.2.2.1 hV.2.2.2.2.2.2.1) mi_X12_beatGoes ml_RX12_387 rfl rfl (Nat.le_of_ble_eq_true rfl) (Nat.le_of_ble_eq_true rfl) (Nat.le_of_ble_eq_true rfl) dX12_limit_40 (fun σ11 q12 => ?_)
      refine a_iinc C dX12_limit_43 rfl (v := (nI (j + 1))) (nI_1 _) (by decide) rfl (vs1 := [some (.ref (ad 236)), some (.int p0), some (.int (nI (j + 1)))]) rfl ?_
      refine a_goto C dX12_limit_46 (tgt := 19) rfl ?_
      exact ih (j + 1) _ (by omega) ⟨(only.tr (only.tr only.rf (only.mono hV.1 (by decide))) (only.mono q12.1 (by decide))), (Eq.trans q12.2.1 (congrArg nI (show 0 + j + 1 = 0 + (j + 1) by omega))), q12.2.2.1, q12.2.2.2.1, q12.2.2.2.2.1, q12.2.2.2.2.2.1, q12.2.2.2.2.2.2.1, q12.2.2.2.2.2.2.2.1, q12.2.2.2.2.2.2.2.2.2.2.2.1, q12.2.2.2.2.2.2.2.2.2.2.2.2.1, q12.2.2.2.2.2.2.2.2.2.2.2.2.2.1, q12.2.2.2.2.2.2.2.2.2.2.2.2.2.2⟩
  exact loop (201 - 0) 0 _ (by omega) ⟨(only.tr only.rf (only.mono q6.1 (by decide))), (Eq.trans q6.2.2.2.2.2.2.2.2.2.2.2.2.2.2.2.2.2.2.2.2.2.2.1 (congrArg nI (show 0 = 0 + 0 by omega))), q6.2.2.2.2.2.2.2.2.2.2.2.2.2.2.2.2.2.2.2.2.2.2.2.1, q6.2.2.2.2.2.2.2.2.2.2.2.2.2.2.2.2.2.2.2.2.2.2.2.2.1, q6.2.2.2.2.2.2.2.2.2.2.2.2.2.2.2.2.2.2.2.2.2.2.2.2.2.2.1, q6.2.2.2.2.2.2.2.2.2.2.2.2.2.2.2.2.2.2.2.2.2.2.2.2.2.2.2.1, q6.2.2.2.2.2.2.2.2.2.2.2.2.2.2.2.2.2.2.2.2.2.2.2.2.2.2.2.2.1, q6.2.2.2.2.2.2.2.2.2.2.2.2.2.2.2.2.2.2.2.2.2.2.2.2.2.2.2.2.2.1, q6.2.2.2.2.2.2.2.2.2.2.2.2.2.2.2.2.2.2.2.2.2.2.2.2.2.2.2.2.2.2.1, q6.2.2.2.2.2.2.2.2.2.2.2.2.2.2.2.2.2.2.2.2.2.2.2.2.2.2.2.2.2.2.2.1, q6.2.2.2.2.2.2.2.2.2.2.2.2.2.2.2.2.2.2.2.2.2.2.2.2.2.2.2.2.2.2.2.2.1, q6.2.2.2.2.2.2.2.2.2.2.2.2.2.2.2.2.2.2.2.2.2.2.2.2.2.2.2.2.2.2.2.2.2⟩
theorem dX12_limit_11 : decode cX12_limit 11 = .ok (.iconst (-1), 1) := by decide +kernel
theorem dX12_limit_12 : decode cX12_limit 12 = .ok (.ireturn, 1) := by decide +kernel
set_option maxHeartbeats 4000000 in
set_option maxRecDepth 100000 in
theorem q_limit_out {l : Launch} {D : va_G} {ids : List Nat} {ad : Nat → Nat} {ca : Nat → ClassId} {σ : HS} {p0 : Int32} (hid : ∀ i, i < 277 → i ∈ ids) (ho : p0 < 0 ∨ 999 < p0) : Ki l D ids ad ca yX12_limit cX12_limit 3 .int 1 22 [.ref (ad 236), .int p0] σ (fun r _ => r = (-1)) := by
  refine Ki.of (by decide) (Nat.le_of_ble_eq_true rfl) 1 (fun Γ C Rt => ?_)
  show AW ids ad ca Γ 0 [some (.ref (ad 236)), some (.int p0), none] [] σ
  refine a_iload_n C dX12_limit_0 (i := 1) rfl rfl ?_
  refine a_iconst C dX12_limit_1 (v := 0) rfl ?_
  refine a_sipush C dX12_limit_2 (v := 999) rfl ?_
  refine a_callSi C (m_in_no hid ho) ms_X12_in ml_RX12_301 rfl rfl (Nat.le_of_ble_eq_true rfl) (Nat.le_of_ble_eq_true rfl) (Nat.le_of_ble_eq_true rfl) dX12_limit_5 (fun r1 σ2 q3 => ?_)
  obtain ⟨rfl, q3⟩ := q3
  rw [q3]
  refine a_if_ne C dX12_limit_8 (tgt := 13) rfl (fun h => absurd h (by decide)) (fun _ => ?_)
  refine a_iconst C dX12_limit_11 (v := (-1)) rfl ?_
  exact a_iret Rt dX12_limit_12 rfl (rfl)
theorem dX12_busiest_0 : decode cX12_busiest 0 = .ok (.iload_n 1, 1) := by decide +kernel
theorem dX12_busiest_1 : decode cX12_busiest 1 = .ok (.invokestatic 454, 3) := by decide +kernel
theorem dX12_busiest_4 : decode cX12_busiest 4 = .ok (.ifCond .eq 12, 3) := by decide +kernel
theorem dX12_busiest_7 : decode cX12_busiest 7 = .ok (.iload_n 2, 1) := by decide +kernel
theorem dX12_busiest_8 : decode cX12_busiest 8 = .ok (.iconst 0, 1) := by decide +kernel
theorem dX12_busiest_9 : decode cX12_busiest 9 = .ok (.iconst 1, 1) := by decide +kernel
theorem dX12_busiest_10 : decode cX12_busiest 10 = .ok (.invokestatic 301, 3) := by decide +kernel
theorem dX12_busiest_13 : decode cX12_busiest 13 = .ok (.ifCond .ne 5, 3) := by decide +kernel
theorem dX12_busiest_18 : decode cX12_busiest 18 = .ok (.aload_n 0, 1) := by decide +kernel
theorem dX12_busiest_19 : decode cX12_busiest 19 = .ok (.invokevirtual 429, 3) := by decide +kernel
theorem dX12_busiest_22 : decode cX12_busiest 22 = .ok (.iconst 0, 1) := by decide +kernel
theorem dX12_busiest_23 : decode cX12_busiest 23 = .ok (.istore_n 3, 1) := by decide +kernel
theorem dX12_busiest_24 : decode cX12_busiest 24 = .ok (.iload_n 3, 1) := by decide +kernel
theorem dX12_busiest_25 : decode cX12_busiest 25 = .ok (.bipush 7, 2) := by decide +kernel
theorem dX12_busiest_27 : decode cX12_busiest 27 = .ok (.if_icmp .ge 16, 3) := by decide +kernel
theorem dX12_busiest_30 : decode cX12_busiest 30 = .ok (.aload_n 0, 1) := by decide +kernel
theorem dX12_busiest_31 : decode cX12_busiest 31 = .ok (.getfield 122, 3) := by decide +kernel
theorem dX12_busiest_34 : decode cX12_busiest 34 = .ok (.iload_n 3, 1) := by decide +kernel
theorem dX12_busiest_35 : decode cX12_busiest 35 = .ok (.iconst 0, 1) := by decide +kernel
theorem dX12_busiest_36 : decode cX12_busiest 36 = .ok (.iastore, 1) := by decide +kernel
theorem dX12_busiest_37 : decode cX12_busiest 37 = .ok (.iinc 3 1, 3) := by decide +kernel
theorem dX12_busiest_40 : decode cX12_busiest 40 = .ok (.goto (-16), 3) := by decide +kernel
theorem dX12_busiest_43 : decode cX12_busiest 43 = .ok (.iconst 0, 1) := by decide +kernel
theorem dX12_busiest_44 : decode cX12_busiest 44 = .ok (.istore_n 3, 1) := by decide +kernel
theorem dX12_busiest_45 : decode cX12_busiest 45 = .ok (.iload_n 3, 1) := by decide +kernel
theorem dX12_busiest_46 : decode cX12_busiest 46 = .ok (.iload_n 1, 1) := by decide +kernel
theorem dX12_busiest_47 : decode cX12_busiest 47 = .ok (.if_icmp .ge 33, 3) := by decide +kernel
theorem dX12_busiest_50 : decode cX12_busiest 50 = .ok (.aload_n 0, 1) := by decide +kernel
theorem dX12_busiest_51 : decode cX12_busiest 51 = .ok (.invokevirtual 387, 3) := by decide +kernel
theorem dX12_busiest_54 : decode cX12_busiest 54 = .ok (.aload_n 0, 1) := by decide +kernel
theorem dX12_busiest_55 : decode cX12_busiest 55 = .ok (.getfield 341, 3) := by decide +kernel
theorem dX12_busiest_58 : decode cX12_busiest 58 = .ok (.ifCond .lt 16, 3) := by decide +kernel
theorem dX12_busiest_74 : decode cX12_busiest 74 = .ok (.iinc 3 1, 3) := by decide +kernel
theorem dX12_busiest_77 : decode cX12_busiest 77 = .ok (.goto (-32), 3) := by decide +kernel
theorem dX12_busiest_80 : decode cX12_busiest 80 = .ok (.iconst 0, 1) := by decide +kernel
theorem dX12_busiest_81 : decode cX12_busiest 81 = .ok (.istore_n 3, 1) := by decide +kernel
theorem dX12_busiest_82 : decode cX12_busiest 82 = .ok (.iconst 1, 1) := by decide +kernel
theorem dX12_busiest_83 : decode cX12_busiest 83 = .ok (.istore 4, 2) := by decide +kernel
theorem dX12_busiest_85 : decode cX12_busiest 85 = .ok (.iload 4, 2) := by decide +kernel
theorem dX12_busiest_87 : decode cX12_busiest 87 = .ok (.bipush 7, 2) := by decide +kernel
theorem dX12_busiest_89 : decode cX12_busiest 89 = .ok (.if_icmp .ge 28, 3) := by decide +kernel
theorem dX12_busiest_92 : decode cX12_busiest 92 = .ok (.aload_n 0, 1) := by decide +kernel
theorem dX12_busiest_93 : decode cX12_busiest 93 = .ok (.getfield 122, 3) := by decide +kernel
theorem dX12_busiest_96 : decode cX12_busiest 96 = .ok (.iload 4, 2) := by decide +kernel
theorem dX12_busiest_98 : decode cX12_busiest 98 = .ok (.iaload, 1) := by decide +kernel
theorem dX12_busiest_99 : decode cX12_busiest 99 = .ok (.aload_n 0, 1) := by decide +kernel
theorem dX12_busiest_100 : decode cX12_busiest 100 = .ok (.getfield 122, 3) := by decide +kernel
theorem dX12_busiest_103 : decode cX12_busiest 103 = .ok (.iload_n 3, 1) := by decide +kernel
theorem dX12_busiest_104 : decode cX12_busiest 104 = .ok (.iaload, 1) := by decide +kernel
theorem dX12_busiest_105 : decode cX12_busiest 105 = .ok (.if_icmp .le 6, 3) := by decide +kernel
theorem dX12_busiest_111 : decode cX12_busiest 111 = .ok (.iinc 4 1, 3) := by decide +kernel
theorem dX12_busiest_114 : decode cX12_busiest 114 = .ok (.goto (-29), 3) := by decide +kernel
theorem dX12_busiest_117 : decode cX12_busiest 117 = .ok (.aload_n 0, 1) := by decide +kernel
theorem dX12_busiest_118 : decode cX12_busiest 118 = .ok (.getfield 122, 3) := by decide +kernel
theorem dX12_busiest_121 : decode cX12_busiest 121 = .ok (.iload_n 3, 1) := by decide +kernel
theorem dX12_busiest_122 : decode cX12_busiest 122 = .ok (.iaload, 1) := by decide +kernel
theorem dX12_busiest_123 : decode cX12_busiest 123 = .ok (.ifCond .ne 8, 3) := by decide +kernel
theorem dX12_busiest_126 : decode cX12_busiest 126 = .ok (.bipush (-2), 2) := by decide +kernel
theorem dX12_busiest_128 : decode cX12_busiest 128 = .ok (.goto 17, 3) := by decide +kernel
theorem dX12_busiest_145 : decode cX12_busiest 145 = .ok (.ireturn, 1) := by decide +kernel
set_option maxHeartbeats 4000000 in
set_option maxRecDepth 100000 in
theorem q_busiest_in {l : Launch} {D : va_G} {ids : List Nat} {ad : Nat → Nat} {ca : Nat → ClassId} {σ : HS} {m : Nat} {p1 : Int32} (hid : ∀ i, i < 277 → i ∈ ids) (h1 : 1 ≤ m) (hm : m ≤ 60) (w1 : ¬ p1 < 0) (w2 : p1 ≤ 1) (h_236_2 : σ.1 236 2 = 0) (h_236_18 : σ.1 236 18 = 0) (h_236_54 : σ.1 236 54 = 0) (h_236_60 : σ.1 236 60 = 0) (h_245_0 : σ.1 245 0 = 0) (h_252_0 : σ.1 252 0 = 1) (h_253_0 : σ.1 253 0 = 0) (h_266_0 : σ.1 266 0 = 0) (h_266_1 : σ.1 266 1 = 0) (h_266_2 : σ.1 266 2 = 0) (h_266_3 : σ.1 266 3 = 0) (h_266_4 : σ.1 266 4 = 0) (h_266_5 : σ.1 266 5 = 0) (h_266_6 : σ.1 266 6 = 0) (h_266_7 : σ.1 266 7 = 0) (h_266_8 : σ.1 266 8 = 0) (h_266_9 : σ.1 266 9 = 0) (h_266_10 : σ.1 266 10 = 0) (h_266_11 : σ.1 266 11 = 0) (h_266_12 : σ.1 266 12 = 0) (h_266_13 : σ.1 266 13 = 0) (h_266_14 : σ.1 266 14 = 0) (h_266_15 : σ.1 266 15 = 0) (h_266_16 : σ.1 266 16 = 0) (h_266_17 : σ.1 266 17 = 0) (h_266_18 : σ.1 266 18 = 0) (h_266_19 : σ.1 266 19 = 0) (h_266_20 : σ.1 266 20 = 0) (h_266_21 : σ.1 266 21 = 0) (h_266_22 : σ.1 266 22 = 0) (h_266_23 : σ.1 266 23 = 0) (h_266_24 : σ.1 266 24 = 0) (h_266_25 : σ.1 266 25 = 0) (h_266_26 : σ.1 266 26 = (-2)) (h_266_27 : σ.1 266 27 = 0) (h_266_28 : σ.1 266 28 = (-1)) : Ki l D ids ad ca yX12_busiest cX12_busiest 5 .int 2 43 [.ref (ad 236), .int (nI m), .int p1] σ (fun r _ => r = (-2)) := by
  refine Ki.of (by decide) (Nat.le_of_ble_eq_true rfl) 2 (fun Γ C Rt => ?_)
  show AW ids ad ca Γ 0 [some (.ref (ad 236)), some (.int (nI m)), some (.int p1), none, none] [] σ
  refine a_iload_n C dX12_busiest_0 (i := 1) rfl rfl ?_
  refine a_callSi C (m_isSome_yes hid (by omega) (by omega)) ms_X12_isSome ml_RX12_454 rfl rfl (Nat.le_of_ble_eq_true rfl) (Nat.le_of_ble_eq_true rfl) (Nat.le_of_ble_eq_true rfl) dX12_busiest_1 (fun r1 σ2 q3 => ?_)
  obtain ⟨rfl, q3⟩ := q3
  rw [q3]
  refine a_if_eq C dX12_busiest_4 (tgt := 16) rfl (fun h => absurd h (by decide)) (fun _ => ?_)
  refine a_iload_n C dX12_busiest_7 (i := 2) rfl rfl ?_
  refine a_iconst C dX12_busiest_8 (v := 0) rfl ?_
  refine a_iconst C dX12_busiest_9 (v := 1) rfl ?_
  refine a_callSi C (m_in_yes hid w1 w2) ms_X12_in ml_RX12_301 rfl rfl (Nat.le_of_ble_eq_true rfl) (Nat.le_of_ble_eq_true rfl) (Nat.le_of_ble_eq_true rfl) dX12_busiest_10 (fun r4 σ5 q6 => ?_)
  obtain ⟨rfl, q6⟩ := q6
  rw [q6]
  refine a_if_ne C dX12_busiest_13 (tgt := 18) rfl (fun _ => ?_) (fun h => absurd h (by decide))
  refine a_aload_n C dX12_busiest_18 (i := 0) rfl rfl ?_
  refine a_callVv C (i := 236) kd_236 (hid 236 (by decide)) ⟨_, _, rfl⟩ (by decide) (m_copiesStill hid h_236_2 h_236_18 h_236_54 h_236_60 h_253_0 h_266_0 h_266_1 h_266_2 h_266_3 h_266_4 h_266_5 h_266_6 h_266_7 h_266_8 h_266_9 h_266_10 h_266_11 h_266_12 h_266_13 h_266_14 h_266_15 h_266_16 h_266_17 h_266_18 h_266_19 h_266_20 h_266_21 h_266_22 h_266_23 h_266_24 h_266_25 h_266_26 h_266_27 h_266_28) mi_X12_copiesStill ml_RX12_429 rfl rfl (Nat.le_of_ble_eq_true rfl) (Nat.le_of_ble_eq_true rfl) (Nat.le_of_ble_eq_true rfl) dX12_busiest_19 (fun σ8 q9 => ?_)
  refine a_iconst C dX12_busiest_22 (v := 0) rfl ?_
  refine a_istore_n C dX12_busiest_23 (i := 3) rfl (by decide) rfl (vs1 := [some (.ref (ad 236)), some (.int (nI m)), some (.int p1), some (.int 0), none]) rfl ?_
  refine a_iload_n C dX12_busiest_24 (i := 3) rfl rfl ?_
  refine a_bipush C dX12_busiest_25 (v := 7) rfl ?_
  refine a_ic_ge C dX12_busiest_27 (tgt := 43) rfl (fun h => absurd h (by decide)) (fun _ => ?_)
  refine a_aload_n C dX12_busiest_30 (i := 0) rfl rfl ?_
  refine a_get C fl_RX12_122 (i := 236) kd_236 (hid 236 (by decide)) (v := .ref (ad 271)) rfl dX12_busiest_31 ?_
  refine a_iload_n C dX12_busiest_34 (i := 3) rfl rfl ?_
  refine a_iconst C dX12_busiest_35 (v := 0) rfl ?_
  refine a_iast C (i := 271) 0 kd_271 (hid 271 (by decide)) (by decide) rfl (by rw [al_271]; decide) dX12_busiest_36 ?_
  refine a_iinc C dX12_busiest_37 rfl (v := 1) rfl (by decide) rfl (vs1 := [some (.ref (ad 236)), some (.int (nI m)), some (.int p1), some (.int 1), none]) rfl ?_
  refine a_goto C dX12_busiest_40 (tgt := 24) rfl ?_
  refine a_iload_n C dX12_busiest_24 (i := 3) rfl rfl ?_
  refine a_bipush C dX12_busiest_25 (v := 7) rfl ?_
  refine a_ic_ge C dX12_busiest_27 (tgt := 43) rfl (fun h => absurd h (by decide)) (fun _ => ?_)
  refine a_aload_n C dX12_busiest_30 (i := 0) rfl rfl ?_
  refine a_get C fl_RX12_122 (i := 236) kd_236 (hid 236 (by decide)) (v := .ref (ad 271)) rfl dX12_busiest_31 ?_
  refine a_iload_n C dX12_busiest_34 (i := 3) rfl rfl ?_
  refine a_iconst C dX12_busiest_35 (v := 0) rfl ?_
  refine a_iast C (i := 271) 1 kd_271 (hid 271 (by decide)) (by decide) rfl (by rw [al_271]; decide) dX12_busiest_36 ?_
  refine a_iinc C dX12_busiest_37 rfl (v := 2) rfl (by decide) rfl (vs1 := [some (.ref (ad 236)), some (.int (nI m)), some (.int p1), some (.int 2), none]) rfl ?_
  refine a_goto C dX12_busiest_40 (tgt := 24) rfl ?_
  refine a_iload_n C dX12_busiest_24 (i := 3) rfl rfl ?_
  refine a_bipush C dX12_busiest_25 (v := 7) rfl ?_
  refine a_ic_ge C dX12_busiest_27 (tgt := 43) rfl (fun h => absurd h (by decide)) (fun _ => ?_)
  refine a_aload_n C dX12_busiest_30 (i := 0) rfl rfl ?_
  refine a_get C fl_RX12_122 (i := 236) kd_236 (hid 236 (by decide)) (v := .ref (ad 271)) rfl dX12_busiest_31 ?_
  refine a_iload_n C dX12_busiest_34 (i := 3) rfl rfl ?_
  refine a_iconst C dX12_busiest_35 (v := 0) rfl ?_
  refine a_iast C (i := 271) 2 kd_271 (hid 271 (by decide)) (by decide) rfl (by rw [al_271]; decide) dX12_busiest_36 ?_
  refine a_iinc C dX12_busiest_37 rfl (v := 3) rfl (by decide) rfl (vs1 := [some (.ref (ad 236)), some (.int (nI m)), some (.int p1), some (.int 3), none]) rfl ?_
  refine a_goto C dX12_busiest_40 (tgt := 24) rfl ?_
  refine a_iload_n C dX12_busiest_24 (i := 3) rfl rfl ?_
  refine a_bipush C dX12_busiest_25 (v := 7) rfl ?_
  refine a_ic_ge C dX12_busiest_27 (tgt := 43) rfl (fun h => absurd h (by decide)) (fun _ => ?_)
  refine a_aload_n C dX12_busiest_30 (i := 0) rfl rfl ?_
  refine a_get C fl_RX12_122 (i := 236) kd_236 (hid 236 (by decide)) (v := .ref (ad 271)) rfl dX12_busiest_31 ?_
  refine a_iload_n C dX12_busiest_34 (i := 3) rfl rfl ?_
  refine a_iconst C dX12_busiest_35 (v := 0) rfl ?_
  refine a_iast C (i := 271) 3 kd_271 (hid 271 (by decide)) (by decide) rfl (by rw [al_271]; decide) dX12_busiest_36 ?_
  refine a_iinc C dX12_busiest_37 rfl (v := 4) rfl (by decide) rfl (vs1 := [some (.ref (ad 236)), some (.int (nI m)), some (.int p1), some (.int 4), none]) rfl ?_
  refine a_goto C dX12_busiest_40 (tgt := 24) rfl ?_
  refine a_iload_n C dX12_busiest_24 (i := 3) rfl rfl ?_
  refine a_bipush C dX12_busiest_25 (v := 7) rfl ?_
  refine a_ic_ge C dX12_busiest_27 (tgt := 43) rfl (fun h => absurd h (by decide)) (fun _ => ?_)
  refine a_aload_n C dX12_busiest_30 (i := 0) rfl rfl ?_
  refine a_get C fl_RX12_122 (i := 236) kd_236 (hid 236 (by decide)) (v := .ref (ad 271)) rfl dX12_busiest_31 ?_
  refine a_iload_n C dX12_busiest_34 (i := 3) rfl rfl ?_
  refine a_iconst C dX12_busiest_35 (v := 0) rfl ?_
  refine a_iast C (i := 271) 4 kd_271 (hid 271 (by decide)) (by decide) rfl (by rw [al_271]; decide) dX12_busiest_36 ?_
  refine a_iinc C dX12_busiest_37 rfl (v := 5) rfl (by decide) rfl (vs1 := [some (.ref (ad 236)), some (.int (nI m)), some (.int p1), some (.int 5), none]) rfl ?_
  refine a_goto C dX12_busiest_40 (tgt := 24) rfl ?_
  refine a_iload_n C dX12_busiest_24 (i := 3) rfl rfl ?_
  refine a_bipush C dX12_busiest_25 (v := 7) rfl ?_
  refine a_ic_ge C dX12_busiest_27 (tgt := 43) rfl (fun h => absurd h (by decide)) (fun _ => ?_)
  refine a_aload_n C dX12_busiest_30 (i := 0) rfl rfl ?_
  refine a_get C fl_RX12_122 (i := 236) kd_236 (hid 236 (by decide)) (v := .ref (ad 271)) rfl dX12_busiest_31 ?_
  refine a_iload_n C dX12_busiest_34 (i := 3) rfl rfl ?_
  refine a_iconst C dX12_busiest_35 (v := 0) rfl ?_
  refine a_iast C (i := 271) 5 kd_271 (hid 271 (by decide)) (by decide) rfl (by rw [al_271]; decide) dX12_busiest_36 ?_
  refine a_iinc C dX12_busiest_37 rfl (v := 6) rfl (by decide) rfl (vs1 := [some (.ref (ad 236)), some (.int (nI m)), some (.int p1), some (.int 6), none]) rfl ?_
  refine a_goto C dX12_busiest_40 (tgt := 24) rfl ?_
  refine a_iload_n C dX12_busiest_24 (i := 3) rfl rfl ?_
  refine a_bipush C dX12_busiest_25 (v := 7) rfl ?_
  refine a_ic_ge C dX12_busiest_27 (tgt := 43) rfl (fun h => absurd h (by decide)) (fun _ => ?_)
  refine a_aload_n C dX12_busiest_30 (i := 0) rfl rfl ?_
  refine a_get C fl_RX12_122 (i := 236) kd_236 (hid 236 (by decide)) (v := .ref (ad 271)) rfl dX12_busiest_31 ?_
  refine a_iload_n C dX12_busiest_34 (i := 3) rfl rfl ?_
  refine a_iconst C dX12_busiest_35 (v := 0) rfl ?_
  refine a_iast C (i := 271) 6 kd_271 (hid 271 (by decide)) (by decide) rfl (by rw [al_271]; decide) dX12_busiest_36 ?_
  refine a_iinc C dX12_busiest_37 rfl (v := 7) rfl (by decide) rfl (vs1 := [some (.ref (ad 236)), some (.int (nI m)), some (.int p1), some (.int 7), none]) rfl ?_
  refine a_goto C dX12_busiest_40 (tgt := 24) rfl ?_
  refine a_iload_n C dX12_busiest_24 (i := 3) rfl rfl ?_
  refine a_bipush C dX12_busiest_25 (v := 7) rfl ?_
  refine a_ic_ge C dX12_busiest_27 (tgt := 43) rfl (fun _ => ?_) (fun h => absurd h (by decide))
  refine a_iconst C dX12_busiest_43 (v := 0) rfl ?_
  refine a_istore_n C dX12_busiest_44 (i := 3) rfl (by decide) rfl (vs1 := [some (.ref (ad 236)), some (.int (nI m)), some (.int p1), some (.int 0), none]) rfl ?_
  have loop : ∀ (d j : Nat) (σ2 : HS), j + d = m → (only [267, 236, 271] σ σ2 ∧ σ2.1 267 21 = (nI (0 + j)) ∧ σ2.1 267 22 = 0 ∧ σ2.1 267 23 = 0 ∧ σ2.1 267 25 = 0 ∧ σ2.1 267 26 = (-2) ∧ σ2.1 267 27 = 0 ∧ σ2.1 267 28 = (-1) ∧ σ2.1 271 0 = 0 ∧ σ2.1 271 1 = 0 ∧ σ2.1 271 2 = 0 ∧ σ2.1 271 3 = 0 ∧ σ2.1 271 4 = 0 ∧ σ2.1 271 5 = 0 ∧ σ2.1 271 6 = 0 ∧ σ2.1 236 18 = 0 ∧ σ2.1 236 54 = 0 ∧ σ2.1 236 60 = 0 ∧ σ2.1 236 2 = 0) → AW ids ad ca Γ 45 [some (.ref (ad 236)), some (.int (nI m)), some (.int p1), some (.int (nI j)), none] [] σ2 := by
    intro d
    induction d with
    | zero =>
      intro j σ2 hj hV
      refine a_iload_n C dX12_busiest_45 (i := 3) rfl rfl ?_
      refine a_iload_n C dX12_busiest_46 (i := 1) rfl rfl ?_
      refine a_ic_ge C dX12_busiest_47 (tgt := 80) rfl (fun c10 => ?_) (fun c10 => absurd c10 (fun q => q (nI_le (a := (m)) (b := (j)) (by omega) (by omega))))
      refine a_iconst C dX12_busiest_80 (v := 0) rfl ?_
      refine a_istore_n C dX12_busiest_81 (i := 3) rfl (by decide) rfl (vs1 := [some (.ref (ad 236)), some (.int (nI m)), some (.int p1), some (.int 0), none]) rfl ?_
      refine a_iconst C dX12_busiest_82 (v := 1) rfl ?_
      refine a_istore C dX12_busiest_83 (by decide) rfl (vs1 := [some (.ref (ad 236)), some (.int (nI m)), some (.int p1), some (.int 0), some (.int 1)]) rfl ?_
      refine a_iload C dX12_busiest_85 rfl ?_
      refine a_bipush C dX12_busiest_87 (v := 7) rfl ?_
      refine a_ic_ge C dX12_busiest_89 (tgt := 117) rfl (fun h => absurd h (by decide)) (fun _ => ?_)
      refine a_aload_n C dX12_busiest_92 (i := 0) rfl rfl ?_
      refine a_get C fl_RX12_122 (i := 236) kd_236 (hid 236 (by decide)) (v := .ref (ad 271)) rfl dX12_busiest_93 ?_
      refine a_iload C dX12_busiest_96 rfl ?_
      refine a_iald C (i := 271) 1 kd_271 (hid 271 (by decide)) (by decide) rfl (by rw [al_271]; decide) dX12_busiest_98 (v := 0) hV.2.2.2.2.2.2.2.2.2.1 ?_
      refine a_aload_n C dX12_busiest_99 (i := 0) rfl rfl ?_
      refine a_get C fl_RX12_122 (i := 236) kd_236 (hid 236 (by decide)) (v := .ref (ad 271)) rfl dX12_busiest_100 ?_
      refine a_iload_n C dX12_busiest_103 (i := 3) rfl rfl ?_
      refine a_iald C (i := 271) 0 kd_271 (hid 271 (by decide)) (by decide) rfl (by rw [al_271]; decide) dX12_busiest_104 (v := 0) hV.2.2.2.2.2.2.2.2.1 ?_
      refine a_ic_le C dX12_busiest_105 (tgt := 111) rfl (fun _ => ?_) (fun h => absurd h (by decide))
      refine a_iinc C dX12_busiest_111 rfl (v := 2) rfl (by decide) rfl (vs1 := [some (.ref (ad 236)), some (.int (nI m)), some (.int p1), some (.int 0), some (.int 2)]) rfl ?_
      refine a_goto C dX12_busiest_114 (tgt := 85) rfl ?_
      refine a_iload C dX12_busiest_85 rfl ?_
      refine a_bipush C dX12_busiest_87 (v := 7) rfl ?_
      refine a_ic_ge C dX12_busiest_89 (tgt := 117) rfl (fun h => absurd h (by decide)) (fun _ => ?_)
      refine a_aload_n C dX12_busiest_92 (i := 0) rfl rfl ?_
      refine a_get C fl_RX12_122 (i := 236) kd_236 (hid 236 (by decide)) (v := .ref (ad 271)) rfl dX12_busiest_93 ?_
      refine a_iload C dX12_busiest_96 rfl ?_
      refine a_iald C (i := 271) 2 kd_271 (hid 271 (by decide)) (by decide) rfl (by rw [al_271]; decide) dX12_busiest_98 (v := 0) hV.2.2.2.2.2.2.2.2.2.2.1 ?_
      refine a_aload_n C dX12_busiest_99 (i := 0) rfl rfl ?_
      refine a_get C fl_RX12_122 (i := 236) kd_236 (hid 236 (by decide)) (v := .ref (ad 271)) rfl dX12_busiest_100 ?_
      refine a_iload_n C dX12_busiest_103 (i := 3) rfl rfl ?_
      refine a_iald C (i := 271) 0 kd_271 (hid 271 (by decide)) (by decide) rfl (by rw [al_271]; decide) dX12_busiest_104 (v := 0) hV.2.2.2.2.2.2.2.2.1 ?_
      refine a_ic_le C dX12_busiest_105 (tgt := 111) rfl (fun _ => ?_) (fun h => absurd h (by decide))
      refine a_iinc C dX12_busiest_111 rfl (v := 3) rfl (by decide) rfl (vs1 := [some (.ref (ad 236)), some (.int (nI m)), some (.int p1), some (.int 0), some (.int 3)]) rfl ?_
      refine a_goto C dX12_busiest_114 (tgt := 85) rfl ?_
      refine a_iload C dX12_busiest_85 rfl ?_
      refine a_bipush C dX12_busiest_87 (v := 7) rfl ?_
      refine a_ic_ge C dX12_busiest_89 (tgt := 117) rfl (fun h => absurd h (by decide)) (fun _ => ?_)
      refine a_aload_n C dX12_busiest_92 (i := 0) rfl rfl ?_
      refine a_get C fl_RX12_122 (i := 236) kd_236 (hid 236 (by decide)) (v := .ref (ad 271)) rfl dX12_busiest_93 ?_
      refine a_iload C dX12_busiest_96 rfl ?_
      refine a_iald C (i := 271) 3 kd_271 (hid 271 (by decide)) (by decide) rfl (by rw [al_271]; decide) dX12_busiest_98 (v := 0) hV.2.2.2.2.2.2.2.2.2.2.2.1 ?_
      refine a_aload_n C dX12_busiest_99 (i := 0) rfl rfl ?_
      refine a_get C fl_RX12_122 (i := 236) kd_236 (hid 236 (by decide)) (v := .ref (ad 271)) rfl dX12_busiest_100 ?_
      refine a_iload_n C dX12_busiest_103 (i := 3) rfl rfl ?_
      refine a_iald C (i := 271) 0 kd_271 (hid 271 (by decide)) (by decide) rfl (by rw [al_271]; decide) dX12_busiest_104 (v := 0) hV.2.2.2.2.2.2.2.2.1 ?_
      refine a_ic_le C dX12_busiest_105 (tgt := 111) rfl (fun _ => ?_) (fun h => absurd h (by decide))
      refine a_iinc C dX12_busiest_111 rfl (v := 4) rfl (by decide) rfl (vs1 := [some (.ref (ad 236)), some (.int (nI m)), some (.int p1), some (.int 0), some (.int 4)]) rfl ?_
      refine a_goto C dX12_busiest_114 (tgt := 85) rfl ?_
      refine a_iload C dX12_busiest_85 rfl ?_
      refine a_bipush C dX12_busiest_87 (v := 7) rfl ?_
      refine a_ic_ge C dX12_busiest_89 (tgt := 117) rfl (fun h => absurd h (by decide)) (fun _ => ?_)
      refine a_aload_n C dX12_busiest_92 (i := 0) rfl rfl ?_
      refine a_get C fl_RX12_122 (i := 236) kd_236 (hid 236 (by decide)) (v := .ref (ad 271)) rfl dX12_busiest_93 ?_
      refine a_iload C dX12_busiest_96 rfl ?_
      refine a_iald C (i := 271) 4 kd_271 (hid 271 (by decide)) (by decide) rfl (by rw [al_271]; decide) dX12_busiest_98 (v := 0) hV.2.2.2.2.2.2.2.2.2.2.2.2.1 ?_
      refine a_aload_n C dX12_busiest_99 (i := 0) rfl rfl ?_
      refine a_get C fl_RX12_122 (i := 236) kd_236 (hid 236 (by decide)) (v := .ref (ad 271)) rfl dX12_busiest_100 ?_
      refine a_iload_n C dX12_busiest_103 (i := 3) rfl rfl ?_
      refine a_iald C (i := 271) 0 kd_271 (hid 271 (by decide)) (by decide) rfl (by rw [al_271]; decide) dX12_busiest_104 (v := 0) hV.2.2.2.2.2.2.2.2.1 ?_
      refine a_ic_le C dX12_busiest_105 (tgt := 111) rfl (fun _ => ?_) (fun h => absurd h (by decide))
      refine a_iinc C dX12_busiest_111 rfl (v := 5) rfl (by decide) rfl (vs1 := [some (.ref (ad 236)), some (.int (nI m)), some (.int p1), some (.int 0), some (.int 5)]) rfl ?_
      refine a_goto C dX12_busiest_114 (tgt := 85) rfl ?_
      refine a_iload C dX12_busiest_85 rfl ?_
      refine a_bipush C dX12_busiest_87 (v := 7) rfl ?_
      refine a_ic_ge C dX12_busiest_89 (tgt := 117) rfl (fun h => absurd h (by decide)) (fun _ => ?_)
      refine a_aload_n C dX12_busiest_92 (i := 0) rfl rfl ?_
      refine a_get C fl_RX12_122 (i := 236) kd_236 (hid 236 (by decide)) (v := .ref (ad 271)) rfl dX12_busiest_93 ?_
      refine a_iload C dX12_busiest_96 rfl ?_
      refine a_iald C (i := 271) 5 kd_271 (hid 271 (by decide)) (by decide) rfl (by rw [al_271]; decide) dX12_busiest_98 (v := 0) hV.2.2.2.2.2.2.2.2.2.2.2.2.2.1 ?_
      refine a_aload_n C dX12_busiest_99 (i := 0) rfl rfl ?_
      refine a_get C fl_RX12_122 (i := 236) kd_236 (hid 236 (by decide)) (v := .ref (ad 271)) rfl dX12_busiest_100 ?_
      refine a_iload_n C dX12_busiest_103 (i := 3) rfl rfl ?_
      refine a_iald C (i := 271) 0 kd_271 (hid 271 (by decide)) (by decide) rfl (by rw [al_271]; decide) dX12_busiest_104 (v := 0) hV.2.2.2.2.2.2.2.2.1 ?_
      refine a_ic_le C dX12_busiest_105 (tgt := 111) rfl (fun _ => ?_) (fun h => absurd h (by decide))
      refine a_iinc C dX12_busiest_111 rfl (v := 6) rfl (by decide) rfl (vs1 := [some (.ref (ad 236)), some (.int (nI m)), some (.int p1), some (.int 0), some (.int 6)]) rfl ?_
      refine a_goto C dX12_busiest_114 (tgt := 85) rfl ?_
      refine a_iload C dX12_busiest_85 rfl ?_
      refine a_bipush C dX12_busiest_87 (v := 7) rfl ?_
      refine a_ic_ge C dX12_busiest_89 (tgt := 117) rfl (fun h => absurd h (by decide)) (fun _ => ?_)
      refine a_aload_n C dX12_busiest_92 (i := 0) rfl rfl ?_
      refine a_get C fl_RX12_122 (i := 236) kd_236 (hid 236 (by decide)) (v := .ref (ad 271)) rfl dX12_busiest_93 ?_
      refine a_iload C dX12_busiest_96 rfl ?_
      refine a_iald C (i := 271) 6 kd_271 (hid 271 (by decide)) (by decide) rfl (by rw [al_271]; decide) dX12_busiest_98 (v := 0) hV.2.2.2.2.2.2.2.2.2.2.2.2.2.2.1 ?_
      refine a_aload_n C dX12_busiest_99 (i := 0) rfl rfl ?_
      refine a_get C fl_RX12_122 (i := 236) kd_236 (hid 236 (by decide)) (v := .ref (ad 271)) rfl dX12_busiest_100 ?_
      refine a_iload_n C dX12_busiest_103 (i := 3) rfl rfl ?_
      refine a_iald C (i := 271) 0 kd_271 (hid 271 (by decide)) (by decide) rfl (by rw [al_271]; decide) dX12_busiest_104 (v := 0) hV.2.2.2.2.2.2.2.2.1 ?_
      refine a_ic_le C dX12_busiest_105 (tgt := 111) rfl (fun _ => ?_) (fun h => absurd h (by decide))
      refine a_iinc C dX12_busiest_111 rfl (v := 7) rfl (by decide) rfl (vs1 := [some (.ref (ad 236)), some (.int (nI m)), some (.int p1), some (.int 0), some (.int 7)]) rfl ?_
      refine a_goto C dX12_busiest_114 (tgt := 85) rfl ?_
      refine a_iload C dX12_busiest_85 rfl ?_
      refine a_bipush C dX12_busiest_87 (v := 7) rfl ?_
      refine a_ic_ge C dX12_busiest_89 (tgt := 117) rfl (fun _ => ?_) (fun h => absurd h (by decide))
      refine a_aload_n C dX12_busiest_117 (i := 0) rfl rfl ?_
      refine a_get C fl_RX12_122 (i := 236) kd_236 (hid 236 (by decide)) (v := .ref (ad 271)) rfl dX12_busiest_118 ?_
      refine a_iload_n C dX12_busiest_121 (i := 3) rfl rfl ?_
      refine a_iald C (i := 271) 0 kd_271 (hid 271 (by decide)) (by decide) rfl (by rw [al_271]; decide) dX12_busiest_122 (v := 0) hV.2.2.2.2.2.2.2.2.1 ?_
      refine a_if_ne C dX12_busiest_123 (tgt := 131) rfl (fun h => absurd h (by decide)) (fun _ => ?_)
      refine a_bipush C dX12_busiest_126 (v := (-2)) rfl ?_
      refine a_goto C dX12_busiest_128 (tgt := 145) rfl ?_
      exact a_iret Rt dX12_busiest_145 rfl (rfl)
    | succ d ih =>
      intro j σ2 hj hV
      refine a_iload_n C dX12_busiest_45 (i := 3) rfl rfl ?_
      refine a_iload_n C dX12_busiest_46 (i := 1) rfl rfl ?_
      refine a_ic_ge C dX12_busiest_47 (tgt := 80) rfl (fun c11 => absurd c11 (nI_ge (a := (j)) (b := (m)) (by omega) (by omega))) (fun c11 => ?_)
      refine a_aload_n C dX12_busiest_50 (i := 0) rfl rfl ?_
      refine a_callVv C (i := 236) kd_236 (hid 236 (by decide)) ⟨_, _, rfl⟩ (by decide) (m_beatGoes hid (bt := 0 + j) hV.2.1 hV.2.2.2.2.2.2.2.2.2.2.2.2.2.2.2.2.2.2 hV.2.2.2.2.2.2.2.2.2.2.2.2.2.2.2.1 hV.2.2.2.2.2.2.2.2.2.2.2.2.2.2.2.2.1 hV.2.2.2.2.2.2.2.2.2.2.2.2.2.2.2.2.2.1 ((congrFun (hV.1.1 245 (by decide)) 0).trans h_245_0) ((congrFun (hV.1.1 252 (by decide)) 0).trans h_252_0) hV.2.2.1 hV.2.2.2.1 hV.2.2.2.2.1 hV.2.2.2.2.2.1 hV.2.2.2.2.2.2.1) mi_X12_beatGoes ml_RX12_387 rfl rfl (Nat.le_of_ble_eq_true rfl) (Nat.le_of_ble_eq_true rfl) (Nat.le_of_ble_eq_true rfl) dX12_busiest_51 (fun σ13 q14 => ?_)
      refine a_aload_n C dX12_busiest_54 (i := 0) rfl rfl ?_
      refine a_get C fl_RX12_341 (i := 236) kd_236 (hid 236 (by decide)) (v := .int (-2)) (congrArg (fun z => some (Value.int z)) q14.2.2.2.2.2.2.2.2.1) dX12_busiest_55 ?_
      refine a_if_lt C dX12_busiest_58 (tgt := 74) rfl (fun _ => ?_) (fun h => absurd h (by decide))
      refine a_iinc C dX12_busiest_74 rfl (v := (nI (j + 1))) (nI_1 _) (by decide) rfl (vs1 := [some (.ref (ad 236)), some (.int (nI m)), some (.int p1), some (.int (nI (j + 1))), none]) rfl ?_
      refine a_goto C dX12_busiest_77 (tgt := 45) rfl ?_
      exact ih (j + 1) _ (by omega) ⟨(only.tr (only.tr only.rf (only.mono hV.1 (by decide))) (only.mono q14.1 (by decide))), (Eq.trans q14.2.1 (congrArg nI (show 0 + j + 1 = 0 + (j + 1) by omega))), q14.2.2.1, q14.2.2.2.1, q14.2.2.2.2.1, q14.2.2.2.2.2.1, q14.2.2.2.2.2.2.1, q14.2.2.2.2.2.2.2.1, ((congrFun (q14.1.1 271 (by decide)) 0).trans hV.2.2.2.2.2.2.2.2.1), ((congrFun (q14.1.1 271 (by decide)) 1).trans hV.2.2.2.2.2.2.2.2.2.1), ((congrFun (q14.1.1 271 (by decide)) 2).trans hV.2.2.2.2.2.2.2.2.2.2.1), ((congrFun (q14.1.1 271 (by decide)) 3).trans hV.2.2.2.2.2.2.2.2.2.2.2.1), ((congrFun (q14.1.1 271 (by decide)) 4).trans hV.2.2.2.2.2.2.2.2.2.2.2.2.1), ((congrFun (q14.1.1 271 (by decide)) 5).trans hV.2.2.2.2.2.2.2.2.2.2.2.2.2.1), ((congrFun (q14.1.1 271 (by decide)) 6).trans hV.2.2.2.2.2.2.2.2.2.2.2.2.2.2.1), q14.2.2.2.2.2.2.2.2.2.2.2.1, q14.2.2.2.2.2.2.2.2.2.2.2.2.1, q14.2.2.2.2.2.2.2.2.2.2.2.2.2.1, q14.2.2.2.2.2.2.2.2.2.2.2.2.2.2⟩
  exact loop (m - 0) 0 _ (by omega) ⟨(only.I (only.I (only.I (only.I (only.I (only.I (only.I (only.tr only.rf (only.mono q9.1 (by decide))) (by decide)) (by decide)) (by decide)) (by decide)) (by decide)) (by decide)) (by decide)), (Eq.trans q9.2.2.2.2.2.2.2.2.2.2.2.2.2.2.2.2.2.2.2.2.2.2.1 (congrArg nI (show 0 = 0 + 0 by omega))), q9.2.2.2.2.2.2.2.2.2.2.2.2.2.2.2.2.2.2.2.2.2.2.2.1, q9.2.2.2.2.2.2.2.2.2.2.2.2.2.2.2.2.2.2.2.2.2.2.2.2.1, q9.2.2.2.2.2.2.2.2.2.2.2.2.2.2.2.2.2.2.2.2.2.2.2.2.2.2.1, q9.2.2.2.2.2.2.2.2.2.2.2.2.2.2.2.2.2.2.2.2.2.2.2.2.2.2.2.1, q9.2.2.2.2.2.2.2.2.2.2.2.2.2.2.2.2.2.2.2.2.2.2.2.2.2.2.2.2.1, q9.2.2.2.2.2.2.2.2.2.2.2.2.2.2.2.2.2.2.2.2.2.2.2.2.2.2.2.2.2.1, rfl, rfl, rfl, rfl, rfl, rfl, rfl, q9.2.2.2.2.2.2.2.2.2.2.2.2.2.2.2.2.2.2.2.2.2.2.2.2.2.2.2.2.2.2.1, q9.2.2.2.2.2.2.2.2.2.2.2.2.2.2.2.2.2.2.2.2.2.2.2.2.2.2.2.2.2.2.2.1, q9.2.2.2.2.2.2.2.2.2.2.2.2.2.2.2.2.2.2.2.2.2.2.2.2.2.2.2.2.2.2.2.2.1, q9.2.2.2.2.2.2.2.2.2.2.2.2.2.2.2.2.2.2.2.2.2.2.2.2.2.2.2.2.2.2.2.2.2⟩
theorem dX12_busiest_16 : decode cX12_busiest 16 = .ok (.iconst (-1), 1) := by decide +kernel
theorem dX12_busiest_17 : decode cX12_busiest 17 = .ok (.ireturn, 1) := by decide +kernel
set_option maxHeartbeats 4000000 in
set_option maxRecDepth 100000 in
theorem q_busiest_w {l : Launch} {D : va_G} {ids : List Nat} {ad : Nat → Nat} {ca : Nat → ClassId} {σ : HS} {m : Nat} {p1 : Int32} (hid : ∀ i, i < 277 → i ∈ ids) (h1 : 1 ≤ m) (hm : m ≤ 60) (ho : p1 < 0 ∨ 1 < p1) : Ki l D ids ad ca yX12_busiest cX12_busiest 5 .int 2 42 [.ref (ad 236), .int (nI m), .int p1] σ (fun r _ => r = (-1)) := by
  refine Ki.of (by decide) (Nat.le_of_ble_eq_true rfl) 2 (fun Γ C Rt => ?_)
  show AW ids ad ca Γ 0 [some (.ref (ad 236)), some (.int (nI m)), some (.int p1), none, none] [] σ
  refine a_iload_n C dX12_busiest_0 (i := 1) rfl rfl ?_
  refine a_callSi C (m_isSome_yes hid (by omega) (by omega)) ms_X12_isSome ml_RX12_454 rfl rfl (Nat.le_of_ble_eq_true rfl) (Nat.le_of_ble_eq_true rfl) (Nat.le_of_ble_eq_true rfl) dX12_busiest_1 (fun r1 σ2 q3 => ?_)
  obtain ⟨rfl, q3⟩ := q3
  rw [q3]
  refine a_if_eq C dX12_busiest_4 (tgt := 16) rfl (fun h => absurd h (by decide)) (fun _ => ?_)
  refine a_iload_n C dX12_busiest_7 (i := 2) rfl rfl ?_
  refine a_iconst C dX12_busiest_8 (v := 0) rfl ?_
  refine a_iconst C dX12_busiest_9 (v := 1) rfl ?_
  refine a_callSi C (m_in_no hid ho) ms_X12_in ml_RX12_301 rfl rfl (Nat.le_of_ble_eq_true rfl) (Nat.le_of_ble_eq_true rfl) (Nat.le_of_ble_eq_true rfl) dX12_busiest_10 (fun r4 σ5 q6 => ?_)
  obtain ⟨rfl, q6⟩ := q6
  rw [q6]
  refine a_if_ne C dX12_busiest_13 (tgt := 18) rfl (fun h => absurd h (by decide)) (fun _ => ?_)
  refine a_iconst C dX12_busiest_16 (v := (-1)) rfl ?_
  exact a_iret Rt dX12_busiest_17 rfl (rfl)
set_option maxHeartbeats 4000000 in
set_option maxRecDepth 100000 in
theorem q_busiest_out {l : Launch} {D : va_G} {ids : List Nat} {ad : Nat → Nat} {ca : Nat → ClassId} {σ : HS} {p0 : Int32} {p1 : Int32} (hid : ∀ i, i < 277 → i ∈ ids) (ho : p0 < 1 ∨ 60 < p0) : Ki l D ids ad ca yX12_busiest cX12_busiest 5 .int 2 42 [.ref (ad 236), .int p0, .int p1] σ (fun r _ => r = (-1)) := by
  refine Ki.of (by decide) (Nat.le_of_ble_eq_true rfl) 2 (fun Γ C Rt => ?_)
  show AW ids ad ca Γ 0 [some (.ref (ad 236)), some (.int p0), some (.int p1), none, none] [] σ
  refine a_iload_n C dX12_busiest_0 (i := 1) rfl rfl ?_
  refine a_callSi C (m_isSome_no hid ho) ms_X12_isSome ml_RX12_454 rfl rfl (Nat.le_of_ble_eq_true rfl) (Nat.le_of_ble_eq_true rfl) (Nat.le_of_ble_eq_true rfl) dX12_busiest_1 (fun r1 σ2 q3 => ?_)
  obtain ⟨rfl, q3⟩ := q3
  rw [q3]
  refine a_if_eq C dX12_busiest_4 (tgt := 16) rfl (fun _ => ?_) (fun h => absurd h (by decide))
  refine a_iconst C dX12_busiest_16 (v := (-1)) rfl ?_
  exact a_iret Rt dX12_busiest_17 rfl (rfl)
theorem dX12_load_0 : decode cX12_load 0 = .ok (.iload_n 1, 1) := by decide +kernel
theorem dX12_load_1 : decode cX12_load 1 = .ok (.invokestatic 454, 3) := by decide +kernel
theorem dX12_load_4 : decode cX12_load 4 = .ok (.ifCond .ne 5, 3) := by decide +kernel
theorem dX12_load_9 : decode cX12_load 9 = .ok (.aload_n 0, 1) := by decide +kernel
theorem dX12_load_10 : decode cX12_load 10 = .ok (.invokevirtual 429, 3) := by decide +kernel
theorem dX12_load_13 : decode cX12_load 13 = .ok (.iconst 0, 1) := by decide +kernel
theorem dX12_load_14 : decode cX12_load 14 = .ok (.istore_n 2, 1) := by decide +kernel
theorem dX12_load_15 : decode cX12_load 15 = .ok (.iconst 0, 1) := by decide +kernel
theorem dX12_load_16 : decode cX12_load 16 = .ok (.istore_n 3, 1) := by decide +kernel
theorem dX12_load_17 : decode cX12_load 17 = .ok (.iload_n 3, 1) := by decide +kernel
theorem dX12_load_18 : decode cX12_load 18 = .ok (.iload_n 1, 1) := by decide +kernel
theorem dX12_load_19 : decode cX12_load 19 = .ok (.if_icmp .ge 40, 3) := by decide +kernel
theorem dX12_load_22 : decode cX12_load 22 = .ok (.aload_n 0, 1) := by decide +kernel
theorem dX12_load_23 : decode cX12_load 23 = .ok (.invokevirtual 387, 3) := by decide +kernel
theorem dX12_load_26 : decode cX12_load 26 = .ok (.aload_n 0, 1) := by decide +kernel
theorem dX12_load_27 : decode cX12_load 27 = .ok (.getfield 341, 3) := by decide +kernel
theorem dX12_load_30 : decode cX12_load 30 = .ok (.ifCond .lt 23, 3) := by decide +kernel
theorem dX12_load_53 : decode cX12_load 53 = .ok (.iinc 3 1, 3) := by decide +kernel
theorem dX12_load_56 : decode cX12_load 56 = .ok (.goto (-39), 3) := by decide +kernel
theorem dX12_load_59 : decode cX12_load 59 = .ok (.iload_n 2, 1) := by decide +kernel
theorem dX12_load_60 : decode cX12_load 60 = .ok (.ireturn, 1) := by decide +kernel
set_option maxHeartbeats 4000000 in
set_option maxRecDepth 100000 in
theorem q_load_in {l : Launch} {D : va_G} {ids : List Nat} {ad : Nat → Nat} {ca : Nat → ClassId} {σ : HS} {m : Nat} (hid : ∀ i, i < 277 → i ∈ ids) (h1 : 1 ≤ m) (hm : m ≤ 60) (h_236_2 : σ.1 236 2 = 0) (h_236_18 : σ.1 236 18 = 0) (h_236_54 : σ.1 236 54 = 0) (h_236_60 : σ.1 236 60 = 0) (h_245_0 : σ.1 245 0 = 0) (h_252_0 : σ.1 252 0 = 1) (h_253_0 : σ.1 253 0 = 0) (h_266_0 : σ.1 266 0 = 0) (h_266_1 : σ.1 266 1 = 0) (h_266_2 : σ.1 266 2 = 0) (h_266_3 : σ.1 266 3 = 0) (h_266_4 : σ.1 266 4 = 0) (h_266_5 : σ.1 266 5 = 0) (h_266_6 : σ.1 266 6 = 0) (h_266_7 : σ.1 266 7 = 0) (h_266_8 : σ.1 266 8 = 0) (h_266_9 : σ.1 266 9 = 0) (h_266_10 : σ.1 266 10 = 0) (h_266_11 : σ.1 266 11 = 0) (h_266_12 : σ.1 266 12 = 0) (h_266_13 : σ.1 266 13 = 0) (h_266_14 : σ.1 266 14 = 0) (h_266_15 : σ.1 266 15 = 0) (h_266_16 : σ.1 266 16 = 0) (h_266_17 : σ.1 266 17 = 0) (h_266_18 : σ.1 266 18 = 0) (h_266_19 : σ.1 266 19 = 0) (h_266_20 : σ.1 266 20 = 0) (h_266_21 : σ.1 266 21 = 0) (h_266_22 : σ.1 266 22 = 0) (h_266_23 : σ.1 266 23 = 0) (h_266_24 : σ.1 266 24 = 0) (h_266_25 : σ.1 266 25 = 0) (h_266_26 : σ.1 266 26 = (-2)) (h_266_27 : σ.1 266 27 = 0) (h_266_28 : σ.1 266 28 = (-1)) : Ki l D ids ad ca yX12_load cX12_load 4 .int 2 43 [.ref (ad 236), .int (nI m)] σ (fun r _ => r = 0) := by
  refine Ki.of (by decide) (Nat.le_of_ble_eq_true rfl) 2 (fun Γ C Rt => ?_)
  show AW ids ad ca Γ 0 [some (.ref (ad 236)), some (.int (nI m)), none, none] [] σ
  refine a_iload_n C dX12_load_0 (i := 1) rfl rfl ?_
  refine a_callSi C (m_isSome_yes hid (by omega) (by omega)) ms_X12_isSome ml_RX12_454 rfl rfl (Nat.le_of_ble_eq_true rfl) (Nat.le_of_ble_eq_true rfl) (Nat.le_of_ble_eq_true rfl) dX12_load_1 (fun r1 σ2 q3 => ?_)
  obtain ⟨rfl, q3⟩ := q3
  rw [q3]
  refine a_if_ne C dX12_load_4 (tgt := 9) rfl (fun _ => ?_) (fun h => absurd h (by decide))
  refine a_aload_n C dX12_load_9 (i := 0) rfl rfl ?_
  refine a_callVv C (i := 236) kd_236 (hid 236 (by decide)) ⟨_, _, rfl⟩ (by decide) (m_copiesStill hid h_236_2 h_236_18 h_236_54 h_236_60 h_253_0 h_266_0 h_266_1 h_266_2 h_266_3 h_266_4 h_266_5 h_266_6 h_266_7 h_266_8 h_266_9 h_266_10 h_266_11 h_266_12 h_266_13 h_266_14 h_266_15 h_266_16 h_266_17 h_266_18 h_266_19 h_266_20 h_266_21 h_266_22 h_266_23 h_266_24 h_266_25 h_266_26 h_266_27 h_266_28) mi_X12_copiesStill ml_RX12_429 rfl rfl (Nat.le_of_ble_eq_true rfl) (Nat.le_of_ble_eq_true rfl) (Nat.le_of_ble_eq_true rfl) dX12_load_10 (fun σ5 q6 => ?_)
  refine a_iconst C dX12_load_13 (v := 0) rfl ?_
  refine a_istore_n C dX12_load_14 (i := 2) rfl (by decide) rfl (vs1 := [some (.ref (ad 236)), some (.int (nI m)), some (.int 0), none]) rfl ?_
  refine a_iconst C dX12_load_15 (v := 0) rfl ?_
  refine a_istore_n C dX12_load_16 (i := 3) rfl (by decide) rfl (vs1 := [some (.ref (ad 236)), some (.int (nI m)), some (.int 0), some (.int 0)]) rfl ?_
  have loop : ∀ (d j : Nat) (σ2 : HS), j + d = m → (only [267, 236] σ σ2 ∧ σ2.1 267 21 = (nI (0 + j)) ∧ σ2.1 267 22 = 0 ∧ σ2.1 267 23 = 0 ∧ σ2.1 267 25 = 0 ∧ σ2.1 267 26 = (-2) ∧ σ2.1 267 27 = 0 ∧ σ2.1 267 28 = (-1) ∧ σ2.1 236 18 = 0 ∧ σ2.1 236 54 = 0 ∧ σ2.1 236 60 = 0 ∧ σ2.1 236 2 = 0) → AW ids ad ca Γ 17 [some (.ref (ad 236)), some (.int (nI m)), some (.int 0), some (.int (nI j))] [] σ2 := by
    intro d
    induction d with
    | zero =>
      intro j σ2 hj hV
      refine a_iload_n C dX12_load_17 (i := 3) rfl rfl ?_
      refine a_iload_n C dX12_load_18 (i := 1) rfl rfl ?_
      refine a_ic_ge C dX12_load_19 (tgt := 59) rfl (fun c7 => ?_) (fun c7 => absurd c7 (fun q => q (nI_le (a := (m)) (b := (j)) (by omega) (by omega))))
      refine a_iload_n C dX12_load_59 (i := 2) rfl rfl ?_
      exact a_iret Rt dX12_load_60 rfl (rfl)
    | succ d ih =>
      intro j σ2 hj hV
      refine a_iload_n C dX12_load_17 (i := 3) rfl rfl ?_
      refine a_iload_n C dX12_load_18 (i := 1) rfl rfl ?_
      refine a_ic_ge C dX12_load_19 (tgt := 59) rfl (fun c8 => absurd c8 (nI_ge (a := (j)) (b := (m)) (by omega) (by omega))) (fun c8 => ?_)
      refine a_aload_n C dX12_load_22 (i := 0) rfl rfl ?_
      refine a_callVv C (i := 236) kd_236 (hid 236 (by decide)) ⟨_, _, rfl⟩ (by decide) (m_beatGoes hid (bt := 0 + j) hV.2.1 hV.2.2.2.2.2.2.2.2.2.2.2 hV.2.2.2.2.2.2.2.2.1 hV.2.2.2.2.2.2.2.2.2.1 hV.2.2.2.2.2.2.2.2.2.2.1 ((congrFun (hV.1.1 245 (by decide)) 0).trans h_245_0) ((congrFun (hV.1.1 252 (by decide)) 0).trans h_252_0) hV.2.2.1 hV.2.2.2.1 hV.2.2.2.2.1 hV.2.2.2.2.2.1 hV.2.2.2.2.2.2.1) mi_X12_beatGoes ml_RX12_387 rfl rfl (Nat.le_of_ble_eq_true rfl) (Nat.le_of_ble_eq_true rfl) (Nat.le_of_ble_eq_true rfl) dX12_load_23 (fun σ10 q11 => ?_)
      refine a_aload_n C dX12_load_26 (i := 0) rfl rfl ?_
      refine a_get C fl_RX12_341 (i := 236) kd_236 (hid 236 (by decide)) (v := .int (-2)) (congrArg (fun z => some (Value.int z)) q11.2.2.2.2.2.2.2.2.1) dX12_load_27 ?_
      refine a_if_lt C dX12_load_30 (tgt := 53) rfl (fun _ => ?_) (fun h => absurd h (by decide))
      refine a_iinc C dX12_load_53 rfl (v := (nI (j + 1))) (nI_1 _) (by decide) rfl (vs1 := [some (.ref (ad 236)), some (.int (nI m)), some (.int 0), some (.int (nI (j + 1)))]) rfl ?_
      refine a_goto C dX12_load_56 (tgt := 17) rfl ?_
      exact ih (j + 1) _ (by omega) ⟨(only.tr (only.tr only.rf (only.mono hV.1 (by decide))) (only.mono q11.1 (by decide))), (Eq.trans q11.2.1 (congrArg nI (show 0 + j + 1 = 0 + (j + 1) by omega))), q11.2.2.1, q11.2.2.2.1, q11.2.2.2.2.1, q11.2.2.2.2.2.1, q11.2.2.2.2.2.2.1, q11.2.2.2.2.2.2.2.1, q11.2.2.2.2.2.2.2.2.2.2.2.1, q11.2.2.2.2.2.2.2.2.2.2.2.2.1, q11.2.2.2.2.2.2.2.2.2.2.2.2.2.1, q11.2.2.2.2.2.2.2.2.2.2.2.2.2.2⟩
  exact loop (m - 0) 0 _ (by omega) ⟨(only.tr only.rf (only.mono q6.1 (by decide))), (Eq.trans q6.2.2.2.2.2.2.2.2.2.2.2.2.2.2.2.2.2.2.2.2.2.2.1 (congrArg nI (show 0 = 0 + 0 by omega))), q6.2.2.2.2.2.2.2.2.2.2.2.2.2.2.2.2.2.2.2.2.2.2.2.1, q6.2.2.2.2.2.2.2.2.2.2.2.2.2.2.2.2.2.2.2.2.2.2.2.2.1, q6.2.2.2.2.2.2.2.2.2.2.2.2.2.2.2.2.2.2.2.2.2.2.2.2.2.2.1, q6.2.2.2.2.2.2.2.2.2.2.2.2.2.2.2.2.2.2.2.2.2.2.2.2.2.2.2.1, q6.2.2.2.2.2.2.2.2.2.2.2.2.2.2.2.2.2.2.2.2.2.2.2.2.2.2.2.2.1, q6.2.2.2.2.2.2.2.2.2.2.2.2.2.2.2.2.2.2.2.2.2.2.2.2.2.2.2.2.2.1, q6.2.2.2.2.2.2.2.2.2.2.2.2.2.2.2.2.2.2.2.2.2.2.2.2.2.2.2.2.2.2.1, q6.2.2.2.2.2.2.2.2.2.2.2.2.2.2.2.2.2.2.2.2.2.2.2.2.2.2.2.2.2.2.2.1, q6.2.2.2.2.2.2.2.2.2.2.2.2.2.2.2.2.2.2.2.2.2.2.2.2.2.2.2.2.2.2.2.2.1, q6.2.2.2.2.2.2.2.2.2.2.2.2.2.2.2.2.2.2.2.2.2.2.2.2.2.2.2.2.2.2.2.2.2⟩
theorem dX12_load_7 : decode cX12_load 7 = .ok (.iconst (-1), 1) := by decide +kernel
theorem dX12_load_8 : decode cX12_load 8 = .ok (.ireturn, 1) := by decide +kernel
set_option maxHeartbeats 4000000 in
set_option maxRecDepth 100000 in
theorem q_load_out {l : Launch} {D : va_G} {ids : List Nat} {ad : Nat → Nat} {ca : Nat → ClassId} {σ : HS} {p0 : Int32} (hid : ∀ i, i < 277 → i ∈ ids) (ho : p0 < 1 ∨ 60 < p0) : Ki l D ids ad ca yX12_load cX12_load 4 .int 2 42 [.ref (ad 236), .int p0] σ (fun r _ => r = (-1)) := by
  refine Ki.of (by decide) (Nat.le_of_ble_eq_true rfl) 2 (fun Γ C Rt => ?_)
  show AW ids ad ca Γ 0 [some (.ref (ad 236)), some (.int p0), none, none] [] σ
  refine a_iload_n C dX12_load_0 (i := 1) rfl rfl ?_
  refine a_callSi C (m_isSome_no hid ho) ms_X12_isSome ml_RX12_454 rfl rfl (Nat.le_of_ble_eq_true rfl) (Nat.le_of_ble_eq_true rfl) (Nat.le_of_ble_eq_true rfl) dX12_load_1 (fun r1 σ2 q3 => ?_)
  obtain ⟨rfl, q3⟩ := q3
  rw [q3]
  refine a_if_ne C dX12_load_4 (tgt := 9) rfl (fun h => absurd h (by decide)) (fun _ => ?_)
  refine a_iconst C dX12_load_7 (v := (-1)) rfl ?_
  exact a_iret Rt dX12_load_8 rfl (rfl)
theorem dX12_rule_0 : decode cX12_rule 0 = .ok (.iload_n 1, 1) := by decide +kernel
theorem dX12_rule_1 : decode cX12_rule 1 = .ok (.invokestatic 454, 3) := by decide +kernel
theorem dX12_rule_4 : decode cX12_rule 4 = .ok (.ifCond .ne 7, 3) := by decide +kernel
theorem dX12_rule_11 : decode cX12_rule 11 = .ok (.aload_n 0, 1) := by decide +kernel
theorem dX12_rule_12 : decode cX12_rule 12 = .ok (.invokevirtual 429, 3) := by decide +kernel
theorem dX12_rule_15 : decode cX12_rule 15 = .ok (.iconst 0, 1) := by decide +kernel
theorem dX12_rule_16 : decode cX12_rule 16 = .ok (.istore_n 2, 1) := by decide +kernel
theorem dX12_rule_17 : decode cX12_rule 17 = .ok (.iconst 0, 1) := by decide +kernel
theorem dX12_rule_18 : decode cX12_rule 18 = .ok (.istore_n 3, 1) := by decide +kernel
theorem dX12_rule_19 : decode cX12_rule 19 = .ok (.iload_n 3, 1) := by decide +kernel
theorem dX12_rule_20 : decode cX12_rule 20 = .ok (.iload_n 1, 1) := by decide +kernel
theorem dX12_rule_21 : decode cX12_rule 21 = .ok (.if_icmp .ge 20, 3) := by decide +kernel
theorem dX12_rule_24 : decode cX12_rule 24 = .ok (.aload_n 0, 1) := by decide +kernel
theorem dX12_rule_25 : decode cX12_rule 25 = .ok (.invokevirtual 387, 3) := by decide +kernel
theorem dX12_rule_28 : decode cX12_rule 28 = .ok (.iload_n 2, 1) := by decide +kernel
theorem dX12_rule_29 : decode cX12_rule 29 = .ok (.aload_n 0, 1) := by decide +kernel
theorem dX12_rule_30 : decode cX12_rule 30 = .ok (.getfield 365, 3) := by decide +kernel
theorem dX12_rule_33 : decode cX12_rule 33 = .ok (.iadd, 1) := by decide +kernel
theorem dX12_rule_34 : decode cX12_rule 34 = .ok (.istore_n 2, 1) := by decide +kernel
theorem dX12_rule_35 : decode cX12_rule 35 = .ok (.iinc 3 1, 3) := by decide +kernel
theorem dX12_rule_38 : decode cX12_rule 38 = .ok (.goto (-19), 3) := by decide +kernel
theorem dX12_rule_41 : decode cX12_rule 41 = .ok (.iload_n 2, 1) := by decide +kernel
theorem dX12_rule_42 : decode cX12_rule 42 = .ok (.ireturn, 1) := by decide +kernel
set_option maxHeartbeats 4000000 in
set_option maxRecDepth 100000 in
theorem q_rule_in {l : Launch} {D : va_G} {ids : List Nat} {ad : Nat → Nat} {ca : Nat → ClassId} {σ : HS} {m : Nat} (hid : ∀ i, i < 277 → i ∈ ids) (h1 : 1 ≤ m) (hm : m ≤ 60) (h_236_2 : σ.1 236 2 = 0) (h_236_18 : σ.1 236 18 = 0) (h_236_54 : σ.1 236 54 = 0) (h_236_60 : σ.1 236 60 = 0) (h_245_0 : σ.1 245 0 = 0) (h_252_0 : σ.1 252 0 = 1) (h_253_0 : σ.1 253 0 = 0) (h_266_0 : σ.1 266 0 = 0) (h_266_1 : σ.1 266 1 = 0) (h_266_2 : σ.1 266 2 = 0) (h_266_3 : σ.1 266 3 = 0) (h_266_4 : σ.1 266 4 = 0) (h_266_5 : σ.1 266 5 = 0) (h_266_6 : σ.1 266 6 = 0) (h_266_7 : σ.1 266 7 = 0) (h_266_8 : σ.1 266 8 = 0) (h_266_9 : σ.1 266 9 = 0) (h_266_10 : σ.1 266 10 = 0) (h_266_11 : σ.1 266 11 = 0) (h_266_12 : σ.1 266 12 = 0) (h_266_13 : σ.1 266 13 = 0) (h_266_14 : σ.1 266 14 = 0) (h_266_15 : σ.1 266 15 = 0) (h_266_16 : σ.1 266 16 = 0) (h_266_17 : σ.1 266 17 = 0) (h_266_18 : σ.1 266 18 = 0) (h_266_19 : σ.1 266 19 = 0) (h_266_20 : σ.1 266 20 = 0) (h_266_21 : σ.1 266 21 = 0) (h_266_22 : σ.1 266 22 = 0) (h_266_23 : σ.1 266 23 = 0) (h_266_24 : σ.1 266 24 = 0) (h_266_25 : σ.1 266 25 = 0) (h_266_26 : σ.1 266 26 = (-2)) (h_266_27 : σ.1 266 27 = 0) (h_266_28 : σ.1 266 28 = (-1)) : Ki l D ids ad ca yX12_rule cX12_rule 4 .int 2 43 [.ref (ad 236), .int (nI m)] σ (fun r _ => r = 0) := by
  refine Ki.of (by decide) (Nat.le_of_ble_eq_true rfl) 2 (fun Γ C Rt => ?_)
  show AW ids ad ca Γ 0 [some (.ref (ad 236)), some (.int (nI m)), none, none] [] σ
  refine a_iload_n C dX12_rule_0 (i := 1) rfl rfl ?_
  refine a_callSi C (m_isSome_yes hid (by omega) (by omega)) ms_X12_isSome ml_RX12_454 rfl rfl (Nat.le_of_ble_eq_true rfl) (Nat.le_of_ble_eq_true rfl) (Nat.le_of_ble_eq_true rfl) dX12_rule_1 (fun r1 σ2 q3 => ?_)
  obtain ⟨rfl, q3⟩ := q3
  rw [q3]
  refine a_if_ne C dX12_rule_4 (tgt := 11) rfl (fun _ => ?_) (fun h => absurd h (by decide))
  refine a_aload_n C dX12_rule_11 (i := 0) rfl rfl ?_
  refine a_callVv C (i := 236) kd_236 (hid 236 (by decide)) ⟨_, _, rfl⟩ (by decide) (m_copiesStill hid h_236_2 h_236_18 h_236_54 h_236_60 h_253_0 h_266_0 h_266_1 h_266_2 h_266_3 h_266_4 h_266_5 h_266_6 h_266_7 h_266_8 h_266_9 h_266_10 h_266_11 h_266_12 h_266_13 h_266_14 h_266_15 h_266_16 h_266_17 h_266_18 h_266_19 h_266_20 h_266_21 h_266_22 h_266_23 h_266_24 h_266_25 h_266_26 h_266_27 h_266_28) mi_X12_copiesStill ml_RX12_429 rfl rfl (Nat.le_of_ble_eq_true rfl) (Nat.le_of_ble_eq_true rfl) (Nat.le_of_ble_eq_true rfl) dX12_rule_12 (fun σ5 q6 => ?_)
  refine a_iconst C dX12_rule_15 (v := 0) rfl ?_
  refine a_istore_n C dX12_rule_16 (i := 2) rfl (by decide) rfl (vs1 := [some (.ref (ad 236)), some (.int (nI m)), some (.int 0), none]) rfl ?_
  refine a_iconst C dX12_rule_17 (v := 0) rfl ?_
  refine a_istore_n C dX12_rule_18 (i := 3) rfl (by decide) rfl (vs1 := [some (.ref (ad 236)), some (.int (nI m)), some (.int 0), some (.int 0)]) rfl ?_
  have loop : ∀ (d j : Nat) (σ2 : HS), j + d = m → (only [267, 236] σ σ2 ∧ σ2.1 267 21 = (nI (0 + j)) ∧ σ2.1 267 22 = 0 ∧ σ2.1 267 23 = 0 ∧ σ2.1 267 25 = 0 ∧ σ2.1 267 26 = (-2) ∧ σ2.1 267 27 = 0 ∧ σ2.1 267 28 = (-1) ∧ σ2.1 236 18 = 0 ∧ σ2.1 236 54 = 0 ∧ σ2.1 236 60 = 0 ∧ σ2.1 236 2 = 0) → AW ids ad ca Γ 19 [some (.ref (ad 236)), some (.int (nI m)), some (.int 0), some (.int (nI j))] [] σ2 := by
    intro d
    induction d with
    | zero =>
      intro j σ2 hj hV
      refine a_iload_n C dX12_rule_19 (i := 3) rfl rfl ?_
      refine a_iload_n C dX12_rule_20 (i := 1) rfl rfl ?_
      refine a_ic_ge C dX12_rule_21 (tgt := 41) rfl (fun c7 => ?_) (fun c7 => absurd c7 (fun q => q (nI_le (a := (m)) (b := (j)) (by omega) (by omega))))
      refine a_iload_n C dX12_rule_41 (i := 2) rfl rfl ?_
      exact a_iret Rt dX12_rule_42 rfl (rfl)
    | succ d ih =>
      intro j σ2 hj hV
      refine a_iload_n C dX12_rule_19 (i := 3) rfl rfl ?_
      refine a_iload_n C dX12_rule_20 (i := 1) rfl rfl ?_
      refine a_ic_ge C dX12_rule_21 (tgt := 41) rfl (fun c8 => absurd c8 (nI_ge (a := (j)) (b := (m)) (by omega) (by omega))) (fun c8 => ?_)
      refine a_aload_n C dX12_rule_24 (i := 0) rfl rfl ?_
      refine a_callVv C (i := 236) kd_236 (hid 236 (by decide)) ⟨_, _, rfl⟩ (by decide) (m_beatGoes hid (bt := 0 + j) hV.2.1 hV.2.2.2.2.2.2.2.2.2.2.2 hV.2.2.2.2.2.2.2.2.1 hV.2.2.2.2.2.2.2.2.2.1 hV.2.2.2.2.2.2.2.2.2.2.1 ((congrFun (hV.1.1 245 (by decide)) 0).trans h_245_0) ((congrFun (hV.1.1 252 (by decide)) 0).trans h_252_0) hV.2.2.1 hV.2.2.2.1 hV.2.2.2.2.1 hV.2.2.2.2.2.1 hV.2.2.2.2.2.2.1) mi_X12_beatGoes ml_RX12_387 rfl rfl (Nat.le_of_ble_eq_true rfl) (Nat.le_of_ble_eq_true rfl) (Nat.le_of_ble_eq_true rfl) dX12_rule_25 (fun σ10 q11 => ?_)
      refine a_iload_n C dX12_rule_28 (i := 2) rfl rfl ?_
      refine a_aload_n C dX12_rule_29 (i := 0) rfl rfl ?_
      refine a_get C fl_RX12_365 (i := 236) kd_236 (hid 236 (by decide)) (v := .int 0) (congrArg (fun z => some (Value.int z)) q11.2.2.2.2.2.2.2.2.2.2.1) dX12_rule_30 ?_
      refine a_iadd C dX12_rule_33 ?_
      refine a_istore_n C dX12_rule_34 (i := 2) rfl (by decide) rfl (vs1 := [some (.ref (ad 236)), some (.int (nI m)), some (.int 0), some (.int (nI j))]) rfl ?_
      refine a_iinc C dX12_rule_35 rfl (v := (nI (j + 1))) (nI_1 _) (by decide) rfl (vs1 := [some (.ref (ad 236)), some (.int (nI m)), some (.int 0), some (.int (nI (j + 1)))]) rfl ?_
      refine a_goto C dX12_rule_38 (tgt := 19) rfl ?_
      exact ih (j + 1) _ (by omega) ⟨(only.tr (only.tr only.rf (only.mono hV.1 (by decide))) (only.mono q11.1 (by decide))), (Eq.trans q11.2.1 (congrArg nI (show 0 + j + 1 = 0 + (j + 1) by omega))), q11.2.2.1, q11.2.2.2.1, q11.2.2.2.2.1, q11.2.2.2.2.2.1, q11.2.2.2.2.2.2.1, q11.2.2.2.2.2.2.2.1, q11.2.2.2.2.2.2.2.2.2.2.2.1, q11.2.2.2.2.2.2.2.2.2.2.2.2.1, q11.2.2.2.2.2.2.2.2.2.2.2.2.2.1, q11.2.2.2.2.2.2.2.2.2.2.2.2.2.2⟩
  exact loop (m - 0) 0 _ (by omega) ⟨(only.tr only.rf (only.mono q6.1 (by decide))), (Eq.trans q6.2.2.2.2.2.2.2.2.2.2.2.2.2.2.2.2.2.2.2.2.2.2.1 (congrArg nI (show 0 = 0 + 0 by omega))), q6.2.2.2.2.2.2.2.2.2.2.2.2.2.2.2.2.2.2.2.2.2.2.2.1, q6.2.2.2.2.2.2.2.2.2.2.2.2.2.2.2.2.2.2.2.2.2.2.2.2.1, q6.2.2.2.2.2.2.2.2.2.2.2.2.2.2.2.2.2.2.2.2.2.2.2.2.2.2.1, q6.2.2.2.2.2.2.2.2.2.2.2.2.2.2.2.2.2.2.2.2.2.2.2.2.2.2.2.1, q6.2.2.2.2.2.2.2.2.2.2.2.2.2.2.2.2.2.2.2.2.2.2.2.2.2.2.2.2.1, q6.2.2.2.2.2.2.2.2.2.2.2.2.2.2.2.2.2.2.2.2.2.2.2.2.2.2.2.2.2.1, q6.2.2.2.2.2.2.2.2.2.2.2.2.2.2.2.2.2.2.2.2.2.2.2.2.2.2.2.2.2.2.1, q6.2.2.2.2.2.2.2.2.2.2.2.2.2.2.2.2.2.2.2.2.2.2.2.2.2.2.2.2.2.2.2.1, q6.2.2.2.2.2.2.2.2.2.2.2.2.2.2.2.2.2.2.2.2.2.2.2.2.2.2.2.2.2.2.2.2.1, q6.2.2.2.2.2.2.2.2.2.2.2.2.2.2.2.2.2.2.2.2.2.2.2.2.2.2.2.2.2.2.2.2.2⟩
theorem dX12_rule_7 : decode cX12_rule 7 = .ok (.ldc_w 457, 3) := by decide +kernel
theorem dX12_rule_10 : decode cX12_rule 10 = .ok (.ireturn, 1) := by decide +kernel
set_option maxHeartbeats 4000000 in
set_option maxRecDepth 100000 in
theorem q_rule_out {l : Launch} {D : va_G} {ids : List Nat} {ad : Nat → Nat} {ca : Nat → ClassId} {σ : HS} {p0 : Int32} (hid : ∀ i, i < 277 → i ∈ ids) (ho : p0 < 1 ∨ 60 < p0) : Ki l D ids ad ca yX12_rule cX12_rule 4 .int 2 42 [.ref (ad 236), .int p0] σ (fun r _ => r = (-100000)) := by
  refine Ki.of (by decide) (Nat.le_of_ble_eq_true rfl) 2 (fun Γ C Rt => ?_)
  show AW ids ad ca Γ 0 [some (.ref (ad 236)), some (.int p0), none, none] [] σ
  refine a_iload_n C dX12_rule_0 (i := 1) rfl rfl ?_
  refine a_callSi C (m_isSome_no hid ho) ms_X12_isSome ml_RX12_454 rfl rfl (Nat.le_of_ble_eq_true rfl) (Nat.le_of_ble_eq_true rfl) (Nat.le_of_ble_eq_true rfl) dX12_rule_1 (fun r1 σ2 q3 => ?_)
  obtain ⟨rfl, q3⟩ := q3
  rw [q3]
  refine a_if_ne C dX12_rule_4 (tgt := 11) rfl (fun h => absurd h (by decide)) (fun _ => ?_)
  refine a_ldcw C dX12_rule_7 ko_RX12_457 ?_
  exact a_iret Rt dX12_rule_10 rfl (rfl)
theorem dX12_light_0 : decode cX12_light 0 = .ok (.iload_n 1, 1) := by decide +kernel
theorem dX12_light_1 : decode cX12_light 1 = .ok (.invokestatic 454, 3) := by decide +kernel
theorem dX12_light_4 : decode cX12_light 4 = .ok (.ifCond .eq 12, 3) := by decide +kernel
theorem dX12_light_7 : decode cX12_light 7 = .ok (.iload_n 2, 1) := by decide +kernel
theorem dX12_light_8 : decode cX12_light 8 = .ok (.iconst 0, 1) := by decide +kernel
theorem dX12_light_9 : decode cX12_light 9 = .ok (.iconst 1, 1) := by decide +kernel
theorem dX12_light_10 : decode cX12_light 10 = .ok (.invokestatic 301, 3) := by decide +kernel
theorem dX12_light_13 : decode cX12_light 13 = .ok (.ifCond .ne 5, 3) := by decide +kernel
theorem dX12_light_18 : decode cX12_light 18 = .ok (.bipush (-2), 2) := by decide +kernel
theorem dX12_light_20 : decode cX12_light 20 = .ok (.istore_n 3, 1) := by decide +kernel
theorem dX12_light_21 : decode cX12_light 21 = .ok (.bipush (-2), 2) := by decide +kernel
theorem dX12_light_23 : decode cX12_light 23 = .ok (.istore 4, 2) := by decide +kernel
theorem dX12_light_25 : decode cX12_light 25 = .ok (.iconst 0, 1) := by decide +kernel
theorem dX12_light_26 : decode cX12_light 26 = .ok (.istore 5, 2) := by decide +kernel
theorem dX12_light_28 : decode cX12_light 28 = .ok (.iload 5, 2) := by decide +kernel
theorem dX12_light_30 : decode cX12_light 30 = .ok (.aload_n 0, 1) := by decide +kernel
theorem dX12_light_31 : decode cX12_light 31 = .ok (.getfield 55, 3) := by decide +kernel
theorem dX12_light_34 : decode cX12_light 34 = .ok (.aload_n 0, 1) := by decide +kernel
theorem dX12_light_35 : decode cX12_light 35 = .ok (.getfield 221, 3) := by decide +kernel
theorem dX12_light_38 : decode cX12_light 38 = .ok (.iaload, 1) := by decide +kernel
theorem dX12_light_39 : decode cX12_light 39 = .ok (.if_icmp .ge 75, 3) := by decide +kernel
theorem dX12_light_114 : decode cX12_light 114 = .ok (.iload_n 2, 1) := by decide +kernel
theorem dX12_light_115 : decode cX12_light 115 = .ok (.ifCond .ne 7, 3) := by decide +kernel
theorem dX12_light_118 : decode cX12_light 118 = .ok (.iload_n 3, 1) := by decide +kernel
theorem dX12_light_119 : decode cX12_light 119 = .ok (.goto 5, 3) := by decide +kernel
theorem dX12_light_122 : decode cX12_light 122 = .ok (.iload 4, 2) := by decide +kernel
theorem dX12_light_124 : decode cX12_light 124 = .ok (.ireturn, 1) := by decide +kernel
set_option maxHeartbeats 4000000 in
set_option maxRecDepth 100000 in
theorem q_light_in {l : Launch} {D : va_G} {ids : List Nat} {ad : Nat → Nat} {ca : Nat → ClassId} {σ : HS} {m : Nat} {p1 : Int32} (hid : ∀ i, i < 277 → i ∈ ids) (h1 : 1 ≤ m) (hm : m ≤ 60) (w1 : ¬ p1 < 0) (w2 : p1 ≤ 1) (h_236_18 : σ.1 236 18 = 0) (h_249_0 : σ.1 249 0 = 0) : Ki l D ids ad ca yX12_light cX12_light 6 .int 2 42 [.ref (ad 236), .int (nI m), .int p1] σ (fun r _ => r = (-2)) := by
  refine Ki.of (by decide) (Nat.le_of_ble_eq_true rfl) 3 (fun Γ C Rt => ?_)
  show AW ids ad ca Γ 0 [some (.ref (ad 236)), some (.int (nI m)), some (.int p1), none, none, none] [] σ
  refine a_iload_n C dX12_light_0 (i := 1) rfl rfl ?_
  refine a_callSi C (m_isSome_yes hid (by omega) (by omega)) ms_X12_isSome ml_RX12_454 rfl rfl (Nat.le_of_ble_eq_true rfl) (Nat.le_of_ble_eq_true rfl) (Nat.le_of_ble_eq_true rfl) dX12_light_1 (fun r1 σ2 q3 => ?_)
  obtain ⟨rfl, q3⟩ := q3
  rw [q3]
  refine a_if_eq C dX12_light_4 (tgt := 16) rfl (fun h => absurd h (by decide)) (fun _ => ?_)
  refine a_iload_n C dX12_light_7 (i := 2) rfl rfl ?_
  refine a_iconst C dX12_light_8 (v := 0) rfl ?_
  refine a_iconst C dX12_light_9 (v := 1) rfl ?_
  refine a_callSi C (m_in_yes hid w1 w2) ms_X12_in ml_RX12_301 rfl rfl (Nat.le_of_ble_eq_true rfl) (Nat.le_of_ble_eq_true rfl) (Nat.le_of_ble_eq_true rfl) dX12_light_10 (fun r4 σ5 q6 => ?_)
  obtain ⟨rfl, q6⟩ := q6
  rw [q6]
  refine a_if_ne C dX12_light_13 (tgt := 18) rfl (fun _ => ?_) (fun h => absurd h (by decide))
  refine a_bipush C dX12_light_18 (v := (-2)) rfl ?_
  refine a_istore_n C dX12_light_20 (i := 3) rfl (by decide) rfl (vs1 := [some (.ref (ad 236)), some (.int (nI m)), some (.int p1), some (.int (-2)), none, none]) rfl ?_
  refine a_bipush C dX12_light_21 (v := (-2)) rfl ?_
  refine a_istore C dX12_light_23 (by decide) rfl (vs1 := [some (.ref (ad 236)), some (.int (nI m)), some (.int p1), some (.int (-2)), some (.int (-2)), none]) rfl ?_
  refine a_iconst C dX12_light_25 (v := 0) rfl ?_
  refine a_istore C dX12_light_26 (by decide) rfl (vs1 := [some (.ref (ad 236)), some (.int (nI m)), some (.int p1), some (.int (-2)), some (.int (-2)), some (.int 0)]) rfl ?_
  refine a_iload C dX12_light_28 rfl ?_
  refine a_aload_n C dX12_light_30 (i := 0) rfl rfl ?_
  refine a_get C fl_RX12_55 (i := 236) kd_236 (hid 236 (by decide)) (v := .ref (ad 249)) rfl dX12_light_31 ?_
  refine a_aload_n C dX12_light_34 (i := 0) rfl rfl ?_
  refine a_get C fl_RX12_221 (i := 236) kd_236 (hid 236 (by decide)) (v := .int 0) (congrArg (fun z => some (Value.int z)) h_236_18) dX12_light_35 ?_
  refine a_iald C (i := 249) 0 kd_249 (hid 249 (by decide)) (by decide) rfl (by rw [al_249]; decide) dX12_light_38 (v := 0) h_249_0 ?_
  refine a_ic_ge C dX12_light_39 (tgt := 114) rfl (fun _ => ?_) (fun h => absurd h (by decide))
  refine a_iload_n C dX12_light_114 (i := 2) rfl rfl ?_
  refine a_if_ne C dX12_light_115 (tgt := 122) rfl (fun c7 => ?_) (fun c7 => ?_)
  ·
    refine a_iload C dX12_light_122 rfl ?_
    exact a_iret Rt dX12_light_124 rfl (rfl)
  ·
    refine a_iload_n C dX12_light_118 (i := 3) rfl rfl ?_
    refine a_goto C dX12_light_119 (tgt := 124) rfl ?_
    exact a_iret Rt dX12_light_124 rfl (rfl)
theorem dX12_light_16 : decode cX12_light 16 = .ok (.iconst (-1), 1) := by decide +kernel
theorem dX12_light_17 : decode cX12_light 17 = .ok (.ireturn, 1) := by decide +kernel
set_option maxHeartbeats 4000000 in
set_option maxRecDepth 100000 in
theorem q_light_w {l : Launch} {D : va_G} {ids : List Nat} {ad : Nat → Nat} {ca : Nat → ClassId} {σ : HS} {m : Nat} {p1 : Int32} (hid : ∀ i, i < 277 → i ∈ ids) (h1 : 1 ≤ m) (hm : m ≤ 60) (ho : p1 < 0 ∨ 1 < p1) : Ki l D ids ad ca yX12_light cX12_light 6 .int 2 42 [.ref (ad 236), .int (nI m), .int p1] σ (fun r _ => r = (-1)) := by
  refine Ki.of (by decide) (Nat.le_of_ble_eq_true rfl) 3 (fun Γ C Rt => ?_)
  show AW ids ad ca Γ 0 [some (.ref (ad 236)), some (.int (nI m)), some (.int p1), none, none, none] [] σ
  refine a_iload_n C dX12_light_0 (i := 1) rfl rfl ?_
  refine a_callSi C (m_isSome_yes hid (by omega) (by omega)) ms_X12_isSome ml_RX12_454 rfl rfl (Nat.le_of_ble_eq_true rfl) (Nat.le_of_ble_eq_true rfl) (Nat.le_of_ble_eq_true rfl) dX12_light_1 (fun r1 σ2 q3 => ?_)
  obtain ⟨rfl, q3⟩ := q3
  rw [q3]
  refine a_if_eq C dX12_light_4 (tgt := 16) rfl (fun h => absurd h (by decide)) (fun _ => ?_)
  refine a_iload_n C dX12_light_7 (i := 2) rfl rfl ?_
  refine a_iconst C dX12_light_8 (v := 0) rfl ?_
  refine a_iconst C dX12_light_9 (v := 1) rfl ?_
  refine a_callSi C (m_in_no hid ho) ms_X12_in ml_RX12_301 rfl rfl (Nat.le_of_ble_eq_true rfl) (Nat.le_of_ble_eq_true rfl) (Nat.le_of_ble_eq_true rfl) dX12_light_10 (fun r4 σ5 q6 => ?_)
  obtain ⟨rfl, q6⟩ := q6
  rw [q6]
  refine a_if_ne C dX12_light_13 (tgt := 18) rfl (fun h => absurd h (by decide)) (fun _ => ?_)
  refine a_iconst C dX12_light_16 (v := (-1)) rfl ?_
  exact a_iret Rt dX12_light_17 rfl (rfl)
set_option maxHeartbeats 4000000 in
set_option maxRecDepth 100000 in
theorem q_light_out {l : Launch} {D : va_G} {ids : List Nat} {ad : Nat → Nat} {ca : Nat → ClassId} {σ : HS} {p0 : Int32} {p1 : Int32} (hid : ∀ i, i < 277 → i ∈ ids) (ho : p0 < 1 ∨ 60 < p0) : Ki l D ids ad ca yX12_light cX12_light 6 .int 2 42 [.ref (ad 236), .int p0, .int p1] σ (fun r _ => r = (-1)) := by
  refine Ki.of (by decide) (Nat.le_of_ble_eq_true rfl) 3 (fun Γ C Rt => ?_)
  show AW ids ad ca Γ 0 [some (.ref (ad 236)), some (.int p0), some (.int p1), none, none, none] [] σ
  refine a_iload_n C dX12_light_0 (i := 1) rfl rfl ?_
  refine a_callSi C (m_isSome_no hid ho) ms_X12_isSome ml_RX12_454 rfl rfl (Nat.le_of_ble_eq_true rfl) (Nat.le_of_ble_eq_true rfl) (Nat.le_of_ble_eq_true rfl) dX12_light_1 (fun r1 σ2 q3 => ?_)
  obtain ⟨rfl, q3⟩ := q3
  rw [q3]
  refine a_if_eq C dX12_light_4 (tgt := 16) rfl (fun _ => ?_) (fun h => absurd h (by decide))
  refine a_iconst C dX12_light_16 (v := (-1)) rfl ?_
  exact a_iret Rt dX12_light_17 rfl (rfl)
theorem dX12_order_0 : decode cX12_order 0 = .ok (.iload_n 1, 1) := by decide +kernel
theorem dX12_order_1 : decode cX12_order 1 = .ok (.iconst 0, 1) := by decide +kernel
theorem dX12_order_2 : decode cX12_order 2 = .ok (.bipush 6, 2) := by decide +kernel
theorem dX12_order_4 : decode cX12_order 4 = .ok (.invokestatic 301, 3) := by decide +kernel
theorem dX12_order_7 : decode cX12_order 7 = .ok (.ifCond .ne 5, 3) := by decide +kernel
theorem dX12_order_12 : decode cX12_order 12 = .ok (.aload_n 0, 1) := by decide +kernel
theorem dX12_order_13 : decode cX12_order 13 = .ok (.invokevirtual 311, 3) := by decide +kernel
theorem dX12_order_16 : decode cX12_order 16 = .ok (.iconst 0, 1) := by decide +kernel
theorem dX12_order_17 : decode cX12_order 17 = .ok (.istore_n 2, 1) := by decide +kernel
theorem dX12_order_18 : decode cX12_order 18 = .ok (.iconst 0, 1) := by decide +kernel
theorem dX12_order_19 : decode cX12_order 19 = .ok (.istore_n 3, 1) := by decide +kernel
theorem dX12_order_20 : decode cX12_order 20 = .ok (.iload_n 3, 1) := by decide +kernel
theorem dX12_order_21 : decode cX12_order 21 = .ok (.bipush 70, 2) := by decide +kernel
theorem dX12_order_23 : decode cX12_order 23 = .ok (.if_icmp .ge 51, 3) := by decide +kernel
theorem dX12_order_26 : decode cX12_order 26 = .ok (.aload_n 0, 1) := by decide +kernel
theorem dX12_order_27 : decode cX12_order 27 = .ok (.iload_n 3, 1) := by decide +kernel
theorem dX12_order_28 : decode cX12_order 28 = .ok (.bipush 7, 2) := by decide +kernel
theorem dX12_order_30 : decode cX12_order 30 = .ok (.irem, 1) := by decide +kernel
theorem dX12_order_31 : decode cX12_order 31 = .ok (.invokevirtual 390, 3) := by decide +kernel
theorem dX12_order_34 : decode cX12_order 34 = .ok (.ifCond .eq 34, 3) := by decide +kernel
theorem dX12_order_68 : decode cX12_order 68 = .ok (.iinc 3 1, 3) := by decide +kernel
theorem dX12_order_71 : decode cX12_order 71 = .ok (.goto (-51), 3) := by decide +kernel
theorem dX12_order_74 : decode cX12_order 74 = .ok (.iconst (-1), 1) := by decide +kernel
theorem dX12_order_75 : decode cX12_order 75 = .ok (.ireturn, 1) := by decide +kernel
set_option maxHeartbeats 4000000 in
set_option maxRecDepth 100000 in
theorem q_order_in {l : Launch} {D : va_G} {ids : List Nat} {ad : Nat → Nat} {ca : Nat → ClassId} {σ : HS} {p0 : Int32} (hid : ∀ i, i < 277 → i ∈ ids) (h1 : ¬ p0 < 0) (h2 : p0 ≤ 6) (h_236_2 : σ.1 236 2 = 0) (h_236_18 : σ.1 236 18 = 0) (h_236_54 : σ.1 236 54 = 0) (h_236_60 : σ.1 236 60 = 0) (h_245_0 : σ.1 245 0 = 0) (h_253_0 : σ.1 253 0 = 0) (h_266_0 : σ.1 266 0 = 0) (h_266_1 : σ.1 266 1 = 0) (h_266_2 : σ.1 266 2 = 0) (h_266_3 : σ.1 266 3 = 0) (h_266_4 : σ.1 266 4 = 0) (h_266_5 : σ.1 266 5 = 0) (h_266_6 : σ.1 266 6 = 0) (h_266_7 : σ.1 266 7 = 0) (h_266_8 : σ.1 266 8 = 0) (h_266_9 : σ.1 266 9 = 0) (h_266_10 : σ.1 266 10 = 0) (h_266_11 : σ.1 266 11 = 0) (h_266_12 : σ.1 266 12 = 0) (h_266_13 : σ.1 266 13 = 0) (h_266_14 : σ.1 266 14 = 0) (h_266_15 : σ.1 266 15 = 0) (h_266_16 : σ.1 266 16 = 0) (h_266_17 : σ.1 266 17 = 0) (h_266_18 : σ.1 266 18 = 0) (h_266_19 : σ.1 266 19 = 0) (h_266_20 : σ.1 266 20 = 0) (h_266_21 : σ.1 266 21 = 0) (h_266_22 : σ.1 266 22 = 0) (h_266_23 : σ.1 266 23 = 0) (h_266_24 : σ.1 266 24 = 0) (h_266_25 : σ.1 266 25 = 0) (h_266_26 : σ.1 266 26 = (-2)) (h_266_27 : σ.1 266 27 = 0) (h_266_28 : σ.1 266 28 = (-1)) : Ki l D ids ad ca yX12_order cX12_order 4 .int 2 43 [.ref (ad 236), .int p0] σ (fun r _ => r = (-1)) := by
  refine Ki.of (by decide) (Nat.le_of_ble_eq_true rfl) 2 (fun Γ C Rt => ?_)
  show AW ids ad ca Γ 0 [some (.ref (ad 236)), some (.int p0), none, none] [] σ
  refine a_iload_n C dX12_order_0 (i := 1) rfl rfl ?_
  refine a_iconst C dX12_order_1 (v := 0) rfl ?_
  refine a_bipush C dX12_order_2 (v := 6) rfl ?_
  refine a_callSi C (m_in_yes hid h1 h2) ms_X12_in ml_RX12_301 rfl rfl (Nat.le_of_ble_eq_true rfl) (Nat.le_of_ble_eq_true rfl) (Nat.le_of_ble_eq_true rfl) dX12_order_4 (fun r1 σ2 q3 => ?_)
  obtain ⟨rfl, q3⟩ := q3
  rw [q3]
  refine a_if_ne C dX12_order_7 (tgt := 12) rfl (fun _ => ?_) (fun h => absurd h (by decide))
  refine a_aload_n C dX12_order_12 (i := 0) rfl rfl ?_
  refine a_callVv C (i := 236) kd_236 (hid 236 (by decide)) ⟨_, _, rfl⟩ (by decide) (m_copies hid h_236_2 h_236_18 h_236_54 h_236_60 h_253_0 h_266_0 h_266_1 h_266_2 h_266_3 h_266_4 h_266_5 h_266_6 h_266_7 h_266_8 h_266_9 h_266_10 h_266_11 h_266_12 h_266_13 h_266_14 h_266_15 h_266_16 h_266_17 h_266_18 h_266_19 h_266_20 h_266_21 h_266_22 h_266_23 h_266_24 h_266_25 h_266_26 h_266_27 h_266_28) mi_X12_copies ml_RX12_311 rfl rfl (Nat.le_of_ble_eq_true rfl) (Nat.le_of_ble_eq_true rfl) (Nat.le_of_ble_eq_true rfl) dX12_order_13 (fun σ5 q6 => ?_)
  refine a_iconst C dX12_order_16 (v := 0) rfl ?_
  refine a_istore_n C dX12_order_17 (i := 2) rfl (by decide) rfl (vs1 := [some (.ref (ad 236)), some (.int p0), some (.int 0), none]) rfl ?_
  refine a_iconst C dX12_order_18 (v := 0) rfl ?_
  refine a_istore_n C dX12_order_19 (i := 3) rfl (by decide) rfl (vs1 := [some (.ref (ad 236)), some (.int p0), some (.int 0), some (.int 0)]) rfl ?_
  have loop : ∀ (d j : Nat) (σ2 : HS), j + d = 70 → (only [267, 236] σ σ2 ∧ σ2.1 236 18 = 0 ∧ σ2.1 236 54 = 0 ∧ σ2.1 236 60 = 0 ∧ σ2.1 236 2 = 0) → AW ids ad ca Γ 20 [some (.ref (ad 236)), some (.int p0), some (.int 0), some (.int (nI j))] [] σ2 := by
    intro d
    induction d with
    | zero =>
      intro j σ2 hj hV
      refine a_iload_n C dX12_order_20 (i := 3) rfl rfl ?_
      refine a_bipush C dX12_order_21 (v := 70) rfl ?_
      refine a_ic_ge C dX12_order_23 (tgt := 74) rfl (fun c7 => ?_) (fun c7 => absurd c7 (fun q => q (nI_le (a := (70)) (b := (j)) (by omega) (by omega))))
      refine a_iconst C dX12_order_74 (v := (-1)) rfl ?_
      exact a_iret Rt dX12_order_75 rfl (rfl)
    | succ d ih =>
      intro j σ2 hj hV
      refine a_iload_n C dX12_order_20 (i := 3) rfl rfl ?_
      refine a_bipush C dX12_order_21 (v := 70) rfl ?_
      refine a_ic_ge C dX12_order_23 (tgt := 74) rfl (fun c8 => absurd c8 (nI_ge (a := (j)) (b := (70)) (by omega) (by omega))) (fun c8 => ?_)
      refine a_aload_n C dX12_order_26 (i := 0) rfl rfl ?_
      refine a_iload_n C dX12_order_27 (i := 3) rfl rfl ?_
      refine a_bipush C dX12_order_28 (v := 7) rfl ?_
      refine a_irem C dX12_order_30 (by decide) ?_
      refine a_callVi C (i := 236) kd_236 (hid 236 (by decide)) ⟨_, _, rfl⟩ (by decide) (m_isThing hid hV.2.1 ((congrFun (hV.1.1 245 (by decide)) 0).trans h_245_0)) mi_X12_isThing ml_RX12_390 rfl rfl (Nat.le_of_ble_eq_true rfl) (Nat.le_of_ble_eq_true rfl) (Nat.le_of_ble_eq_true rfl) dX12_order_31 (fun r9 σ10 q11 => ?_)
      obtain ⟨rfl, q11⟩ := q11
      rw [q11]
      refine a_if_eq C dX12_order_34 (tgt := 68) rfl (fun _ => ?_) (fun h => absurd h (by decide))
      refine a_iinc C dX12_order_68 rfl (v := (nI (j + 1))) (nI_1 _) (by decide) rfl (vs1 := [some (.ref (ad 236)), some (.int p0), some (.int 0), some (.int (nI (j + 1)))]) rfl ?_
      refine a_goto C dX12_order_71 (tgt := 20) rfl ?_
      exact ih (j + 1) _ (by omega) ⟨(only.tr only.rf (only.mono hV.1 (by decide))), hV.2.1, hV.2.2.1, hV.2.2.2.1, hV.2.2.2.2⟩
  exact loop (70 - 0) 0 _ (by omega) ⟨(only.tr only.rf (only.mono q6.1 (by decide))), q6.2.2.2.2.2.2.2.2.2.2.2.2.2.2.2.2.2.2.2.2.2.2.2.2.2.2.2.2.2.2.1, q6.2.2.2.2.2.2.2.2.2.2.2.2.2.2.2.2.2.2.2.2.2.2.2.2.2.2.2.2.2.2.2.1, q6.2.2.2.2.2.2.2.2.2.2.2.2.2.2.2.2.2.2.2.2.2.2.2.2.2.2.2.2.2.2.2.2.1, q6.2.2.2.2.2.2.2.2.2.2.2.2.2.2.2.2.2.2.2.2.2.2.2.2.2.2.2.2.2.2.2.2.2⟩
theorem dX12_order_10 : decode cX12_order 10 = .ok (.iconst (-1), 1) := by decide +kernel
theorem dX12_order_11 : decode cX12_order 11 = .ok (.ireturn, 1) := by decide +kernel
set_option maxHeartbeats 4000000 in
set_option maxRecDepth 100000 in
theorem q_order_out {l : Launch} {D : va_G} {ids : List Nat} {ad : Nat → Nat} {ca : Nat → ClassId} {σ : HS} {p0 : Int32} (hid : ∀ i, i < 277 → i ∈ ids) (ho : p0 < 0 ∨ 6 < p0) : Ki l D ids ad ca yX12_order cX12_order 4 .int 1 22 [.ref (ad 236), .int p0] σ (fun r _ => r = (-1)) := by
  refine Ki.of (by decide) (Nat.le_of_ble_eq_true rfl) 2 (fun Γ C Rt => ?_)
  show AW ids ad ca Γ 0 [some (.ref (ad 236)), some (.int p0), none, none] [] σ
  refine a_iload_n C dX12_order_0 (i := 1) rfl rfl ?_
  refine a_iconst C dX12_order_1 (v := 0) rfl ?_
  refine a_bipush C dX12_order_2 (v := 6) rfl ?_
  refine a_callSi C (m_in_no hid ho) ms_X12_in ml_RX12_301 rfl rfl (Nat.le_of_ble_eq_true rfl) (Nat.le_of_ble_eq_true rfl) (Nat.le_of_ble_eq_true rfl) dX12_order_4 (fun r1 σ2 q3 => ?_)
  obtain ⟨rfl, q3⟩ := q3
  rw [q3]
  refine a_if_ne C dX12_order_7 (tgt := 12) rfl (fun h => absurd h (by decide)) (fun _ => ?_)
  refine a_iconst C dX12_order_10 (v := (-1)) rfl ?_
  exact a_iret Rt dX12_order_11 rfl (rfl)
theorem dX12_glitterBits_0 : decode cX12_glitterBits 0 = .ok (.aload_n 0, 1) := by decide +kernel
theorem dX12_glitterBits_1 : decode cX12_glitterBits 1 = .ok (.invokevirtual 429, 3) := by decide +kernel
theorem dX12_glitterBits_4 : decode cX12_glitterBits 4 = .ok (.aload_n 0, 1) := by decide +kernel
theorem dX12_glitterBits_5 : decode cX12_glitterBits 5 = .ok (.iconst 0, 1) := by decide +kernel
theorem dX12_glitterBits_6 : decode cX12_glitterBits 6 = .ok (.invokevirtual 350, 3) := by decide +kernel
theorem dX12_glitterBits_9 : decode cX12_glitterBits 9 = .ok (.istore_n 2, 1) := by decide +kernel
theorem dX12_glitterBits_10 : decode cX12_glitterBits 10 = .ok (.iconst 0, 1) := by decide +kernel
theorem dX12_glitterBits_11 : decode cX12_glitterBits 11 = .ok (.istore_n 3, 1) := by decide +kernel
theorem dX12_glitterBits_12 : decode cX12_glitterBits 12 = .ok (.iload_n 3, 1) := by decide +kernel
theorem dX12_glitterBits_13 : decode cX12_glitterBits 13 = .ok (.bipush 40, 2) := by decide +kernel
theorem dX12_glitterBits_15 : decode cX12_glitterBits 15 = .ok (.if_icmp .gt 23, 3) := by decide +kernel
theorem dX12_glitterBits_18 : decode cX12_glitterBits 18 = .ok (.aload_n 0, 1) := by decide +kernel
theorem dX12_glitterBits_19 : decode cX12_glitterBits 19 = .ok (.invokevirtual 387, 3) := by decide +kernel
theorem dX12_glitterBits_22 : decode cX12_glitterBits 22 = .ok (.aload_n 0, 1) := by decide +kernel
theorem dX12_glitterBits_23 : decode cX12_glitterBits 23 = .ok (.getfield 131, 3) := by decide +kernel
theorem dX12_glitterBits_26 : decode cX12_glitterBits 26 = .ok (.iload_n 3, 1) := by decide +kernel
theorem dX12_glitterBits_27 : decode cX12_glitterBits 27 = .ok (.aload_n 0, 1) := by decide +kernel
theorem dX12_glitterBits_28 : decode cX12_glitterBits 28 = .ok (.getfield 341, 3) := by decide +kernel
theorem dX12_glitterBits_31 : decode cX12_glitterBits 31 = .ok (.iastore, 1) := by decide +kernel
theorem dX12_glitterBits_32 : decode cX12_glitterBits 32 = .ok (.iinc 3 1, 3) := by decide +kernel
theorem dX12_glitterBits_35 : decode cX12_glitterBits 35 = .ok (.goto (-23), 3) := by decide +kernel
theorem dX12_glitterBits_38 : decode cX12_glitterBits 38 = .ok (.iconst 0, 1) := by decide +kernel
theorem dX12_glitterBits_39 : decode cX12_glitterBits 39 = .ok (.istore_n 3, 1) := by decide +kernel
theorem dX12_glitterBits_40 : decode cX12_glitterBits 40 = .ok (.iload_n 3, 1) := by decide +kernel
theorem dX12_glitterBits_41 : decode cX12_glitterBits 41 = .ok (.iload_n 1, 1) := by decide +kernel
theorem dX12_glitterBits_42 : decode cX12_glitterBits 42 = .ok (.if_icmp .ge 64, 3) := by decide +kernel
theorem dX12_glitterBits_106 : decode cX12_glitterBits 106 = .ok (.iload_n 2, 1) := by decide +kernel
theorem dX12_glitterBits_107 : decode cX12_glitterBits 107 = .ok (.ireturn, 1) := by decide +kernel
set_option maxHeartbeats 4000000 in
set_option maxRecDepth 100000 in
theorem m_glitterBits {l : Launch} {D : va_G} {ids : List Nat} {ad : Nat → Nat} {ca : Nat → ClassId} {σ : HS} (hid : ∀ i, i < 277 → i ∈ ids) (h_236_2 : σ.1 236 2 = 0) (h_236_18 : σ.1 236 18 = 0) (h_236_54 : σ.1 236 54 = 0) (h_236_60 : σ.1 236 60 = 0) (h_245_0 : σ.1 245 0 = 0) (h_252_0 : σ.1 252 0 = 1) (h_253_0 : σ.1 253 0 = 0) (h_266_0 : σ.1 266 0 = 0) (h_266_1 : σ.1 266 1 = 0) (h_266_2 : σ.1 266 2 = 0) (h_266_3 : σ.1 266 3 = 0) (h_266_4 : σ.1 266 4 = 0) (h_266_5 : σ.1 266 5 = 0) (h_266_6 : σ.1 266 6 = 0) (h_266_7 : σ.1 266 7 = 0) (h_266_8 : σ.1 266 8 = 0) (h_266_9 : σ.1 266 9 = 0) (h_266_10 : σ.1 266 10 = 0) (h_266_11 : σ.1 266 11 = 0) (h_266_12 : σ.1 266 12 = 0) (h_266_13 : σ.1 266 13 = 0) (h_266_14 : σ.1 266 14 = 0) (h_266_15 : σ.1 266 15 = 0) (h_266_16 : σ.1 266 16 = 0) (h_266_17 : σ.1 266 17 = 0) (h_266_18 : σ.1 266 18 = 0) (h_266_19 : σ.1 266 19 = 0) (h_266_20 : σ.1 266 20 = 0) (h_266_21 : σ.1 266 21 = 0) (h_266_22 : σ.1 266 22 = 0) (h_266_23 : σ.1 266 23 = 0) (h_266_24 : σ.1 266 24 = 0) (h_266_25 : σ.1 266 25 = 0) (h_266_26 : σ.1 266 26 = (-2)) (h_266_27 : σ.1 266 27 = 0) (h_266_28 : σ.1 266 28 = (-1)) : Ki l D ids ad ca yX12_glitterBits cX12_glitterBits 5 .int 2 43 [.ref (ad 236), .int 0] σ (fun r σ1 => r = 0 ∧ only [267, 236, 274] σ σ1 ∧ σ1.1 236 18 = 0 ∧ σ1.1 236 54 = 0 ∧ σ1.1 236 60 = 0 ∧ σ1.1 236 2 = 0) := by
  refine Ki.of (by decide) (Nat.le_of_ble_eq_true rfl) 3 (fun Γ C Rt => ?_)
  show AW ids ad ca Γ 0 [some (.ref (ad 236)), some (.int 0), none, none, none] [] σ
  refine a_aload_n C dX12_glitterBits_0 (i := 0) rfl rfl ?_
  refine a_callVv C (i := 236) kd_236 (hid 236 (by decide)) ⟨_, _, rfl⟩ (by decide) (m_copiesStill hid h_236_2 h_236_18 h_236_54 h_236_60 h_253_0 h_266_0 h_266_1 h_266_2 h_266_3 h_266_4 h_266_5 h_266_6 h_266_7 h_266_8 h_266_9 h_266_10 h_266_11 h_266_12 h_266_13 h_266_14 h_266_15 h_266_16 h_266_17 h_266_18 h_266_19 h_266_20 h_266_21 h_266_22 h_266_23 h_266_24 h_266_25 h_266_26 h_266_27 h_266_28) mi_X12_copiesStill ml_RX12_429 rfl rfl (Nat.le_of_ble_eq_true rfl) (Nat.le_of_ble_eq_true rfl) (Nat.le_of_ble_eq_true rfl) dX12_glitterBits_1 (fun σ2 q3 => ?_)
  refine a_aload_n C dX12_glitterBits_4 (i := 0) rfl rfl ?_
  refine a_iconst C dX12_glitterBits_5 (v := 0) rfl ?_
  refine a_callVi C (i := 236) kd_236 (hid 236 (by decide)) ⟨_, _, rfl⟩ (by decide) (m_thingsSo hid q3.2.2.2.2.2.2.2.2.2.2.2.2.2.2.2.2.2.2.2.2.2.2.2.2.2.2.2.2.2.2.1 ((congrFun (q3.1.1 245 (by decide)) 0).trans h_245_0)) mi_X12_thingsSo ml_RX12_350 rfl rfl (Nat.le_of_ble_eq_true rfl) (Nat.le_of_ble_eq_true rfl) (Nat.le_of_ble_eq_true rfl) dX12_glitterBits_6 (fun r4 σ5 q6 => ?_)
  obtain ⟨rfl, q6⟩ := q6
  rw [q6]
  refine a_istore_n C dX12_glitterBits_9 (i := 2) rfl (by decide) rfl (vs1 := [some (.ref (ad 236)), some (.int 0), some (.int 0), none, none]) rfl ?_
  refine a_iconst C dX12_glitterBits_10 (v := 0) rfl ?_
  refine a_istore_n C dX12_glitterBits_11 (i := 3) rfl (by decide) rfl (vs1 := [some (.ref (ad 236)), some (.int 0), some (.int 0), some (.int 0), none]) rfl ?_
  have loop : ∀ (d j : Nat) (σ2 : HS), j + d = 41 → (only [267, 236, 274] σ σ2 ∧ σ2.1 267 21 = (nI (0 + j)) ∧ σ2.1 267 22 = 0 ∧ σ2.1 267 23 = 0 ∧ σ2.1 267 25 = 0 ∧ σ2.1 267 26 = (-2) ∧ σ2.1 267 27 = 0 ∧ σ2.1 267 28 = (-1) ∧ σ2.1 236 18 = 0 ∧ σ2.1 236 54 = 0 ∧ σ2.1 236 60 = 0 ∧ σ2.1 236 2 = 0) → AW ids ad ca Γ 12 [some (.ref (ad 236)), some (.int 0), some (.int 0), some (.int (nI j)), none] [] σ2 := by
    intro d
    induction d with
    | zero =>
      intro j σ2 hj hV
      refine a_iload_n C dX12_glitterBits_12 (i := 3) rfl rfl ?_
      refine a_bipush C dX12_glitterBits_13 (v := 40) rfl ?_
      refine a_ic_gt C dX12_glitterBits_15 (tgt := 38) rfl (fun c7 => ?_) (fun c7 => absurd c7 (fun q => q (nI_lt (a := (40)) (b := (j)) (by omega) (by omega))))
      refine a_iconst C dX12_glitterBits_38 (v := 0) rfl ?_
      refine a_istore_n C dX12_glitterBits_39 (i := 3) rfl (by decide) rfl (vs1 := [some (.ref (ad 236)), some (.int 0), some (.int 0), some (.int 0), none]) rfl ?_
      refine a_iload_n C dX12_glitterBits_40 (i := 3) rfl rfl ?_
      refine a_iload_n C dX12_glitterBits_41 (i := 1) rfl rfl ?_
      refine a_ic_ge C dX12_glitterBits_42 (tgt := 106) rfl (fun _ => ?_) (fun h => absurd h (by decide))
      refine a_iload_n C dX12_glitterBits_106 (i := 2) rfl rfl ?_
      exact a_iret Rt dX12_glitterBits_107 rfl (⟨rfl, (only.tr only.rf (only.mono hV.1 (by decide))), hV.2.2.2.2.2.2.2.2.1, hV.2.2.2.2.2.2.2.2.2.1, hV.2.2.2.2.2.2.2.2.2.2.1, hV.2.2.2.2.2.2.2.2.2.2.2⟩)
    | succ d ih =>
      intro j σ2 hj hV
      refine a_iload_n C dX12_glitterBits_12 (i := 3) rfl rfl ?_
      refine a_bipush C dX12_glitterBits_13 (v := 40) rfl ?_
      refine a_ic_gt C dX12_glitterBits_15 (tgt := 38) rfl (fun c8 => absurd c8 (nI_nlt (a := (40)) (b := (j)) (by omega) (by omega))) (fun c8 => ?_)
      refine a_aload_n C dX12_glitterBits_18 (i := 0) rfl rfl ?_
      refine a_callVv C (i := 236) kd_236 (hid 236 (by decide)) ⟨_, _, rfl⟩ (by decide) (m_beatGoes hid (bt := 0 + j) hV.2.1 hV.2.2.2.2.2.2.2.2.2.2.2 hV.2.2.2.2.2.2.2.2.1 hV.2.2.2.2.2.2.2.2.2.1 hV.2.2.2.2.2.2.2.2.2.2.1 ((congrFun (hV.1.1 245 (by decide)) 0).trans h_245_0) ((congrFun (hV.1.1 252 (by decide)) 0).trans h_252_0) hV.2.2.1 hV.2.2.2.1 hV.2.2.2.2.1 hV.2.2.2.2.2.1 hV.2.2.2.2.2.2.1) mi_X12_beatGoes ml_RX12_387 rfl rfl (Nat.le_of_ble_eq_true rfl) (Nat.le_of_ble_eq_true rfl) (Nat.le_of_ble_eq_true rfl) dX12_glitterBits_19 (fun σ10 q11 => ?_)
      refine a_aload_n C dX12_glitterBits_22 (i := 0) rfl rfl ?_
      refine a_get C fl_RX12_131 (i := 236) kd_236 (hid 236 (by decide)) (v := .ref (ad 274)) rfl dX12_glitterBits_23 ?_
      refine a_iload_n C dX12_glitterBits_26 (i := 3) rfl rfl ?_
      refine a_aload_n C dX12_glitterBits_27 (i := 0) rfl rfl ?_
      refine a_get C fl_RX12_341 (i := 236) kd_236 (hid 236 (by decide)) (v := .int (-2)) (congrArg (fun z => some (Value.int z)) q11.2.2.2.2.2.2.2.2.1) dX12_glitterBits_28 ?_
      refine a_iast C (i := 274) (j) kd_274 (hid 274 (by decide)) (nI_pos (by omega)) (nI_clamp (by omega)) (by rw [al_274]; omega) dX12_glitterBits_31 ?_
      refine a_iinc C dX12_glitterBits_32 rfl (v := (nI (j + 1))) (nI_1 _) (by decide) rfl (vs1 := [some (.ref (ad 236)), some (.int 0), some (.int 0), some (.int (nI (j + 1))), none]) rfl ?_
      refine a_goto C dX12_glitterBits_35 (tgt := 12) rfl ?_
      exact ih (j + 1) _ (by omega) ⟨(only.I (only.tr (only.tr only.rf (only.mono hV.1 (by decide))) (only.mono q11.1 (by decide))) (by decide)), (Eq.trans q11.2.1 (congrArg nI (show 0 + j + 1 = 0 + (j + 1) by omega))), q11.2.2.1, q11.2.2.2.1, q11.2.2.2.2.1, q11.2.2.2.2.2.1, q11.2.2.2.2.2.2.1, q11.2.2.2.2.2.2.2.1, q11.2.2.2.2.2.2.2.2.2.2.2.1, q11.2.2.2.2.2.2.2.2.2.2.2.2.1, q11.2.2.2.2.2.2.2.2.2.2.2.2.2.1, q11.2.2.2.2.2.2.2.2.2.2.2.2.2.2⟩
  exact loop (41 - 0) 0 _ (by omega) ⟨(only.tr only.rf (only.mono q3.1 (by decide))), (Eq.trans q3.2.2.2.2.2.2.2.2.2.2.2.2.2.2.2.2.2.2.2.2.2.2.1 (congrArg nI (show 0 = 0 + 0 by omega))), q3.2.2.2.2.2.2.2.2.2.2.2.2.2.2.2.2.2.2.2.2.2.2.2.1, q3.2.2.2.2.2.2.2.2.2.2.2.2.2.2.2.2.2.2.2.2.2.2.2.2.1, q3.2.2.2.2.2.2.2.2.2.2.2.2.2.2.2.2.2.2.2.2.2.2.2.2.2.2.1, q3.2.2.2.2.2.2.2.2.2.2.2.2.2.2.2.2.2.2.2.2.2.2.2.2.2.2.2.1, q3.2.2.2.2.2.2.2.2.2.2.2.2.2.2.2.2.2.2.2.2.2.2.2.2.2.2.2.2.1, q3.2.2.2.2.2.2.2.2.2.2.2.2.2.2.2.2.2.2.2.2.2.2.2.2.2.2.2.2.2.1, q3.2.2.2.2.2.2.2.2.2.2.2.2.2.2.2.2.2.2.2.2.2.2.2.2.2.2.2.2.2.2.1, q3.2.2.2.2.2.2.2.2.2.2.2.2.2.2.2.2.2.2.2.2.2.2.2.2.2.2.2.2.2.2.2.1, q3.2.2.2.2.2.2.2.2.2.2.2.2.2.2.2.2.2.2.2.2.2.2.2.2.2.2.2.2.2.2.2.2.1, q3.2.2.2.2.2.2.2.2.2.2.2.2.2.2.2.2.2.2.2.2.2.2.2.2.2.2.2.2.2.2.2.2.2⟩
theorem dX12_watch_0 : decode cX12_watch 0 = .ok (.iload_n 1, 1) := by decide +kernel
theorem dX12_watch_1 : decode cX12_watch 1 = .ok (.iconst 0, 1) := by decide +kernel
theorem dX12_watch_2 : decode cX12_watch 2 = .ok (.aload_n 0, 1) := by decide +kernel
theorem dX12_watch_3 : decode cX12_watch 3 = .ok (.getfield 242, 3) := by decide +kernel
theorem dX12_watch_6 : decode cX12_watch 6 = .ok (.invokestatic 301, 3) := by decide +kernel
theorem dX12_watch_9 : decode cX12_watch 9 = .ok (.ifCond .ne 5, 3) := by decide +kernel
theorem dX12_watch_14 : decode cX12_watch 14 = .ok (.aload_n 0, 1) := by decide +kernel
theorem dX12_watch_15 : decode cX12_watch 15 = .ok (.iload_n 1, 1) := by decide +kernel
theorem dX12_watch_16 : decode cX12_watch 16 = .ok (.invokevirtual 458, 3) := by decide +kernel
theorem dX12_watch_19 : decode cX12_watch 19 = .ok (.istore_n 2, 1) := by decide +kernel
theorem dX12_watch_20 : decode cX12_watch 20 = .ok (.iload_n 2, 1) := by decide +kernel
theorem dX12_watch_21 : decode cX12_watch 21 = .ok (.invokestatic 353, 3) := by decide +kernel
theorem dX12_watch_24 : decode cX12_watch 24 = .ok (.istore_n 3, 1) := by decide +kernel
theorem dX12_watch_25 : decode cX12_watch 25 = .ok (.bipush (-2), 2) := by decide +kernel
theorem dX12_watch_27 : decode cX12_watch 27 = .ok (.istore 4, 2) := by decide +kernel
theorem dX12_watch_29 : decode cX12_watch 29 = .ok (.iconst 0, 1) := by decide +kernel
theorem dX12_watch_30 : decode cX12_watch 30 = .ok (.istore 5, 2) := by decide +kernel
theorem dX12_watch_32 : decode cX12_watch 32 = .ok (.iconst 0, 1) := by decide +kernel
theorem dX12_watch_33 : decode cX12_watch 33 = .ok (.istore 6, 2) := by decide +kernel
theorem dX12_watch_35 : decode cX12_watch 35 = .ok (.iload 6, 2) := by decide +kernel
theorem dX12_watch_37 : decode cX12_watch 37 = .ok (.bipush 40, 2) := by decide +kernel
theorem dX12_watch_39 : decode cX12_watch 39 = .ok (.if_icmp .gt 88, 3) := by decide +kernel
theorem dX12_watch_42 : decode cX12_watch 42 = .ok (.iload_n 3, 1) := by decide +kernel
theorem dX12_watch_43 : decode cX12_watch 43 = .ok (.ifCond .le 84, 3) := by decide +kernel
theorem dX12_watch_127 : decode cX12_watch 127 = .ok (.iload 4, 2) := by decide +kernel
theorem dX12_watch_129 : decode cX12_watch 129 = .ok (.ireturn, 1) := by decide +kernel
set_option maxHeartbeats 4000000 in
set_option maxRecDepth 100000 in
theorem q_watch_0 {l : Launch} {D : va_G} {ids : List Nat} {ad : Nat → Nat} {ca : Nat → ClassId} {σ : HS} (hid : ∀ i, i < 277 → i ∈ ids) (h_236_2 : σ.1 236 2 = 0) (h_236_18 : σ.1 236 18 = 0) (h_236_54 : σ.1 236 54 = 0) (h_236_60 : σ.1 236 60 = 0) (h_245_0 : σ.1 245 0 = 0) (h_252_0 : σ.1 252 0 = 1) (h_253_0 : σ.1 253 0 = 0) (h_266_0 : σ.1 266 0 = 0) (h_266_1 : σ.1 266 1 = 0) (h_266_2 : σ.1 266 2 = 0) (h_266_3 : σ.1 266 3 = 0) (h_266_4 : σ.1 266 4 = 0) (h_266_5 : σ.1 266 5 = 0) (h_266_6 : σ.1 266 6 = 0) (h_266_7 : σ.1 266 7 = 0) (h_266_8 : σ.1 266 8 = 0) (h_266_9 : σ.1 266 9 = 0) (h_266_10 : σ.1 266 10 = 0) (h_266_11 : σ.1 266 11 = 0) (h_266_12 : σ.1 266 12 = 0) (h_266_13 : σ.1 266 13 = 0) (h_266_14 : σ.1 266 14 = 0) (h_266_15 : σ.1 266 15 = 0) (h_266_16 : σ.1 266 16 = 0) (h_266_17 : σ.1 266 17 = 0) (h_266_18 : σ.1 266 18 = 0) (h_266_19 : σ.1 266 19 = 0) (h_266_20 : σ.1 266 20 = 0) (h_266_21 : σ.1 266 21 = 0) (h_266_22 : σ.1 266 22 = 0) (h_266_23 : σ.1 266 23 = 0) (h_266_24 : σ.1 266 24 = 0) (h_266_25 : σ.1 266 25 = 0) (h_266_26 : σ.1 266 26 = (-2)) (h_266_27 : σ.1 266 27 = 0) (h_266_28 : σ.1 266 28 = (-1)) : Ki l D ids ad ca yX12_watch cX12_watch 9 .int 3 67 [.ref (ad 236), .int 0] σ (fun r _ => r = (-2)) := by
  refine Ki.of (by decide) (Nat.le_of_ble_eq_true rfl) 7 (fun Γ C Rt => ?_)
  show AW ids ad ca Γ 0 [some (.ref (ad 236)), some (.int 0), none, none, none, none, none, none, none] [] σ
  refine a_iload_n C dX12_watch_0 (i := 1) rfl rfl ?_
  refine a_iconst C dX12_watch_1 (v := 0) rfl ?_
  refine a_aload_n C dX12_watch_2 (i := 0) rfl rfl ?_
  refine a_get C fl_RX12_242 (i := 236) kd_236 (hid 236 (by decide)) (v := .int 0) (congrArg (fun z => some (Value.int z)) h_236_60) dX12_watch_3 ?_
  refine a_callSi C (m_in_yes hid (by decide) (by decide)) ms_X12_in ml_RX12_301 rfl rfl (Nat.le_of_ble_eq_true rfl) (Nat.le_of_ble_eq_true rfl) (Nat.le_of_ble_eq_true rfl) dX12_watch_6 (fun r1 σ2 q3 => ?_)
  obtain ⟨rfl, q3⟩ := q3
  rw [q3]
  refine a_if_ne C dX12_watch_9 (tgt := 14) rfl (fun _ => ?_) (fun h => absurd h (by decide))
  refine a_aload_n C dX12_watch_14 (i := 0) rfl rfl ?_
  refine a_iload_n C dX12_watch_15 (i := 1) rfl rfl ?_
  refine a_callVi C (i := 236) kd_236 (hid 236 (by decide)) ⟨_, _, rfl⟩ (by decide) (m_glitterBits hid h_236_2 h_236_18 h_236_54 h_236_60 h_245_0 h_252_0 h_253_0 h_266_0 h_266_1 h_266_2 h_266_3 h_266_4 h_266_5 h_266_6 h_266_7 h_266_8 h_266_9 h_266_10 h_266_11 h_266_12 h_266_13 h_266_14 h_266_15 h_266_16 h_266_17 h_266_18 h_266_19 h_266_20 h_266_21 h_266_22 h_266_23 h_266_24 h_266_25 h_266_26 h_266_27 h_266_28) mi_X12_glitterBits ml_RX12_458 rfl rfl (Nat.le_of_ble_eq_true rfl) (Nat.le_of_ble_eq_true rfl) (Nat.le_of_ble_eq_true rfl) dX12_watch_16 (fun r4 σ5 q6 => ?_)
  obtain ⟨rfl, q6⟩ := q6
  refine a_istore_n C dX12_watch_19 (i := 2) rfl (by decide) rfl (vs1 := [some (.ref (ad 236)), some (.int 0), some (.int 0), none, none, none, none, none, none]) rfl ?_
  refine a_iload_n C dX12_watch_20 (i := 2) rfl rfl ?_
  refine a_callSi C (m_bits hid) ms_X12_bits ml_RX12_353 rfl rfl (Nat.le_of_ble_eq_true rfl) (Nat.le_of_ble_eq_true rfl) (Nat.le_of_ble_eq_true rfl) dX12_watch_21 (fun r7 σ8 q9 => ?_)
  obtain ⟨rfl, q9⟩ := q9
  rw [q9]
  refine a_istore_n C dX12_watch_24 (i := 3) rfl (by decide) rfl (vs1 := [some (.ref (ad 236)), some (.int 0), some (.int 0), some (.int 0), none, none, none, none, none]) rfl ?_
  refine a_bipush C dX12_watch_25 (v := (-2)) rfl ?_
  refine a_istore C dX12_watch_27 (by decide) rfl (vs1 := [some (.ref (ad 236)), some (.int 0), some (.int 0), some (.int 0), some (.int (-2)), none, none, none, none]) rfl ?_
  refine a_iconst C dX12_watch_29 (v := 0) rfl ?_
  refine a_istore C dX12_watch_30 (by decide) rfl (vs1 := [some (.ref (ad 236)), some (.int 0), some (.int 0), some (.int 0), some (.int (-2)), some (.int 0), none, none, none]) rfl ?_
  refine a_iconst C dX12_watch_32 (v := 0) rfl ?_
  refine a_istore C dX12_watch_33 (by decide) rfl (vs1 := [some (.ref (ad 236)), some (.int 0), some (.int 0), some (.int 0), some (.int (-2)), some (.int 0), some (.int 0), none, none]) rfl ?_
  refine a_iload C dX12_watch_35 rfl ?_
  refine a_bipush C dX12_watch_37 (v := 40) rfl ?_
  refine a_ic_gt C dX12_watch_39 (tgt := 127) rfl (fun h => absurd h (by decide)) (fun _ => ?_)
  refine a_iload_n C dX12_watch_42 (i := 3) rfl rfl ?_
  refine a_if_le C dX12_watch_43 (tgt := 127) rfl (fun _ => ?_) (fun h => absurd h (by decide))
  refine a_iload C dX12_watch_127 rfl ?_
  exact a_iret Rt dX12_watch_129 rfl (rfl)
theorem dX12_watch_12 : decode cX12_watch 12 = .ok (.iconst (-1), 1) := by decide +kernel
theorem dX12_watch_13 : decode cX12_watch 13 = .ok (.ireturn, 1) := by decide +kernel
set_option maxHeartbeats 4000000 in
set_option maxRecDepth 100000 in
theorem q_watch_out {l : Launch} {D : va_G} {ids : List Nat} {ad : Nat → Nat} {ca : Nat → ClassId} {σ : HS} {p0 : Int32} (hid : ∀ i, i < 277 → i ∈ ids) (ho : p0 < 0 ∨ 0 < p0) (h_236_60 : σ.1 236 60 = 0) : Ki l D ids ad ca yX12_watch cX12_watch 9 .int 1 22 [.ref (ad 236), .int p0] σ (fun r _ => r = (-1)) := by
  refine Ki.of (by decide) (Nat.le_of_ble_eq_true rfl) 7 (fun Γ C Rt => ?_)
  show AW ids ad ca Γ 0 [some (.ref (ad 236)), some (.int p0), none, none, none, none, none, none, none] [] σ
  refine a_iload_n C dX12_watch_0 (i := 1) rfl rfl ?_
  refine a_iconst C dX12_watch_1 (v := 0) rfl ?_
  refine a_aload_n C dX12_watch_2 (i := 0) rfl rfl ?_
  refine a_get C fl_RX12_242 (i := 236) kd_236 (hid 236 (by decide)) (v := .int 0) (congrArg (fun z => some (Value.int z)) h_236_60) dX12_watch_3 ?_
  refine a_callSi C (m_in_no hid ho) ms_X12_in ml_RX12_301 rfl rfl (Nat.le_of_ble_eq_true rfl) (Nat.le_of_ble_eq_true rfl) (Nat.le_of_ble_eq_true rfl) dX12_watch_6 (fun r1 σ2 q3 => ?_)
  obtain ⟨rfl, q3⟩ := q3
  rw [q3]
  refine a_if_ne C dX12_watch_9 (tgt := 14) rfl (fun h => absurd h (by decide)) (fun _ => ?_)
  refine a_iconst C dX12_watch_12 (v := (-1)) rfl ?_
  exact a_iret Rt dX12_watch_13 rfl (rfl)
theorem dX12_glitters_0 : decode cX12_glitters 0 = .ok (.iload_n 1, 1) := by decide +kernel
theorem dX12_glitters_1 : decode cX12_glitters 1 = .ok (.iconst 0, 1) := by decide +kernel
theorem dX12_glitters_2 : decode cX12_glitters 2 = .ok (.aload_n 0, 1) := by decide +kernel
theorem dX12_glitters_3 : decode cX12_glitters 3 = .ok (.getfield 242, 3) := by decide +kernel
theorem dX12_glitters_6 : decode cX12_glitters 6 = .ok (.invokestatic 301, 3) := by decide +kernel
theorem dX12_glitters_9 : decode cX12_glitters 9 = .ok (.ifCond .eq 12, 3) := by decide +kernel
theorem dX12_glitters_12 : decode cX12_glitters 12 = .ok (.iload_n 2, 1) := by decide +kernel
theorem dX12_glitters_13 : decode cX12_glitters 13 = .ok (.iconst 0, 1) := by decide +kernel
theorem dX12_glitters_14 : decode cX12_glitters 14 = .ok (.iconst 1, 1) := by decide +kernel
theorem dX12_glitters_15 : decode cX12_glitters 15 = .ok (.invokestatic 301, 3) := by decide +kernel
theorem dX12_glitters_18 : decode cX12_glitters 18 = .ok (.ifCond .ne 5, 3) := by decide +kernel
theorem dX12_glitters_23 : decode cX12_glitters 23 = .ok (.aload_n 0, 1) := by decide +kernel
theorem dX12_glitters_24 : decode cX12_glitters 24 = .ok (.iload_n 1, 1) := by decide +kernel
theorem dX12_glitters_25 : decode cX12_glitters 25 = .ok (.invokevirtual 458, 3) := by decide +kernel
theorem dX12_glitters_28 : decode cX12_glitters 28 = .ok (.istore_n 3, 1) := by decide +kernel
theorem dX12_glitters_29 : decode cX12_glitters 29 = .ok (.iload_n 2, 1) := by decide +kernel
theorem dX12_glitters_30 : decode cX12_glitters 30 = .ok (.ifCond .ne 10, 3) := by decide +kernel
theorem dX12_glitters_33 : decode cX12_glitters 33 = .ok (.iload_n 3, 1) := by decide +kernel
theorem dX12_glitters_34 : decode cX12_glitters 34 = .ok (.invokestatic 353, 3) := by decide +kernel
theorem dX12_glitters_37 : decode cX12_glitters 37 = .ok (.goto 4, 3) := by decide +kernel
theorem dX12_glitters_40 : decode cX12_glitters 40 = .ok (.iload_n 3, 1) := by decide +kernel
theorem dX12_glitters_41 : decode cX12_glitters 41 = .ok (.ireturn, 1) := by decide +kernel
set_option maxHeartbeats 4000000 in
set_option maxRecDepth 100000 in
theorem q_glitters_in {l : Launch} {D : va_G} {ids : List Nat} {ad : Nat → Nat} {ca : Nat → ClassId} {σ : HS} {p1 : Int32} (hid : ∀ i, i < 277 → i ∈ ids) (w1 : ¬ p1 < 0) (w2 : p1 ≤ 1) (h_236_2 : σ.1 236 2 = 0) (h_236_18 : σ.1 236 18 = 0) (h_236_54 : σ.1 236 54 = 0) (h_236_60 : σ.1 236 60 = 0) (h_245_0 : σ.1 245 0 = 0) (h_252_0 : σ.1 252 0 = 1) (h_253_0 : σ.1 253 0 = 0) (h_266_0 : σ.1 266 0 = 0) (h_266_1 : σ.1 266 1 = 0) (h_266_2 : σ.1 266 2 = 0) (h_266_3 : σ.1 266 3 = 0) (h_266_4 : σ.1 266 4 = 0) (h_266_5 : σ.1 266 5 = 0) (h_266_6 : σ.1 266 6 = 0) (h_266_7 : σ.1 266 7 = 0) (h_266_8 : σ.1 266 8 = 0) (h_266_9 : σ.1 266 9 = 0) (h_266_10 : σ.1 266 10 = 0) (h_266_11 : σ.1 266 11 = 0) (h_266_12 : σ.1 266 12 = 0) (h_266_13 : σ.1 266 13 = 0) (h_266_14 : σ.1 266 14 = 0) (h_266_15 : σ.1 266 15 = 0) (h_266_16 : σ.1 266 16 = 0) (h_266_17 : σ.1 266 17 = 0) (h_266_18 : σ.1 266 18 = 0) (h_266_19 : σ.1 266 19 = 0) (h_266_20 : σ.1 266 20 = 0) (h_266_21 : σ.1 266 21 = 0) (h_266_22 : σ.1 266 22 = 0) (h_266_23 : σ.1 266 23 = 0) (h_266_24 : σ.1 266 24 = 0) (h_266_25 : σ.1 266 25 = 0) (h_266_26 : σ.1 266 26 = (-2)) (h_266_27 : σ.1 266 27 = 0) (h_266_28 : σ.1 266 28 = (-1)) : Ki l D ids ad ca yX12_glitters cX12_glitters 4 .int 3 67 [.ref (ad 236), .int 0, .int p1] σ (fun r _ => r = 0) := by
  refine Ki.of (by decide) (Nat.le_of_ble_eq_true rfl) 1 (fun Γ C Rt => ?_)
  show AW ids ad ca Γ 0 [some (.ref (ad 236)), some (.int 0), some (.int p1), none] [] σ
  refine a_iload_n C dX12_glitters_0 (i := 1) rfl rfl ?_
  refine a_iconst C dX12_glitters_1 (v := 0) rfl ?_
  refine a_aload_n C dX12_glitters_2 (i := 0) rfl rfl ?_
  refine a_get C fl_RX12_242 (i := 236) kd_236 (hid 236 (by decide)) (v := .int 0) (congrArg (fun z => some (Value.int z)) h_236_60) dX12_glitters_3 ?_
  refine a_callSi C (m_in_yes hid (by decide) (by decide)) ms_X12_in ml_RX12_301 rfl rfl (Nat.le_of_ble_eq_true rfl) (Nat.le_of_ble_eq_true rfl) (Nat.le_of_ble_eq_true rfl) dX12_glitters_6 (fun r1 σ2 q3 => ?_)
  obtain ⟨rfl, q3⟩ := q3
  rw [q3]
  refine a_if_eq C dX12_glitters_9 (tgt := 21) rfl (fun h => absurd h (by decide)) (fun _ => ?_)
  refine a_iload_n C dX12_glitters_12 (i := 2) rfl rfl ?_
  refine a_iconst C dX12_glitters_13 (v := 0) rfl ?_
  refine a_iconst C dX12_glitters_14 (v := 1) rfl ?_
  refine a_callSi C (m_in_yes hid w1 w2) ms_X12_in ml_RX12_301 rfl rfl (Nat.le_of_ble_eq_true rfl) (Nat.le_of_ble_eq_true rfl) (Nat.le_of_ble_eq_true rfl) dX12_glitters_15 (fun r4 σ5 q6 => ?_)
  obtain ⟨rfl, q6⟩ := q6
  rw [q6]
  refine a_if_ne C dX12_glitters_18 (tgt := 23) rfl (fun _ => ?_) (fun h => absurd h (by decide))
  refine a_aload_n C dX12_glitters_23 (i := 0) rfl rfl ?_
  refine a_iload_n C dX12_glitters_24 (i := 1) rfl rfl ?_
  refine a_callVi C (i := 236) kd_236 (hid 236 (by decide)) ⟨_, _, rfl⟩ (by decide) (m_glitterBits hid h_236_2 h_236_18 h_236_54 h_236_60 h_245_0 h_252_0 h_253_0 h_266_0 h_266_1 h_266_2 h_266_3 h_266_4 h_266_5 h_266_6 h_266_7 h_266_8 h_266_9 h_266_10 h_266_11 h_266_12 h_266_13 h_266_14 h_266_15 h_266_16 h_266_17 h_266_18 h_266_19 h_266_20 h_266_21 h_266_22 h_266_23 h_266_24 h_266_25 h_266_26 h_266_27 h_266_28) mi_X12_glitterBits ml_RX12_458 rfl rfl (Nat.le_of_ble_eq_true rfl) (Nat.le_of_ble_eq_true rfl) (Nat.le_of_ble_eq_true rfl) dX12_glitters_25 (fun r7 σ8 q9 => ?_)
  obtain ⟨rfl, q9⟩ := q9
  refine a_istore_n C dX12_glitters_28 (i := 3) rfl (by decide) rfl (vs1 := [some (.ref (ad 236)), some (.int 0), some (.int p1), some (.int 0)]) rfl ?_
  refine a_iload_n C dX12_glitters_29 (i := 2) rfl rfl ?_
  refine a_if_ne C dX12_glitters_30 (tgt := 40) rfl (fun c10 => ?_) (fun c10 => ?_)
  ·
    refine a_iload_n C dX12_glitters_40 (i := 3) rfl rfl ?_
    exact a_iret Rt dX12_glitters_41 rfl (rfl)
  ·
    refine a_iload_n C dX12_glitters_33 (i := 3) rfl rfl ?_
    refine a_callSi C (m_bits hid) ms_X12_bits ml_RX12_353 rfl rfl (Nat.le_of_ble_eq_true rfl) (Nat.le_of_ble_eq_true rfl) (Nat.le_of_ble_eq_true rfl) dX12_glitters_34 (fun r11 σ12 q13 => ?_)
    obtain ⟨rfl, q13⟩ := q13
    rw [q13]
    refine a_goto C dX12_glitters_37 (tgt := 41) rfl ?_
    exact a_iret Rt dX12_glitters_41 rfl (rfl)
theorem dX12_glitters_21 : decode cX12_glitters 21 = .ok (.iconst (-1), 1) := by decide +kernel
theorem dX12_glitters_22 : decode cX12_glitters 22 = .ok (.ireturn, 1) := by decide +kernel
set_option maxHeartbeats 4000000 in
set_option maxRecDepth 100000 in
theorem q_glitters_w {l : Launch} {D : va_G} {ids : List Nat} {ad : Nat → Nat} {ca : Nat → ClassId} {σ : HS} {p1 : Int32} (hid : ∀ i, i < 277 → i ∈ ids) (ho : p1 < 0 ∨ 1 < p1) (h_236_60 : σ.1 236 60 = 0) : Ki l D ids ad ca yX12_glitters cX12_glitters 4 .int 1 22 [.ref (ad 236), .int 0, .int p1] σ (fun r _ => r = (-1)) := by
  refine Ki.of (by decide) (Nat.le_of_ble_eq_true rfl) 1 (fun Γ C Rt => ?_)
  show AW ids ad ca Γ 0 [some (.ref (ad 236)), some (.int 0), some (.int p1), none] [] σ
  refine a_iload_n C dX12_glitters_0 (i := 1) rfl rfl ?_
  refine a_iconst C dX12_glitters_1 (v := 0) rfl ?_
  refine a_aload_n C dX12_glitters_2 (i := 0) rfl rfl ?_
  refine a_get C fl_RX12_242 (i := 236) kd_236 (hid 236 (by decide)) (v := .int 0) (congrArg (fun z => some (Value.int z)) h_236_60) dX12_glitters_3 ?_
  refine a_callSi C (m_in_yes hid (by decide) (by decide)) ms_X12_in ml_RX12_301 rfl rfl (Nat.le_of_ble_eq_true rfl) (Nat.le_of_ble_eq_true rfl) (Nat.le_of_ble_eq_true rfl) dX12_glitters_6 (fun r1 σ2 q3 => ?_)
  obtain ⟨rfl, q3⟩ := q3
  rw [q3]
  refine a_if_eq C dX12_glitters_9 (tgt := 21) rfl (fun h => absurd h (by decide)) (fun _ => ?_)
  refine a_iload_n C dX12_glitters_12 (i := 2) rfl rfl ?_
  refine a_iconst C dX12_glitters_13 (v := 0) rfl ?_
  refine a_iconst C dX12_glitters_14 (v := 1) rfl ?_
  refine a_callSi C (m_in_no hid ho) ms_X12_in ml_RX12_301 rfl rfl (Nat.le_of_ble_eq_true rfl) (Nat.le_of_ble_eq_true rfl) (Nat.le_of_ble_eq_true rfl) dX12_glitters_15 (fun r4 σ5 q6 => ?_)
  obtain ⟨rfl, q6⟩ := q6
  rw [q6]
  refine a_if_ne C dX12_glitters_18 (tgt := 23) rfl (fun h => absurd h (by decide)) (fun _ => ?_)
  refine a_iconst C dX12_glitters_21 (v := (-1)) rfl ?_
  exact a_iret Rt dX12_glitters_22 rfl (rfl)
set_option maxHeartbeats 4000000 in
set_option maxRecDepth 100000 in
theorem q_glitters_out {l : Launch} {D : va_G} {ids : List Nat} {ad : Nat → Nat} {ca : Nat → ClassId} {σ : HS} {p0 : Int32} {p1 : Int32} (hid : ∀ i, i < 277 → i ∈ ids) (ho : p0 < 0 ∨ 0 < p0) (h_236_60 : σ.1 236 60 = 0) : Ki l D ids ad ca yX12_glitters cX12_glitters 4 .int 1 22 [.ref (ad 236), .int p0, .int p1] σ (fun r _ => r = (-1)) := by
  refine Ki.of (by decide) (Nat.le_of_ble_eq_true rfl) 1 (fun Γ C Rt => ?_)
  show AW ids ad ca Γ 0 [some (.ref (ad 236)), some (.int p0), some (.int p1), none] [] σ
  refine a_iload_n C dX12_glitters_0 (i := 1) rfl rfl ?_
  refine a_iconst C dX12_glitters_1 (v := 0) rfl ?_
  refine a_aload_n C dX12_glitters_2 (i := 0) rfl rfl ?_
  refine a_get C fl_RX12_242 (i := 236) kd_236 (hid 236 (by decide)) (v := .int 0) (congrArg (fun z => some (Value.int z)) h_236_60) dX12_glitters_3 ?_
  refine a_callSi C (m_in_no hid ho) ms_X12_in ml_RX12_301 rfl rfl (Nat.le_of_ble_eq_true rfl) (Nat.le_of_ble_eq_true rfl) (Nat.le_of_ble_eq_true rfl) dX12_glitters_6 (fun r1 σ2 q3 => ?_)
  obtain ⟨rfl, q3⟩ := q3
  rw [q3]
  refine a_if_eq C dX12_glitters_9 (tgt := 21) rfl (fun _ => ?_) (fun h => absurd h (by decide))
  refine a_iconst C dX12_glitters_21 (v := (-1)) rfl ?_
  exact a_iret Rt dX12_glitters_22 rfl (rfl)
theorem dX12_then_0 : decode cX12_then 0 = .ok (.iload_n 1, 1) := by decide +kernel
theorem dX12_then_1 : decode cX12_then 1 = .ok (.invokestatic 402, 3) := by decide +kernel
theorem dX12_then_4 : decode cX12_then 4 = .ok (.ifCond .eq 12, 3) := by decide +kernel
theorem dX12_then_7 : decode cX12_then 7 = .ok (.iload_n 2, 1) := by decide +kernel
theorem dX12_then_8 : decode cX12_then 8 = .ok (.iconst 0, 1) := by decide +kernel
theorem dX12_then_9 : decode cX12_then 9 = .ok (.iconst 3, 1) := by decide +kernel
theorem dX12_then_10 : decode cX12_then 10 = .ok (.invokestatic 301, 3) := by decide +kernel
theorem dX12_then_13 : decode cX12_then 13 = .ok (.ifCond .ne 5, 3) := by decide +kernel
theorem dX12_then_18 : decode cX12_then 18 = .ok (.aload_n 0, 1) := by decide +kernel
theorem dX12_then_19 : decode cX12_then 19 = .ok (.invokevirtual 311, 3) := by decide +kernel
theorem dX12_then_22 : decode cX12_then 22 = .ok (.aload_n 0, 1) := by decide +kernel
theorem dX12_then_23 : decode cX12_then 23 = .ok (.iload_n 1, 1) := by decide +kernel
theorem dX12_then_24 : decode cX12_then 24 = .ok (.invokevirtual 405, 3) := by decide +kernel
theorem dX12_then_27 : decode cX12_then 27 = .ok (.iload_n 2, 1) := by decide +kernel
theorem dX12_then_28 : decode cX12_then 28 = .ok (.tableswitch 61 0 2 #[28, 36, 45], 28) := by decide +kernel
theorem dX12_then_56 : decode cX12_then 56 = .ok (.aload_n 0, 1) := by decide +kernel
theorem dX12_then_57 : decode cX12_then 57 = .ok (.getfield 110, 3) := by decide +kernel
theorem dX12_then_60 : decode cX12_then 60 = .ok (.bipush 22, 2) := by decide +kernel
theorem dX12_then_62 : decode cX12_then 62 = .ok (.iaload, 1) := by decide +kernel
theorem dX12_then_63 : decode cX12_then 63 = .ok (.ireturn, 1) := by decide +kernel
set_option maxHeartbeats 4000000 in
set_option maxRecDepth 100000 in
theorem q_then_0 {l : Launch} {D : va_G} {ids : List Nat} {ad : Nat → Nat} {ca : Nat → ClassId} {σ : HS} {m : Nat} (hid : ∀ i, i < 277 → i ∈ ids) (hm : m ≤ 60) (h_236_2 : σ.1 236 2 = 0) (h_236_18 : σ.1 236 18 = 0) (h_236_54 : σ.1 236 54 = 0) (h_236_60 : σ.1 236 60 = 0) (h_245_0 : σ.1 245 0 = 0) (h_252_0 : σ.1 252 0 = 1) (h_253_0 : σ.1 253 0 = 0) (h_266_0 : σ.1 266 0 = 0) (h_266_1 : σ.1 266 1 = 0) (h_266_2 : σ.1 266 2 = 0) (h_266_3 : σ.1 266 3 = 0) (h_266_4 : σ.1 266 4 = 0) (h_266_5 : σ.1 266 5 = 0) (h_266_6 : σ.1 266 6 = 0) (h_266_7 : σ.1 266 7 = 0) (h_266_8 : σ.1 266 8 = 0) (h_266_9 : σ.1 266 9 = 0) (h_266_10 : σ.1 266 10 = 0) (h_266_11 : σ.1 266 11 = 0) (h_266_12 : σ.1 266 12 = 0) (h_266_13 : σ.1 266 13 = 0) (h_266_14 : σ.1 266 14 = 0) (h_266_15 : σ.1 266 15 = 0) (h_266_16 : σ.1 266 16 = 0) (h_266_17 : σ.1 266 17 = 0) (h_266_18 : σ.1 266 18 = 0) (h_266_19 : σ.1 266 19 = 0) (h_266_20 : σ.1 266 20 = 0) (h_266_21 : σ.1 266 21 = 0) (h_266_22 : σ.1 266 22 = 0) (h_266_23 : σ.1 266 23 = 0) (h_266_24 : σ.1 266 24 = 0) (h_266_25 : σ.1 266 25 = 0) (h_266_26 : σ.1 266 26 = (-2)) (h_266_27 : σ.1 266 27 = 0) (h_266_28 : σ.1 266 28 = (-1)) : Ki l D ids ad ca yX12_then cX12_then 3 .int 3 65 [.ref (ad 236), .int (nI m), .int 0] σ (fun r _ => r = 0) := by
  refine Ki.of (by decide) (Nat.le_of_ble_eq_true rfl) 0 (fun Γ C Rt => ?_)
  show AW ids ad ca Γ 0 [some (.ref (ad 236)), some (.int (nI m)), some (.int 0)] [] σ
  refine a_iload_n C dX12_then_0 (i := 1) rfl rfl ?_
  refine a_callSi C (m_isLong_yes hid (by omega)) ms_X12_isLong ml_RX12_402 rfl rfl (Nat.le_of_ble_eq_true rfl) (Nat.le_of_ble_eq_true rfl) (Nat.le_of_ble_eq_true rfl) dX12_then_1 (fun r1 σ2 q3 => ?_)
  obtain ⟨rfl, q3⟩ := q3
  rw [q3]
  refine a_if_eq C dX12_then_4 (tgt := 16) rfl (fun h => absurd h (by decide)) (fun _ => ?_)
  refine a_iload_n C dX12_then_7 (i := 2) rfl rfl ?_
  refine a_iconst C dX12_then_8 (v := 0) rfl ?_
  refine a_iconst C dX12_then_9 (v := 3) rfl ?_
  refine a_callSi C (m_in_yes hid (by decide) (by decide)) ms_X12_in ml_RX12_301 rfl rfl (Nat.le_of_ble_eq_true rfl) (Nat.le_of_ble_eq_true rfl) (Nat.le_of_ble_eq_true rfl) dX12_then_10 (fun r4 σ5 q6 => ?_)
  obtain ⟨rfl, q6⟩ := q6
  rw [q6]
  refine a_if_ne C dX12_then_13 (tgt := 18) rfl (fun _ => ?_) (fun h => absurd h (by decide))
  refine a_aload_n C dX12_then_18 (i := 0) rfl rfl ?_
  refine a_callVv C (i := 236) kd_236 (hid 236 (by decide)) ⟨_, _, rfl⟩ (by decide) (m_copies hid h_236_2 h_236_18 h_236_54 h_236_60 h_253_0 h_266_0 h_266_1 h_266_2 h_266_3 h_266_4 h_266_5 h_266_6 h_266_7 h_266_8 h_266_9 h_266_10 h_266_11 h_266_12 h_266_13 h_266_14 h_266_15 h_266_16 h_266_17 h_266_18 h_266_19 h_266_20 h_266_21 h_266_22 h_266_23 h_266_24 h_266_25 h_266_26 h_266_27 h_266_28) mi_X12_copies ml_RX12_311 rfl rfl (Nat.le_of_ble_eq_true rfl) (Nat.le_of_ble_eq_true rfl) (Nat.le_of_ble_eq_true rfl) dX12_then_19 (fun σ8 q9 => ?_)
  refine a_aload_n C dX12_then_22 (i := 0) rfl rfl ?_
  refine a_iload_n C dX12_then_23 (i := 1) rfl rfl ?_
  refine a_callVv C (i := 236) kd_236 (hid 236 (by decide)) ⟨_, _, rfl⟩ (by decide) (m_goes hid (bt := 0) (m := m) q9.2.2.2.2.2.2.2.2.2.2.2.2.2.2.2.2.2.2.2.2.2.2.1 (by omega) q9.2.2.2.2.2.2.2.2.2.2.2.2.2.2.2.2.2.2.2.2.2.2.2.2.2.2.2.2.2.2.2.2.2 q9.2.2.2.2.2.2.2.2.2.2.2.2.2.2.2.2.2.2.2.2.2.2.2.2.2.2.2.2.2.2.1 q9.2.2.2.2.2.2.2.2.2.2.2.2.2.2.2.2.2.2.2.2.2.2.2.2.2.2.2.2.2.2.2.1 q9.2.2.2.2.2.2.2.2.2.2.2.2.2.2.2.2.2.2.2.2.2.2.2.2.2.2.2.2.2.2.2.2.1 ((congrFun (q9.1.1 245 (by decide)) 0).trans h_245_0) ((congrFun (q9.1.1 252 (by decide)) 0).trans h_252_0) q9.2.2.2.2.2.2.2.2.2.2.2.2.2.2.2.2.2.2.2.2.2.2.2.1 q9.2.2.2.2.2.2.2.2.2.2.2.2.2.2.2.2.2.2.2.2.2.2.2.2.1 q9.2.2.2.2.2.2.2.2.2.2.2.2.2.2.2.2.2.2.2.2.2.2.2.2.2.2.1 q9.2.2.2.2.2.2.2.2.2.2.2.2.2.2.2.2.2.2.2.2.2.2.2.2.2.2.2.1 q9.2.2.2.2.2.2.2.2.2.2.2.2.2.2.2.2.2.2.2.2.2.2.2.2.2.2.2.2.1 q9.2.2.2.2.2.2.2.2.2.2.2.2.2.2.2.2.2.2.2.2.2.2.2.2.2.2.2.2.2.1) mi_X12_goes ml_RX12_405 rfl rfl (Nat.le_of_ble_eq_true rfl) (Nat.le_of_ble_eq_true rfl) (Nat.le_of_ble_eq_true rfl) dX12_then_24 (fun σ11 q12 => ?_)
  refine a_iload_n C dX12_then_27 (i := 2) rfl rfl ?_
  refine a_tableIn C dX12_then_28 (by decide) (by decide) rfl (tgt := 56) rfl ?_
  refine a_aload_n C dX12_then_56 (i := 0) rfl rfl ?_
  refine a_get C fl_RX12_110 (i := 236) kd_236 (hid 236 (by decide)) (v := .ref (ad 267)) rfl dX12_then_57 ?_
  refine a_bipush C dX12_then_60 (v := 22) rfl ?_
  refine a_iald C (i := 267) 22 kd_267 (hid 267 (by decide)) (by decide) rfl (by rw [al_267]; decide) dX12_then_62 (v := 0) q12.2.2.1 ?_
  exact a_iret Rt dX12_then_63 rfl (rfl)
theorem dX12_then_64 : decode cX12_then 64 = .ok (.aload_n 0, 1) := by decide +kernel
theorem dX12_then_65 : decode cX12_then 65 = .ok (.iconst 0, 1) := by decide +kernel
theorem dX12_then_66 : decode cX12_then 66 = .ok (.invokevirtual 350, 3) := by decide +kernel
theorem dX12_then_69 : decode cX12_then 69 = .ok (.invokestatic 353, 3) := by decide +kernel
theorem dX12_then_72 : decode cX12_then 72 = .ok (.ireturn, 1) := by decide +kernel
set_option maxHeartbeats 4000000 in
set_option maxRecDepth 100000 in
theorem q_then_1 {l : Launch} {D : va_G} {ids : List Nat} {ad : Nat → Nat} {ca : Nat → ClassId} {σ : HS} {m : Nat} (hid : ∀ i, i < 277 → i ∈ ids) (hm : m ≤ 60) (h_236_2 : σ.1 236 2 = 0) (h_236_18 : σ.1 236 18 = 0) (h_236_54 : σ.1 236 54 = 0) (h_236_60 : σ.1 236 60 = 0) (h_245_0 : σ.1 245 0 = 0) (h_252_0 : σ.1 252 0 = 1) (h_253_0 : σ.1 253 0 = 0) (h_266_0 : σ.1 266 0 = 0) (h_266_1 : σ.1 266 1 = 0) (h_266_2 : σ.1 266 2 = 0) (h_266_3 : σ.1 266 3 = 0) (h_266_4 : σ.1 266 4 = 0) (h_266_5 : σ.1 266 5 = 0) (h_266_6 : σ.1 266 6 = 0) (h_266_7 : σ.1 266 7 = 0) (h_266_8 : σ.1 266 8 = 0) (h_266_9 : σ.1 266 9 = 0) (h_266_10 : σ.1 266 10 = 0) (h_266_11 : σ.1 266 11 = 0) (h_266_12 : σ.1 266 12 = 0) (h_266_13 : σ.1 266 13 = 0) (h_266_14 : σ.1 266 14 = 0) (h_266_15 : σ.1 266 15 = 0) (h_266_16 : σ.1 266 16 = 0) (h_266_17 : σ.1 266 17 = 0) (h_266_18 : σ.1 266 18 = 0) (h_266_19 : σ.1 266 19 = 0) (h_266_20 : σ.1 266 20 = 0) (h_266_21 : σ.1 266 21 = 0) (h_266_22 : σ.1 266 22 = 0) (h_266_23 : σ.1 266 23 = 0) (h_266_24 : σ.1 266 24 = 0) (h_266_25 : σ.1 266 25 = 0) (h_266_26 : σ.1 266 26 = (-2)) (h_266_27 : σ.1 266 27 = 0) (h_266_28 : σ.1 266 28 = (-1)) : Ki l D ids ad ca yX12_then cX12_then 3 .int 3 65 [.ref (ad 236), .int (nI m), .int 1] σ (fun r _ => r = 0) := by
  refine Ki.of (by decide) (Nat.le_of_ble_eq_true rfl) 0 (fun Γ C Rt => ?_)
  show AW ids ad ca Γ 0 [some (.ref (ad 236)), some (.int (nI m)), some (.int 1)] [] σ
  refine a_iload_n C dX12_then_0 (i := 1) rfl rfl ?_
  refine a_callSi C (m_isLong_yes hid (by omega)) ms_X12_isLong ml_RX12_402 rfl rfl (Nat.le_of_ble_eq_true rfl) (Nat.le_of_ble_eq_true rfl) (Nat.le_of_ble_eq_true rfl) dX12_then_1 (fun r1 σ2 q3 => ?_)
  obtain ⟨rfl, q3⟩ := q3
  rw [q3]
  refine a_if_eq C dX12_then_4 (tgt := 16) rfl (fun h => absurd h (by decide)) (fun _ => ?_)
  refine a_iload_n C dX12_then_7 (i := 2) rfl rfl ?_
  refine a_iconst C dX12_then_8 (v := 0) rfl ?_
  refine a_iconst C dX12_then_9 (v := 3) rfl ?_
  refine a_callSi C (m_in_yes hid (by decide) (by decide)) ms_X12_in ml_RX12_301 rfl rfl (Nat.le_of_ble_eq_true rfl) (Nat.le_of_ble_eq_true rfl) (Nat.le_of_ble_eq_true rfl) dX12_then_10 (fun r4 σ5 q6 => ?_)
  obtain ⟨rfl, q6⟩ := q6
  rw [q6]
  refine a_if_ne C dX12_then_13 (tgt := 18) rfl (fun _ => ?_) (fun h => absurd h (by decide))
  refine a_aload_n C dX12_then_18 (i := 0) rfl rfl ?_
  refine a_callVv C (i := 236) kd_236 (hid 236 (by decide)) ⟨_, _, rfl⟩ (by decide) (m_copies hid h_236_2 h_236_18 h_236_54 h_236_60 h_253_0 h_266_0 h_266_1 h_266_2 h_266_3 h_266_4 h_266_5 h_266_6 h_266_7 h_266_8 h_266_9 h_266_10 h_266_11 h_266_12 h_266_13 h_266_14 h_266_15 h_266_16 h_266_17 h_266_18 h_266_19 h_266_20 h_266_21 h_266_22 h_266_23 h_266_24 h_266_25 h_266_26 h_266_27 h_266_28) mi_X12_copies ml_RX12_311 rfl rfl (Nat.le_of_ble_eq_true rfl) (Nat.le_of_ble_eq_true rfl) (Nat.le_of_ble_eq_true rfl) dX12_then_19 (fun σ8 q9 => ?_)
  refine a_aload_n C dX12_then_22 (i := 0) rfl rfl ?_
  refine a_iload_n C dX12_then_23 (i := 1) rfl rfl ?_
  refine a_callVv C (i := 236) kd_236 (hid 236 (by decide)) ⟨_, _, rfl⟩ (by decide) (m_goes hid (bt := 0) (m := m) q9.2.2.2.2.2.2.2.2.2.2.2.2.2.2.2.2.2.2.2.2.2.2.1 (by omega) q9.2.2.2.2.2.2.2.2.2.2.2.2.2.2.2.2.2.2.2.2.2.2.2.2.2.2.2.2.2.2.2.2.2 q9.2.2.2.2.2.2.2.2.2.2.2.2.2.2.2.2.2.2.2.2.2.2.2.2.2.2.2.2.2.2.1 q9.2.2.2.2.2.2.2.2.2.2.2.2.2.2.2.2.2.2.2.2.2.2.2.2.2.2.2.2.2.2.2.1 q9.2.2.2.2.2.2.2.2.2.2.2.2.2.2.2.2.2.2.2.2.2.2.2.2.2.2.2.2.2.2.2.2.1 ((congrFun (q9.1.1 245 (by decide)) 0).trans h_245_0) ((congrFun (q9.1.1 252 (by decide)) 0).trans h_252_0) q9.2.2.2.2.2.2.2.2.2.2.2.2.2.2.2.2.2.2.2.2.2.2.2.1 q9.2.2.2.2.2.2.2.2.2.2.2.2.2.2.2.2.2.2.2.2.2.2.2.2.1 q9.2.2.2.2.2.2.2.2.2.2.2.2.2.2.2.2.2.2.2.2.2.2.2.2.2.2.1 q9.2.2.2.2.2.2.2.2.2.2.2.2.2.2.2.2.2.2.2.2.2.2.2.2.2.2.2.1 q9.2.2.2.2.2.2.2.2.2.2.2.2.2.2.2.2.2.2.2.2.2.2.2.2.2.2.2.2.1 q9.2.2.2.2.2.2.2.2.2.2.2.2.2.2.2.2.2.2.2.2.2.2.2.2.2.2.2.2.2.1) mi_X12_goes ml_RX12_405 rfl rfl (Nat.le_of_ble_eq_true rfl) (Nat.le_of_ble_eq_true rfl) (Nat.le_of_ble_eq_true rfl) dX12_then_24 (fun σ11 q12 => ?_)
  refine a_iload_n C dX12_then_27 (i := 2) rfl rfl ?_
  refine a_tableIn C dX12_then_28 (by decide) (by decide) rfl (tgt := 64) rfl ?_
  refine a_aload_n C dX12_then_64 (i := 0) rfl rfl ?_
  refine a_iconst C dX12_then_65 (v := 0) rfl ?_
  refine a_callVi C (i := 236) kd_236 (hid 236 (by decide)) ⟨_, _, rfl⟩ (by decide) (m_thingsSo hid q12.2.2.2.2.2.2.2.2.1 ((congrFun (q12.1.1 245 (by decide)) 0).trans ((congrFun (q9.1.1 245 (by decide)) 0).trans h_245_0))) mi_X12_thingsSo ml_RX12_350 rfl rfl (Nat.le_of_ble_eq_true rfl) (Nat.le_of_ble_eq_true rfl) (Nat.le_of_ble_eq_true rfl) dX12_then_66 (fun r13 σ14 q15 => ?_)
  obtain ⟨rfl, q15⟩ := q15
  rw [q15]
  refine a_callSi C (m_bits hid) ms_X12_bits ml_RX12_353 rfl rfl (Nat.le_of_ble_eq_true rfl) (Nat.le_of_ble_eq_true rfl) (Nat.le_of_ble_eq_true rfl) dX12_then_69 (fun r16 σ17 q18 => ?_)
  obtain ⟨rfl, q18⟩ := q18
  rw [q18]
  exact a_iret Rt dX12_then_72 rfl (rfl)
theorem dX12_then_73 : decode cX12_then 73 = .ok (.aload_n 0, 1) := by decide +kernel
theorem dX12_then_74 : decode cX12_then 74 = .ok (.getfield 110, 3) := by decide +kernel
theorem dX12_then_77 : decode cX12_then 77 = .ok (.bipush 23, 2) := by decide +kernel
theorem dX12_then_79 : decode cX12_then 79 = .ok (.iaload, 1) := by decide +kernel
theorem dX12_then_80 : decode cX12_then 80 = .ok (.aload_n 0, 1) := by decide +kernel
theorem dX12_then_81 : decode cX12_then 81 = .ok (.getfield 107, 3) := by decide +kernel
theorem dX12_then_84 : decode cX12_then 84 = .ok (.bipush 23, 2) := by decide +kernel
theorem dX12_then_86 : decode cX12_then 86 = .ok (.iaload, 1) := by decide +kernel
theorem dX12_then_87 : decode cX12_then 87 = .ok (.isub, 1) := by decide +kernel
theorem dX12_then_88 : decode cX12_then 88 = .ok (.ireturn, 1) := by decide +kernel
set_option maxHeartbeats 4000000 in
set_option maxRecDepth 100000 in
theorem q_then_2 {l : Launch} {D : va_G} {ids : List Nat} {ad : Nat → Nat} {ca : Nat → ClassId} {σ : HS} {m : Nat} (hid : ∀ i, i < 277 → i ∈ ids) (hm : m ≤ 60) (h_236_2 : σ.1 236 2 = 0) (h_236_18 : σ.1 236 18 = 0) (h_236_54 : σ.1 236 54 = 0) (h_236_60 : σ.1 236 60 = 0) (h_245_0 : σ.1 245 0 = 0) (h_252_0 : σ.1 252 0 = 1) (h_253_0 : σ.1 253 0 = 0) (h_266_0 : σ.1 266 0 = 0) (h_266_1 : σ.1 266 1 = 0) (h_266_2 : σ.1 266 2 = 0) (h_266_3 : σ.1 266 3 = 0) (h_266_4 : σ.1 266 4 = 0) (h_266_5 : σ.1 266 5 = 0) (h_266_6 : σ.1 266 6 = 0) (h_266_7 : σ.1 266 7 = 0) (h_266_8 : σ.1 266 8 = 0) (h_266_9 : σ.1 266 9 = 0) (h_266_10 : σ.1 266 10 = 0) (h_266_11 : σ.1 266 11 = 0) (h_266_12 : σ.1 266 12 = 0) (h_266_13 : σ.1 266 13 = 0) (h_266_14 : σ.1 266 14 = 0) (h_266_15 : σ.1 266 15 = 0) (h_266_16 : σ.1 266 16 = 0) (h_266_17 : σ.1 266 17 = 0) (h_266_18 : σ.1 266 18 = 0) (h_266_19 : σ.1 266 19 = 0) (h_266_20 : σ.1 266 20 = 0) (h_266_21 : σ.1 266 21 = 0) (h_266_22 : σ.1 266 22 = 0) (h_266_23 : σ.1 266 23 = 0) (h_266_24 : σ.1 266 24 = 0) (h_266_25 : σ.1 266 25 = 0) (h_266_26 : σ.1 266 26 = (-2)) (h_266_27 : σ.1 266 27 = 0) (h_266_28 : σ.1 266 28 = (-1)) : Ki l D ids ad ca yX12_then cX12_then 3 .int 3 65 [.ref (ad 236), .int (nI m), .int 2] σ (fun r _ => r = 0) := by
  refine Ki.of (by decide) (Nat.le_of_ble_eq_true rfl) 0 (fun Γ C Rt => ?_)
  show AW ids ad ca Γ 0 [some (.ref (ad 236)), some (.int (nI m)), some (.int 2)] [] σ
  refine a_iload_n C dX12_then_0 (i := 1) rfl rfl ?_
  refine a_callSi C (m_isLong_yes hid (by omega)) ms_X12_isLong ml_RX12_402 rfl rfl (Nat.le_of_ble_eq_true rfl) (Nat.le_of_ble_eq_true rfl) (Nat.le_of_ble_eq_true rfl) dX12_then_1 (fun r1 σ2 q3 => ?_)
  obtain ⟨rfl, q3⟩ := q3
  rw [q3]
  refine a_if_eq C dX12_then_4 (tgt := 16) rfl (fun h => absurd h (by decide)) (fun _ => ?_)
  refine a_iload_n C dX12_then_7 (i := 2) rfl rfl ?_
  refine a_iconst C dX12_then_8 (v := 0) rfl ?_
  refine a_iconst C dX12_then_9 (v := 3) rfl ?_
  refine a_callSi C (m_in_yes hid (by decide) (by decide)) ms_X12_in ml_RX12_301 rfl rfl (Nat.le_of_ble_eq_true rfl) (Nat.le_of_ble_eq_true rfl) (Nat.le_of_ble_eq_true rfl) dX12_then_10 (fun r4 σ5 q6 => ?_)
  obtain ⟨rfl, q6⟩ := q6
  rw [q6]
  refine a_if_ne C dX12_then_13 (tgt := 18) rfl (fun _ => ?_) (fun h => absurd h (by decide))
  refine a_aload_n C dX12_then_18 (i := 0) rfl rfl ?_
  refine a_callVv C (i := 236) kd_236 (hid 236 (by decide)) ⟨_, _, rfl⟩ (by decide) (m_copies hid h_236_2 h_236_18 h_236_54 h_236_60 h_253_0 h_266_0 h_266_1 h_266_2 h_266_3 h_266_4 h_266_5 h_266_6 h_266_7 h_266_8 h_266_9 h_266_10 h_266_11 h_266_12 h_266_13 h_266_14 h_266_15 h_266_16 h_266_17 h_266_18 h_266_19 h_266_20 h_266_21 h_266_22 h_266_23 h_266_24 h_266_25 h_266_26 h_266_27 h_266_28) mi_X12_copies ml_RX12_311 rfl rfl (Nat.le_of_ble_eq_true rfl) (Nat.le_of_ble_eq_true rfl) (Nat.le_of_ble_eq_true rfl) dX12_then_19 (fun σ8 q9 => ?_)
  refine a_aload_n C dX12_then_22 (i := 0) rfl rfl ?_
  refine a_iload_n C dX12_then_23 (i := 1) rfl rfl ?_
  refine a_callVv C (i := 236) kd_236 (hid 236 (by decide)) ⟨_, _, rfl⟩ (by decide) (m_goes hid (bt := 0) (m := m) q9.2.2.2.2.2.2.2.2.2.2.2.2.2.2.2.2.2.2.2.2.2.2.1 (by omega) q9.2.2.2.2.2.2.2.2.2.2.2.2.2.2.2.2.2.2.2.2.2.2.2.2.2.2.2.2.2.2.2.2.2 q9.2.2.2.2.2.2.2.2.2.2.2.2.2.2.2.2.2.2.2.2.2.2.2.2.2.2.2.2.2.2.1 q9.2.2.2.2.2.2.2.2.2.2.2.2.2.2.2.2.2.2.2.2.2.2.2.2.2.2.2.2.2.2.2.1 q9.2.2.2.2.2.2.2.2.2.2.2.2.2.2.2.2.2.2.2.2.2.2.2.2.2.2.2.2.2.2.2.2.1 ((congrFun (q9.1.1 245 (by decide)) 0).trans h_245_0) ((congrFun (q9.1.1 252 (by decide)) 0).trans h_252_0) q9.2.2.2.2.2.2.2.2.2.2.2.2.2.2.2.2.2.2.2.2.2.2.2.1 q9.2.2.2.2.2.2.2.2.2.2.2.2.2.2.2.2.2.2.2.2.2.2.2.2.1 q9.2.2.2.2.2.2.2.2.2.2.2.2.2.2.2.2.2.2.2.2.2.2.2.2.2.2.1 q9.2.2.2.2.2.2.2.2.2.2.2.2.2.2.2.2.2.2.2.2.2.2.2.2.2.2.2.1 q9.2.2.2.2.2.2.2.2.2.2.2.2.2.2.2.2.2.2.2.2.2.2.2.2.2.2.2.2.1 q9.2.2.2.2.2.2.2.2.2.2.2.2.2.2.2.2.2.2.2.2.2.2.2.2.2.2.2.2.2.1) mi_X12_goes ml_RX12_405 rfl rfl (Nat.le_of_ble_eq_true rfl) (Nat.le_of_ble_eq_true rfl) (Nat.le_of_ble_eq_true rfl) dX12_then_24 (fun σ11 q12 => ?_)
  refine a_iload_n C dX12_then_27 (i := 2) rfl rfl ?_
  refine a_tableIn C dX12_then_28 (by decide) (by decide) rfl (tgt := 73) rfl ?_
  refine a_aload_n C dX12_then_73 (i := 0) rfl rfl ?_
  refine a_get C fl_RX12_110 (i := 236) kd_236 (hid 236 (by decide)) (v := .ref (ad 267)) rfl dX12_then_74 ?_
  refine a_bipush C dX12_then_77 (v := 23) rfl ?_
  refine a_iald C (i := 267) 23 kd_267 (hid 267 (by decide)) (by decide) rfl (by rw [al_267]; decide) dX12_then_79 (v := 0) q12.2.2.2.1 ?_
  refine a_aload_n C dX12_then_80 (i := 0) rfl rfl ?_
  refine a_get C fl_RX12_107 (i := 236) kd_236 (hid 236 (by decide)) (v := .ref (ad 266)) rfl dX12_then_81 ?_
  refine a_bipush C dX12_then_84 (v := 23) rfl ?_
  refine a_iald C (i := 266) 23 kd_266 (hid 266 (by decide)) (by decide) rfl (by rw [al_266]; decide) dX12_then_86 (v := 0) ((congrFun (q12.1.1 266 (by decide)) 23).trans ((congrFun (q9.1.1 266 (by decide)) 23).trans h_266_23)) ?_
  refine a_isub C dX12_then_87 ?_
  exact a_iret Rt dX12_then_88 rfl (rfl)
theorem dX12_then_89 : decode cX12_then 89 = .ok (.aload_n 0, 1) := by decide +kernel
theorem dX12_then_90 : decode cX12_then 90 = .ok (.getfield 110, 3) := by decide +kernel
theorem dX12_then_93 : decode cX12_then 93 = .ok (.bipush 25, 2) := by decide +kernel
theorem dX12_then_95 : decode cX12_then 95 = .ok (.iaload, 1) := by decide +kernel
theorem dX12_then_96 : decode cX12_then 96 = .ok (.aload_n 0, 1) := by decide +kernel
theorem dX12_then_97 : decode cX12_then 97 = .ok (.getfield 107, 3) := by decide +kernel
theorem dX12_then_100 : decode cX12_then 100 = .ok (.bipush 25, 2) := by decide +kernel
theorem dX12_then_102 : decode cX12_then 102 = .ok (.iaload, 1) := by decide +kernel
theorem dX12_then_103 : decode cX12_then 103 = .ok (.isub, 1) := by decide +kernel
theorem dX12_then_104 : decode cX12_then 104 = .ok (.ireturn, 1) := by decide +kernel
set_option maxHeartbeats 4000000 in
set_option maxRecDepth 100000 in
theorem q_then_3 {l : Launch} {D : va_G} {ids : List Nat} {ad : Nat → Nat} {ca : Nat → ClassId} {σ : HS} {m : Nat} (hid : ∀ i, i < 277 → i ∈ ids) (hm : m ≤ 60) (h_236_2 : σ.1 236 2 = 0) (h_236_18 : σ.1 236 18 = 0) (h_236_54 : σ.1 236 54 = 0) (h_236_60 : σ.1 236 60 = 0) (h_245_0 : σ.1 245 0 = 0) (h_252_0 : σ.1 252 0 = 1) (h_253_0 : σ.1 253 0 = 0) (h_266_0 : σ.1 266 0 = 0) (h_266_1 : σ.1 266 1 = 0) (h_266_2 : σ.1 266 2 = 0) (h_266_3 : σ.1 266 3 = 0) (h_266_4 : σ.1 266 4 = 0) (h_266_5 : σ.1 266 5 = 0) (h_266_6 : σ.1 266 6 = 0) (h_266_7 : σ.1 266 7 = 0) (h_266_8 : σ.1 266 8 = 0) (h_266_9 : σ.1 266 9 = 0) (h_266_10 : σ.1 266 10 = 0) (h_266_11 : σ.1 266 11 = 0) (h_266_12 : σ.1 266 12 = 0) (h_266_13 : σ.1 266 13 = 0) (h_266_14 : σ.1 266 14 = 0) (h_266_15 : σ.1 266 15 = 0) (h_266_16 : σ.1 266 16 = 0) (h_266_17 : σ.1 266 17 = 0) (h_266_18 : σ.1 266 18 = 0) (h_266_19 : σ.1 266 19 = 0) (h_266_20 : σ.1 266 20 = 0) (h_266_21 : σ.1 266 21 = 0) (h_266_22 : σ.1 266 22 = 0) (h_266_23 : σ.1 266 23 = 0) (h_266_24 : σ.1 266 24 = 0) (h_266_25 : σ.1 266 25 = 0) (h_266_26 : σ.1 266 26 = (-2)) (h_266_27 : σ.1 266 27 = 0) (h_266_28 : σ.1 266 28 = (-1)) : Ki l D ids ad ca yX12_then cX12_then 3 .int 3 65 [.ref (ad 236), .int (nI m), .int 3] σ (fun r _ => r = 0) := by
  refine Ki.of (by decide) (Nat.le_of_ble_eq_true rfl) 0 (fun Γ C Rt => ?_)
  show AW ids ad ca Γ 0 [some (.ref (ad 236)), some (.int (nI m)), some (.int 3)] [] σ
  refine a_iload_n C dX12_then_0 (i := 1) rfl rfl ?_
  refine a_callSi C (m_isLong_yes hid (by omega)) ms_X12_isLong ml_RX12_402 rfl rfl (Nat.le_of_ble_eq_true rfl) (Nat.le_of_ble_eq_true rfl) (Nat.le_of_ble_eq_true rfl) dX12_then_1 (fun r1 σ2 q3 => ?_)
  obtain ⟨rfl, q3⟩ := q3
  rw [q3]
  refine a_if_eq C dX12_then_4 (tgt := 16) rfl (fun h => absurd h (by decide)) (fun _ => ?_)
  refine a_iload_n C dX12_then_7 (i := 2) rfl rfl ?_
  refine a_iconst C dX12_then_8 (v := 0) rfl ?_
  refine a_iconst C dX12_then_9 (v := 3) rfl ?_
  refine a_callSi C (m_in_yes hid (by decide) (by decide)) ms_X12_in ml_RX12_301 rfl rfl (Nat.le_of_ble_eq_true rfl) (Nat.le_of_ble_eq_true rfl) (Nat.le_of_ble_eq_true rfl) dX12_then_10 (fun r4 σ5 q6 => ?_)
  obtain ⟨rfl, q6⟩ := q6
  rw [q6]
  refine a_if_ne C dX12_then_13 (tgt := 18) rfl (fun _ => ?_) (fun h => absurd h (by decide))
  refine a_aload_n C dX12_then_18 (i := 0) rfl rfl ?_
  refine a_callVv C (i := 236) kd_236 (hid 236 (by decide)) ⟨_, _, rfl⟩ (by decide) (m_copies hid h_236_2 h_236_18 h_236_54 h_236_60 h_253_0 h_266_0 h_266_1 h_266_2 h_266_3 h_266_4 h_266_5 h_266_6 h_266_7 h_266_8 h_266_9 h_266_10 h_266_11 h_266_12 h_266_13 h_266_14 h_266_15 h_266_16 h_266_17 h_266_18 h_266_19 h_266_20 h_266_21 h_266_22 h_266_23 h_266_24 h_266_25 h_266_26 h_266_27 h_266_28) mi_X12_copies ml_RX12_311 rfl rfl (Nat.le_of_ble_eq_true rfl) (Nat.le_of_ble_eq_true rfl) (Nat.le_of_ble_eq_true rfl) dX12_then_19 (fun σ8 q9 => ?_)
  refine a_aload_n C dX12_then_22 (i := 0) rfl rfl ?_
  refine a_iload_n C dX12_then_23 (i := 1) rfl rfl ?_
  refine a_callVv C (i := 236) kd_236 (hid 236 (by decide)) ⟨_, _, rfl⟩ (by decide) (m_goes hid (bt := 0) (m := m) q9.2.2.2.2.2.2.2.2.2.2.2.2.2.2.2.2.2.2.2.2.2.2.1 (by omega) q9.2.2.2.2.2.2.2.2.2.2.2.2.2.2.2.2.2.2.2.2.2.2.2.2.2.2.2.2.2.2.2.2.2 q9.2.2.2.2.2.2.2.2.2.2.2.2.2.2.2.2.2.2.2.2.2.2.2.2.2.2.2.2.2.2.1 q9.2.2.2.2.2.2.2.2.2.2.2.2.2.2.2.2.2.2.2.2.2.2.2.2.2.2.2.2.2.2.2.1 q9.2.2.2.2.2.2.2.2.2.2.2.2.2.2.2.2.2.2.2.2.2.2.2.2.2.2.2.2.2.2.2.2.1 ((congrFun (q9.1.1 245 (by decide)) 0).trans h_245_0) ((congrFun (q9.1.1 252 (by decide)) 0).trans h_252_0) q9.2.2.2.2.2.2.2.2.2.2.2.2.2.2.2.2.2.2.2.2.2.2.2.1 q9.2.2.2.2.2.2.2.2.2.2.2.2.2.2.2.2.2.2.2.2.2.2.2.2.1 q9.2.2.2.2.2.2.2.2.2.2.2.2.2.2.2.2.2.2.2.2.2.2.2.2.2.2.1 q9.2.2.2.2.2.2.2.2.2.2.2.2.2.2.2.2.2.2.2.2.2.2.2.2.2.2.2.1 q9.2.2.2.2.2.2.2.2.2.2.2.2.2.2.2.2.2.2.2.2.2.2.2.2.2.2.2.2.1 q9.2.2.2.2.2.2.2.2.2.2.2.2.2.2.2.2.2.2.2.2.2.2.2.2.2.2.2.2.2.1) mi_X12_goes ml_RX12_405 rfl rfl (Nat.le_of_ble_eq_true rfl) (Nat.le_of_ble_eq_true rfl) (Nat.le_of_ble_eq_true rfl) dX12_then_24 (fun σ11 q12 => ?_)
  refine a_iload_n C dX12_then_27 (i := 2) rfl rfl ?_
  refine a_tableOut C dX12_then_28 (by decide) (tgt := 89) rfl ?_
  refine a_aload_n C dX12_then_89 (i := 0) rfl rfl ?_
  refine a_get C fl_RX12_110 (i := 236) kd_236 (hid 236 (by decide)) (v := .ref (ad 267)) rfl dX12_then_90 ?_
  refine a_bipush C dX12_then_93 (v := 25) rfl ?_
  refine a_iald C (i := 267) 25 kd_267 (hid 267 (by decide)) (by decide) rfl (by rw [al_267]; decide) dX12_then_95 (v := 0) q12.2.2.2.2.1 ?_
  refine a_aload_n C dX12_then_96 (i := 0) rfl rfl ?_
  refine a_get C fl_RX12_107 (i := 236) kd_236 (hid 236 (by decide)) (v := .ref (ad 266)) rfl dX12_then_97 ?_
  refine a_bipush C dX12_then_100 (v := 25) rfl ?_
  refine a_iald C (i := 266) 25 kd_266 (hid 266 (by decide)) (by decide) rfl (by rw [al_266]; decide) dX12_then_102 (v := 0) ((congrFun (q12.1.1 266 (by decide)) 25).trans ((congrFun (q9.1.1 266 (by decide)) 25).trans h_266_25)) ?_
  refine a_isub C dX12_then_103 ?_
  exact a_iret Rt dX12_then_104 rfl (rfl)
theorem dX12_then_16 : decode cX12_then 16 = .ok (.iconst (-1), 1) := by decide +kernel
theorem dX12_then_17 : decode cX12_then 17 = .ok (.ireturn, 1) := by decide +kernel
set_option maxHeartbeats 4000000 in
set_option maxRecDepth 100000 in
theorem q_then_out {l : Launch} {D : va_G} {ids : List Nat} {ad : Nat → Nat} {ca : Nat → ClassId} {σ : HS} {p0 : Int32} {p1 : Int32} (hid : ∀ i, i < 277 → i ∈ ids) (ho : p0 < 0 ∨ 60 < p0) : Ki l D ids ad ca yX12_then cX12_then 3 .int 2 42 [.ref (ad 236), .int p0, .int p1] σ (fun r _ => r = (-1)) := by
  refine Ki.of (by decide) (Nat.le_of_ble_eq_true rfl) 0 (fun Γ C Rt => ?_)
  show AW ids ad ca Γ 0 [some (.ref (ad 236)), some (.int p0), some (.int p1)] [] σ
  refine a_iload_n C dX12_then_0 (i := 1) rfl rfl ?_
  refine a_callSi C (m_isLong_no hid ho) ms_X12_isLong ml_RX12_402 rfl rfl (Nat.le_of_ble_eq_true rfl) (Nat.le_of_ble_eq_true rfl) (Nat.le_of_ble_eq_true rfl) dX12_then_1 (fun r1 σ2 q3 => ?_)
  obtain ⟨rfl, q3⟩ := q3
  rw [q3]
  refine a_if_eq C dX12_then_4 (tgt := 16) rfl (fun _ => ?_) (fun h => absurd h (by decide))
  refine a_iconst C dX12_then_16 (v := (-1)) rfl ?_
  exact a_iret Rt dX12_then_17 rfl (rfl)
set_option maxHeartbeats 4000000 in
set_option maxRecDepth 100000 in
theorem q_then_w {l : Launch} {D : va_G} {ids : List Nat} {ad : Nat → Nat} {ca : Nat → ClassId} {σ : HS} {m : Nat} {p1 : Int32} (hid : ∀ i, i < 277 → i ∈ ids) (hm : m ≤ 60) (ho : p1 < 0 ∨ 3 < p1) : Ki l D ids ad ca yX12_then cX12_then 3 .int 2 42 [.ref (ad 236), .int (nI m), .int p1] σ (fun r _ => r = (-1)) := by
  refine Ki.of (by decide) (Nat.le_of_ble_eq_true rfl) 0 (fun Γ C Rt => ?_)
  show AW ids ad ca Γ 0 [some (.ref (ad 236)), some (.int (nI m)), some (.int p1)] [] σ
  refine a_iload_n C dX12_then_0 (i := 1) rfl rfl ?_
  refine a_callSi C (m_isLong_yes hid (by omega)) ms_X12_isLong ml_RX12_402 rfl rfl (Nat.le_of_ble_eq_true rfl) (Nat.le_of_ble_eq_true rfl) (Nat.le_of_ble_eq_true rfl) dX12_then_1 (fun r1 σ2 q3 => ?_)
  obtain ⟨rfl, q3⟩ := q3
  rw [q3]
  refine a_if_eq C dX12_then_4 (tgt := 16) rfl (fun h => absurd h (by decide)) (fun _ => ?_)
  refine a_iload_n C dX12_then_7 (i := 2) rfl rfl ?_
  refine a_iconst C dX12_then_8 (v := 0) rfl ?_
  refine a_iconst C dX12_then_9 (v := 3) rfl ?_
  refine a_callSi C (m_in_no hid ho) ms_X12_in ml_RX12_301 rfl rfl (Nat.le_of_ble_eq_true rfl) (Nat.le_of_ble_eq_true rfl) (Nat.le_of_ble_eq_true rfl) dX12_then_10 (fun r4 σ5 q6 => ?_)
  obtain ⟨rfl, q6⟩ := q6
  rw [q6]
  refine a_if_ne C dX12_then_13 (tgt := 18) rfl (fun h => absurd h (by decide)) (fun _ => ?_)
  refine a_iconst C dX12_then_16 (v := (-1)) rfl ?_
  exact a_iret Rt dX12_then_17 rfl (rfl)
theorem dX12_year_0 : decode cX12_year 0 = .ok (.iload_n 1, 1) := by decide +kernel
theorem dX12_year_1 : decode cX12_year 1 = .ok (.invokestatic 402, 3) := by decide +kernel
theorem dX12_year_4 : decode cX12_year 4 = .ok (.ifCond .eq 13, 3) := by decide +kernel
theorem dX12_year_7 : decode cX12_year 7 = .ok (.iload_n 2, 1) := by decide +kernel
theorem dX12_year_8 : decode cX12_year 8 = .ok (.iconst 1, 1) := by decide +kernel
theorem dX12_year_9 : decode cX12_year 9 = .ok (.bipush 20, 2) := by decide +kernel
theorem dX12_year_11 : decode cX12_year 11 = .ok (.invokestatic 301, 3) := by decide +kernel
theorem dX12_year_14 : decode cX12_year 14 = .ok (.ifCond .ne 5, 3) := by decide +kernel
theorem dX12_year_19 : decode cX12_year 19 = .ok (.iconst 0, 1) := by decide +kernel
theorem dX12_year_20 : decode cX12_year 20 = .ok (.istore_n 3, 1) := by decide +kernel
theorem dX12_year_21 : decode cX12_year 21 = .ok (.iconst 0, 1) := by decide +kernel
theorem dX12_year_22 : decode cX12_year 22 = .ok (.istore 4, 2) := by decide +kernel
theorem dX12_year_24 : decode cX12_year 24 = .ok (.iload 4, 2) := by decide +kernel
theorem dX12_year_26 : decode cX12_year 26 = .ok (.iload_n 2, 1) := by decide +kernel
theorem dX12_year_27 : decode cX12_year 27 = .ok (.if_icmp .ge 49, 3) := by decide +kernel
theorem dX12_year_30 : decode cX12_year 30 = .ok (.aload_n 0, 1) := by decide +kernel
theorem dX12_year_31 : decode cX12_year 31 = .ok (.invokevirtual 311, 3) := by decide +kernel
theorem dX12_year_34 : decode cX12_year 34 = .ok (.aload_n 0, 1) := by decide +kernel
theorem dX12_year_35 : decode cX12_year 35 = .ok (.dup, 1) := by decide +kernel
theorem dX12_year_36 : decode cX12_year 36 = .ok (.getfield 305, 3) := by decide +kernel
theorem dX12_year_39 : decode cX12_year 39 = .ok (.iload 4, 2) := by decide +kernel
theorem dX12_year_41 : decode cX12_year 41 = .ok (.iadd, 1) := by decide +kernel
theorem dX12_year_42 : decode cX12_year 42 = .ok (.putfield 305, 3) := by decide +kernel
theorem dX12_year_45 : decode cX12_year 45 = .ok (.aload_n 0, 1) := by decide +kernel
theorem dX12_year_46 : decode cX12_year 46 = .ok (.iload_n 1, 1) := by decide +kernel
theorem dX12_year_47 : decode cX12_year 47 = .ok (.invokevirtual 405, 3) := by decide +kernel
theorem dX12_year_50 : decode cX12_year 50 = .ok (.aload_n 0, 1) := by decide +kernel
theorem dX12_year_51 : decode cX12_year 51 = .ok (.getfield 110, 3) := by decide +kernel
theorem dX12_year_54 : decode cX12_year 54 = .ok (.bipush 23, 2) := by decide +kernel
theorem dX12_year_56 : decode cX12_year 56 = .ok (.iaload, 1) := by decide +kernel
theorem dX12_year_57 : decode cX12_year 57 = .ok (.aload_n 0, 1) := by decide +kernel
theorem dX12_year_58 : decode cX12_year 58 = .ok (.getfield 107, 3) := by decide +kernel
theorem dX12_year_61 : decode cX12_year 61 = .ok (.bipush 23, 2) := by decide +kernel
theorem dX12_year_63 : decode cX12_year 63 = .ok (.iaload, 1) := by decide +kernel
theorem dX12_year_64 : decode cX12_year 64 = .ok (.if_icmp .ne 6, 3) := by decide +kernel
theorem dX12_year_67 : decode cX12_year 67 = .ok (.iinc 3 1, 3) := by decide +kernel
theorem dX12_year_70 : decode cX12_year 70 = .ok (.iinc 4 1, 3) := by decide +kernel
theorem dX12_year_73 : decode cX12_year 73 = .ok (.goto (-49), 3) := by decide +kernel
theorem dX12_year_76 : decode cX12_year 76 = .ok (.iload_n 3, 1) := by decide +kernel
theorem dX12_year_77 : decode cX12_year 77 = .ok (.ireturn, 1) := by decide +kernel
set_option maxHeartbeats 4000000 in
set_option maxRecDepth 100000 in
theorem q_year_in {l : Launch} {D : va_G} {ids : List Nat} {ad : Nat → Nat} {ca : Nat → ClassId} {σ : HS} {m z : Nat} (hid : ∀ i, i < 277 → i ∈ ids) (hm : m ≤ 60) (z1 : 1 ≤ z) (z2 : z ≤ 20) (h_236_2 : σ.1 236 2 = 0) (h_236_18 : σ.1 236 18 = 0) (h_236_54 : σ.1 236 54 = 0) (h_236_60 : σ.1 236 60 = 0) (h_245_0 : σ.1 245 0 = 0) (h_252_0 : σ.1 252 0 = 1) (h_253_0 : σ.1 253 0 = 0) (h_266_0 : σ.1 266 0 = 0) (h_266_1 : σ.1 266 1 = 0) (h_266_2 : σ.1 266 2 = 0) (h_266_3 : σ.1 266 3 = 0) (h_266_4 : σ.1 266 4 = 0) (h_266_5 : σ.1 266 5 = 0) (h_266_6 : σ.1 266 6 = 0) (h_266_7 : σ.1 266 7 = 0) (h_266_8 : σ.1 266 8 = 0) (h_266_9 : σ.1 266 9 = 0) (h_266_10 : σ.1 266 10 = 0) (h_266_11 : σ.1 266 11 = 0) (h_266_12 : σ.1 266 12 = 0) (h_266_13 : σ.1 266 13 = 0) (h_266_14 : σ.1 266 14 = 0) (h_266_15 : σ.1 266 15 = 0) (h_266_16 : σ.1 266 16 = 0) (h_266_17 : σ.1 266 17 = 0) (h_266_18 : σ.1 266 18 = 0) (h_266_19 : σ.1 266 19 = 0) (h_266_20 : σ.1 266 20 = 0) (h_266_21 : σ.1 266 21 = 0) (h_266_22 : σ.1 266 22 = 0) (h_266_23 : σ.1 266 23 = 0) (h_266_24 : σ.1 266 24 = 0) (h_266_25 : σ.1 266 25 = 0) (h_266_26 : σ.1 266 26 = (-2)) (h_266_27 : σ.1 266 27 = 0) (h_266_28 : σ.1 266 28 = (-1)) : Ki l D ids ad ca yX12_year cX12_year 5 .int 3 65 [.ref (ad 236), .int (nI m), .int (nI z)] σ (fun r _ => r = nI z) := by
  refine Ki.of (by decide) (Nat.le_of_ble_eq_true rfl) 2 (fun Γ C Rt => ?_)
  show AW ids ad ca Γ 0 [some (.ref (ad 236)), some (.int (nI m)), some (.int (nI z)), none, none] [] σ
  refine a_iload_n C dX12_year_0 (i := 1) rfl rfl ?_
  refine a_callSi C (m_isLong_yes hid (by omega)) ms_X12_isLong ml_RX12_402 rfl rfl (Nat.le_of_ble_eq_true rfl) (Nat.le_of_ble_eq_true rfl) (Nat.le_of_ble_eq_true rfl) dX12_year_1 (fun r1 σ2 q3 => ?_)
  obtain ⟨rfl, q3⟩ := q3
  rw [q3]
  refine a_if_eq C dX12_year_4 (tgt := 17) rfl (fun h => absurd h (by decide)) (fun _ => ?_)
  refine a_iload_n C dX12_year_7 (i := 2) rfl rfl ?_
  refine a_iconst C dX12_year_8 (v := 1) rfl ?_
  refine a_bipush C dX12_year_9 (v := 20) rfl ?_
  refine a_callSi C (m_in_yes hid (nI_nlt (a := (z)) (b := 1) (by omega) (by omega)) (nI_le (a := (z)) (b := 20) (by omega) (by omega))) ms_X12_in ml_RX12_301 rfl rfl (Nat.le_of_ble_eq_true rfl) (Nat.le_of_ble_eq_true rfl) (Nat.le_of_ble_eq_true rfl) dX12_year_11 (fun r4 σ5 q6 => ?_)
  obtain ⟨rfl, q6⟩ := q6
  rw [q6]
  refine a_if_ne C dX12_year_14 (tgt := 19) rfl (fun _ => ?_) (fun h => absurd h (by decide))
  refine a_iconst C dX12_year_19 (v := 0) rfl ?_
  refine a_istore_n C dX12_year_20 (i := 3) rfl (by decide) rfl (vs1 := [some (.ref (ad 236)), some (.int (nI m)), some (.int (nI z)), some (.int 0), none]) rfl ?_
  refine a_iconst C dX12_year_21 (v := 0) rfl ?_
  refine a_istore C dX12_year_22 (by decide) rfl (vs1 := [some (.ref (ad 236)), some (.int (nI m)), some (.int (nI z)), some (.int 0), some (.int 0)]) rfl ?_
  have loop : ∀ (d j : Nat) (σ2 : HS), j + d = z → (only [267, 236] σ σ2 ∧ σ2.1 236 18 = 0 ∧ σ2.1 236 54 = 0 ∧ σ2.1 236 60 = 0 ∧ σ2.1 236 2 = 0) → AW ids ad ca Γ 24 [some (.ref (ad 236)), some (.int (nI m)), some (.int (nI z)), some (.int (nI j)), some (.int (nI j))] [] σ2 := by
    intro d
    induction d with
    | zero =>
      intro j σ2 hj hV
      refine a_iload C dX12_year_24 rfl ?_
      refine a_iload_n C dX12_year_26 (i := 2) rfl rfl ?_
      refine a_ic_ge C dX12_year_27 (tgt := 76) rfl (fun c7 => ?_) (fun c7 => absurd c7 (fun q => q (nI_le (a := (z)) (b := (j)) (by omega) (by omega))))
      refine a_iload_n C dX12_year_76 (i := 3) rfl rfl ?_
      exact a_iret Rt dX12_year_77 rfl ((congrArg nI (show j = z by omega)))
    | succ d ih =>
      intro j σ2 hj hV
      refine a_iload C dX12_year_24 rfl ?_
      refine a_iload_n C dX12_year_26 (i := 2) rfl rfl ?_
      refine a_ic_ge C dX12_year_27 (tgt := 76) rfl (fun c8 => absurd c8 (nI_ge (a := (j)) (b := (z)) (by omega) (by omega))) (fun c8 => ?_)
      refine a_aload_n C dX12_year_30 (i := 0) rfl rfl ?_
      refine a_callVv C (i := 236) kd_236 (hid 236 (by decide)) ⟨_, _, rfl⟩ (by decide) (m_copies hid hV.2.2.2.2 hV.2.1 hV.2.2.1 hV.2.2.2.1 ((congrFun (hV.1.1 253 (by decide)) 0).trans h_253_0) ((congrFun (hV.1.1 266 (by decide)) 0).trans h_266_0) ((congrFun (hV.1.1 266 (by decide)) 1).trans h_266_1) ((congrFun (hV.1.1 266 (by decide)) 2).trans h_266_2) ((congrFun (hV.1.1 266 (by decide)) 3).trans h_266_3) ((congrFun (hV.1.1 266 (by decide)) 4).trans h_266_4) ((congrFun (hV.1.1 266 (by decide)) 5).trans h_266_5) ((congrFun (hV.1.1 266 (by decide)) 6).trans h_266_6) ((congrFun (hV.1.1 266 (by decide)) 7).trans h_266_7) ((congrFun (hV.1.1 266 (by decide)) 8).trans h_266_8) ((congrFun (hV.1.1 266 (by decide)) 9).trans h_266_9) ((congrFun (hV.1.1 266 (by decide)) 10).trans h_266_10) ((congrFun (hV.1.1 266 (by decide)) 11).trans h_266_11) ((congrFun (hV.1.1 266 (by decide)) 12).trans h_266_12) ((congrFun (hV.1.1 266 (by decide)) 13).trans h_266_13) ((congrFun (hV.1.1 266 (by decide)) 14).trans h_266_14) ((congrFun (hV.1.1 266 (by decide)) 15).trans h_266_15) ((congrFun (hV.1.1 266 (by decide)) 16).trans h_266_16) ((congrFun (hV.1.1 266 (by decide)) 17).trans h_266_17) ((congrFun (hV.1.1 266 (by decide)) 18).trans h_266_18) ((congrFun (hV.1.1 266 (by decide)) 19).trans h_266_19) ((congrFun (hV.1.1 266 (by decide)) 20).trans h_266_20) ((congrFun (hV.1.1 266 (by decide)) 21).trans h_266_21) ((congrFun (hV.1.1 266 (by decide)) 22).trans h_266_22) ((congrFun (hV.1.1 266 (by decide)) 23).trans h_266_23) ((congrFun (hV.1.1 266 (by decide)) 24).trans h_266_24) ((congrFun (hV.1.1 266 (by decide)) 25).trans h_266_25) ((congrFun (hV.1.1 266 (by decide)) 26).trans h_266_26) ((congrFun (hV.1.1 266 (by decide)) 27).trans h_266_27) ((congrFun (hV.1.1 266 (by decide)) 28).trans h_266_28)) mi_X12_copies ml_RX12_311 rfl rfl (Nat.le_of_ble_eq_true rfl) (Nat.le_of_ble_eq_true rfl) (Nat.le_of_ble_eq_true rfl) dX12_year_31 (fun σ10 q11 => ?_)
      refine a_aload_n C dX12_year_34 (i := 0) rfl rfl ?_
      refine a_dup C dX12_year_35 rfl ?_
      refine a_get C fl_RX12_305 (i := 236) kd_236 (hid 236 (by decide)) (v := .int (σ10.1 236 49)) rfl dX12_year_36 ?_
      refine a_iload C dX12_year_39 rfl ?_
      refine a_iadd C dX12_year_41 ?_
      refine a_put C fp_RX12_305 (i := 236) kd_236 (hid 236 (by decide)) rfl rfl dX12_year_42 ?_
      refine a_aload_n C dX12_year_45 (i := 0) rfl rfl ?_
      refine a_iload_n C dX12_year_46 (i := 1) rfl rfl ?_
      refine a_callVv C (i := 236) kd_236 (hid 236 (by decide)) ⟨_, _, rfl⟩ (by decide) (m_goes hid (bt := 0) (m := m) q11.2.2.2.2.2.2.2.2.2.2.2.2.2.2.2.2.2.2.2.2.2.2.1 (by omega) q11.2.2.2.2.2.2.2.2.2.2.2.2.2.2.2.2.2.2.2.2.2.2.2.2.2.2.2.2.2.2.2.2.2 q11.2.2.2.2.2.2.2.2.2.2.2.2.2.2.2.2.2.2.2.2.2.2.2.2.2.2.2.2.2.2.1 q11.2.2.2.2.2.2.2.2.2.2.2.2.2.2.2.2.2.2.2.2.2.2.2.2.2.2.2.2.2.2.2.1 q11.2.2.2.2.2.2.2.2.2.2.2.2.2.2.2.2.2.2.2.2.2.2.2.2.2.2.2.2.2.2.2.2.1 ((congrFun (q11.1.1 245 (by decide)) 0).trans ((congrFun (hV.1.1 245 (by decide)) 0).trans h_245_0)) ((congrFun (q11.1.1 252 (by decide)) 0).trans ((congrFun (hV.1.1 252 (by decide)) 0).trans h_252_0)) q11.2.2.2.2.2.2.2.2.2.2.2.2.2.2.2.2.2.2.2.2.2.2.2.1 q11.2.2.2.2.2.2.2.2.2.2.2.2.2.2.2.2.2.2.2.2.2.2.2.2.1 q11.2.2.2.2.2.2.2.2.2.2.2.2.2.2.2.2.2.2.2.2.2.2.2.2.2.2.1 q11.2.2.2.2.2.2.2.2.2.2.2.2.2.2.2.2.2.2.2.2.2.2.2.2.2.2.2.1 q11.2.2.2.2.2.2.2.2.2.2.2.2.2.2.2.2.2.2.2.2.2.2.2.2.2.2.2.2.1 q11.2.2.2.2.2.2.2.2.2.2.2.2.2.2.2.2.2.2.2.2.2.2.2.2.2.2.2.2.2.1) mi_X12_goes ml_RX12_405 rfl rfl (Nat.le_of_ble_eq_true rfl) (Nat.le_of_ble_eq_true rfl) (Nat.le_of_ble_eq_true rfl) dX12_year_47 (fun σ13 q14 => ?_)
      refine a_aload_n C dX12_year_50 (i := 0) rfl rfl ?_
      refine a_get C fl_RX12_110 (i := 236) kd_236 (hid 236 (by decide)) (v := .ref (ad 267)) rfl dX12_year_51 ?_
      refine a_bipush C dX12_year_54 (v := 23) rfl ?_
      refine a_iald C (i := 267) 23 kd_267 (hid 267 (by decide)) (by decide) rfl (by rw [al_267]; decide) dX12_year_56 (v := 0) q14.2.2.2.1 ?_
      refine a_aload_n C dX12_year_57 (i := 0) rfl rfl ?_
      refine a_get C fl_RX12_107 (i := 236) kd_236 (hid 236 (by decide)) (v := .ref (ad 266)) rfl dX12_year_58 ?_
      refine a_bipush C dX12_year_61 (v := 23) rfl ?_
      refine a_iald C (i := 266) 23 kd_266 (hid 266 (by decide)) (by decide) rfl (by rw [al_266]; decide) dX12_year_63 (v := 0) ((congrFun (q14.1.1 266 (by decide)) 23).trans ((congrFun (q11.1.1 266 (by decide)) 23).trans ((congrFun (hV.1.1 266 (by decide)) 23).trans h_266_23))) ?_
      refine a_ic_ne C dX12_year_64 (tgt := 70) rfl (fun h => absurd h (by decide)) (fun _ => ?_)
      refine a_iinc C dX12_year_67 rfl (v := (nI (j + 1))) (nI_1 _) (by decide) rfl (vs1 := [some (.ref (ad 236)), some (.int (nI m)), some (.int (nI z)), some (.int (nI (j + 1))), some (.int (nI j))]) rfl ?_
      refine a_iinc C dX12_year_70 rfl (v := (nI (j + 1))) (nI_1 _) (by decide) rfl (vs1 := [some (.ref (ad 236)), some (.int (nI m)), some (.int (nI z)), some (.int (nI (j + 1))), some (.int (nI (j + 1)))]) rfl ?_
      refine a_goto C dX12_year_73 (tgt := 24) rfl ?_
      exact ih (j + 1) _ (by omega) ⟨(only.tr (only.I (only.tr (only.tr only.rf (only.mono hV.1 (by decide))) (only.mono q11.1 (by decide))) (by decide)) (only.mono q14.1 (by decide))), q14.2.2.2.2.2.2.2.2.1, q14.2.2.2.2.2.2.2.2.2.1, q14.2.2.2.2.2.2.2.2.2.2.1, q14.2.2.2.2.2.2.2.2.2.2.2⟩
  exact loop (z - 0) 0 _ (by omega) ⟨only.rf, h_236_18, h_236_54, h_236_60, h_236_2⟩
theorem dX12_year_17 : decode cX12_year 17 = .ok (.iconst (-1), 1) := by decide +kernel
theorem dX12_year_18 : decode cX12_year 18 = .ok (.ireturn, 1) := by decide +kernel
set_option maxHeartbeats 4000000 in
set_option maxRecDepth 100000 in
theorem q_year_out {l : Launch} {D : va_G} {ids : List Nat} {ad : Nat → Nat} {ca : Nat → ClassId} {σ : HS} {p0 : Int32} {p1 : Int32} (hid : ∀ i, i < 277 → i ∈ ids) (ho : p0 < 0 ∨ 60 < p0) : Ki l D ids ad ca yX12_year cX12_year 5 .int 2 42 [.ref (ad 236), .int p0, .int p1] σ (fun r _ => r = (-1)) := by
  refine Ki.of (by decide) (Nat.le_of_ble_eq_true rfl) 2 (fun Γ C Rt => ?_)
  show AW ids ad ca Γ 0 [some (.ref (ad 236)), some (.int p0), some (.int p1), none, none] [] σ
  refine a_iload_n C dX12_year_0 (i := 1) rfl rfl ?_
  refine a_callSi C (m_isLong_no hid ho) ms_X12_isLong ml_RX12_402 rfl rfl (Nat.le_of_ble_eq_true rfl) (Nat.le_of_ble_eq_true rfl) (Nat.le_of_ble_eq_true rfl) dX12_year_1 (fun r1 σ2 q3 => ?_)
  obtain ⟨rfl, q3⟩ := q3
  rw [q3]
  refine a_if_eq C dX12_year_4 (tgt := 17) rfl (fun _ => ?_) (fun h => absurd h (by decide))
  refine a_iconst C dX12_year_17 (v := (-1)) rfl ?_
  exact a_iret Rt dX12_year_18 rfl (rfl)
set_option maxHeartbeats 4000000 in
set_option maxRecDepth 100000 in
theorem q_year_s {l : Launch} {D : va_G} {ids : List Nat} {ad : Nat → Nat} {ca : Nat → ClassId} {σ : HS} {m : Nat} {p1 : Int32} (hid : ∀ i, i < 277 → i ∈ ids) (hm : m ≤ 60) (ho : p1 < 1 ∨ 20 < p1) : Ki l D ids ad ca yX12_year cX12_year 5 .int 2 42 [.ref (ad 236), .int (nI m), .int p1] σ (fun r _ => r = (-1)) := by
  refine Ki.of (by decide) (Nat.le_of_ble_eq_true rfl) 2 (fun Γ C Rt => ?_)
  show AW ids ad ca Γ 0 [some (.ref (ad 236)), some (.int (nI m)), some (.int p1), none, none] [] σ
  refine a_iload_n C dX12_year_0 (i := 1) rfl rfl ?_
  refine a_callSi C (m_isLong_yes hid (by omega)) ms_X12_isLong ml_RX12_402 rfl rfl (Nat.le_of_ble_eq_true rfl) (Nat.le_of_ble_eq_true rfl) (Nat.le_of_ble_eq_true rfl) dX12_year_1 (fun r1 σ2 q3 => ?_)
  obtain ⟨rfl, q3⟩ := q3
  rw [q3]
  refine a_if_eq C dX12_year_4 (tgt := 17) rfl (fun h => absurd h (by decide)) (fun _ => ?_)
  refine a_iload_n C dX12_year_7 (i := 2) rfl rfl ?_
  refine a_iconst C dX12_year_8 (v := 1) rfl ?_
  refine a_bipush C dX12_year_9 (v := 20) rfl ?_
  refine a_callSi C (m_in_no hid ho) ms_X12_in ml_RX12_301 rfl rfl (Nat.le_of_ble_eq_true rfl) (Nat.le_of_ble_eq_true rfl) (Nat.le_of_ble_eq_true rfl) dX12_year_11 (fun r4 σ5 q6 => ?_)
  obtain ⟨rfl, q6⟩ := q6
  rw [q6]
  refine a_if_ne C dX12_year_14 (tgt := 19) rfl (fun h => absurd h (by decide)) (fun _ => ?_)
  refine a_iconst C dX12_year_17 (v := (-1)) rfl ?_
  exact a_iret Rt dX12_year_18 rfl (rfl)
theorem dX12_byteAt_0 : decode cX12_byteAt 0 = .ok (.iload_n 1, 1) := by decide +kernel
theorem dX12_byteAt_1 : decode cX12_byteAt 1 = .ok (.aload_n 0, 1) := by decide +kernel
theorem dX12_byteAt_2 : decode cX12_byteAt 2 = .ok (.getfield 160, 3) := by decide +kernel
theorem dX12_byteAt_5 : decode cX12_byteAt 5 = .ok (.if_icmp .ge 16, 3) := by decide +kernel
theorem dX12_byteAt_21 : decode cX12_byteAt 21 = .ok (.iconst 0, 1) := by decide +kernel
theorem dX12_byteAt_22 : decode cX12_byteAt 22 = .ok (.ireturn, 1) := by decide +kernel
set_option maxHeartbeats 4000000 in
set_option maxRecDepth 100000 in
theorem m_byteAt {l : Launch} {D : va_G} {ids : List Nat} {ad : Nat → Nat} {ca : Nat → ClassId} {σ : HS} (hid : ∀ i, i < 277 → i ∈ ids) (h_236_4 : σ.1 236 4 = 0) : Ki l D ids ad ca yX12_byteAt cX12_byteAt 2 .int 0 0 [.ref (ad 236), .int 0] σ (fun r σ1 => r = 0 ∧ σ1 = σ) := by
  refine Ki.of (by decide) (Nat.le_of_ble_eq_true rfl) 0 (fun Γ C Rt => ?_)
  show AW ids ad ca Γ 0 [some (.ref (ad 236)), some (.int 0)] [] σ
  refine a_iload_n C dX12_byteAt_0 (i := 1) rfl rfl ?_
  refine a_aload_n C dX12_byteAt_1 (i := 0) rfl rfl ?_
  refine a_get C fl_RX12_160 (i := 236) kd_236 (hid 236 (by decide)) (v := .int 0) (congrArg (fun z => some (Value.int z)) h_236_4) dX12_byteAt_2 ?_
  refine a_ic_ge C dX12_byteAt_5 (tgt := 21) rfl (fun _ => ?_) (fun h => absurd h (by decide))
  refine a_iconst C dX12_byteAt_21 (v := 0) rfl ?_
  exact a_iret Rt dX12_byteAt_22 rfl (⟨rfl, rfl⟩)
theorem dX12_token_0 : decode cX12_token 0 = .ok (.aload_n 0, 1) := by decide +kernel
theorem dX12_token_1 : decode cX12_token 1 = .ok (.getfield 20, 3) := by decide +kernel
theorem dX12_token_4 : decode cX12_token 4 = .ok (.aload_n 0, 1) := by decide +kernel
theorem dX12_token_5 : decode cX12_token 5 = .ok (.getfield 169, 3) := by decide +kernel
theorem dX12_token_8 : decode cX12_token 8 = .ok (.iload_n 1, 1) := by decide +kernel
theorem dX12_token_9 : decode cX12_token 9 = .ok (.iastore, 1) := by decide +kernel
theorem dX12_token_10 : decode cX12_token 10 = .ok (.aload_n 0, 1) := by decide +kernel
theorem dX12_token_11 : decode cX12_token 11 = .ok (.getfield 24, 3) := by decide +kernel
theorem dX12_token_14 : decode cX12_token 14 = .ok (.aload_n 0, 1) := by decide +kernel
theorem dX12_token_15 : decode cX12_token 15 = .ok (.getfield 169, 3) := by decide +kernel
theorem dX12_token_18 : decode cX12_token 18 = .ok (.iload_n 2, 1) := by decide +kernel
theorem dX12_token_19 : decode cX12_token 19 = .ok (.iastore, 1) := by decide +kernel
theorem dX12_token_20 : decode cX12_token 20 = .ok (.aload_n 0, 1) := by decide +kernel
theorem dX12_token_21 : decode cX12_token 21 = .ok (.getfield 27, 3) := by decide +kernel
theorem dX12_token_24 : decode cX12_token 24 = .ok (.aload_n 0, 1) := by decide +kernel
theorem dX12_token_25 : decode cX12_token 25 = .ok (.getfield 169, 3) := by decide +kernel
theorem dX12_token_28 : decode cX12_token 28 = .ok (.iload_n 3, 1) := by decide +kernel
theorem dX12_token_29 : decode cX12_token 29 = .ok (.iastore, 1) := by decide +kernel
theorem dX12_token_30 : decode cX12_token 30 = .ok (.aload_n 0, 1) := by decide +kernel
theorem dX12_token_31 : decode cX12_token 31 = .ok (.getfield 30, 3) := by decide +kernel
theorem dX12_token_34 : decode cX12_token 34 = .ok (.aload_n 0, 1) := by decide +kernel
theorem dX12_token_35 : decode cX12_token 35 = .ok (.getfield 169, 3) := by decide +kernel
theorem dX12_token_38 : decode cX12_token 38 = .ok (.lload 4, 2) := by decide +kernel
theorem dX12_token_40 : decode cX12_token 40 = .ok (.lastore, 1) := by decide +kernel
theorem dX12_token_41 : decode cX12_token 41 = .ok (.aload_n 0, 1) := by decide +kernel
theorem dX12_token_42 : decode cX12_token 42 = .ok (.dup, 1) := by decide +kernel
theorem dX12_token_43 : decode cX12_token 43 = .ok (.getfield 169, 3) := by decide +kernel
theorem dX12_token_46 : decode cX12_token 46 = .ok (.iconst 1, 1) := by decide +kernel
theorem dX12_token_47 : decode cX12_token 47 = .ok (.iadd, 1) := by decide +kernel
theorem dX12_token_48 : decode cX12_token 48 = .ok (.putfield 169, 3) := by decide +kernel
theorem dX12_token_51 : decode cX12_token 51 = .ok (.return_, 1) := by decide +kernel
set_option maxHeartbeats 4000000 in
set_option maxRecDepth 100000 in
theorem m_token {l : Launch} {D : va_G} {ids : List Nat} {ad : Nat → Nat} {ca : Nat → ClassId} {σ : HS} (hid : ∀ i, i < 277 → i ∈ ids) (h_236_10 : σ.1 236 10 = 0) : Kv l D ids ad ca yX12_token cX12_token 6 0 0 [.ref (ad 236), .int 0, .int 0, .int 0, .long 0] σ (fun σ1 => σ1 = (hI (hL (hI (hI (hI σ 239 0 0) 240 0 0) 241 0 0) 242 0 0) 236 10 1)) := by
  refine Kv.of (by decide) (Nat.le_of_ble_eq_true rfl) 0 (fun Γ C Rt => ?_)
  show AW ids ad ca Γ 0 [some (.ref (ad 236)), some (.int 0), some (.int 0), some (.int 0), some (.long 0), none] [] σ
  refine a_aload_n C dX12_token_0 (i := 0) rfl rfl ?_
  refine a_get C fl_RX12_20 (i := 236) kd_236 (hid 236 (by decide)) (v := .ref (ad 239)) rfl dX12_token_1 ?_
  refine a_aload_n C dX12_token_4 (i := 0) rfl rfl ?_
  refine a_get C fl_RX12_169 (i := 236) kd_236 (hid 236 (by decide)) (v := .int 0) (congrArg (fun z => some (Value.int z)) h_236_10) dX12_token_5 ?_
  refine a_iload_n C dX12_token_8 (i := 1) rfl rfl ?_
  refine a_iast C (i := 239) 0 kd_239 (hid 239 (by decide)) (by decide) rfl (by rw [al_239]; decide) dX12_token_9 ?_
  refine a_aload_n C dX12_token_10 (i := 0) rfl rfl ?_
  refine a_get C fl_RX12_24 (i := 236) kd_236 (hid 236 (by decide)) (v := .ref (ad 240)) rfl dX12_token_11 ?_
  refine a_aload_n C dX12_token_14 (i := 0) rfl rfl ?_
  refine a_get C fl_RX12_169 (i := 236) kd_236 (hid 236 (by decide)) (v := .int 0) (congrArg (fun z => some (Value.int z)) h_236_10) dX12_token_15 ?_
  refine a_iload_n C dX12_token_18 (i := 2) rfl rfl ?_
  refine a_iast C (i := 240) 0 kd_240 (hid 240 (by decide)) (by decide) rfl (by rw [al_240]; decide) dX12_token_19 ?_
  refine a_aload_n C dX12_token_20 (i := 0) rfl rfl ?_
  refine a_get C fl_RX12_27 (i := 236) kd_236 (hid 236 (by decide)) (v := .ref (ad 241)) rfl dX12_token_21 ?_
  refine a_aload_n C dX12_token_24 (i := 0) rfl rfl ?_
  refine a_get C fl_RX12_169 (i := 236) kd_236 (hid 236 (by decide)) (v := .int 0) (congrArg (fun z => some (Value.int z)) h_236_10) dX12_token_25 ?_
  refine a_iload_n C dX12_token_28 (i := 3) rfl rfl ?_
  refine a_iast C (i := 241) 0 kd_241 (hid 241 (by decide)) (by decide) rfl (by rw [al_241]; decide) dX12_token_29 ?_
  refine a_aload_n C dX12_token_30 (i := 0) rfl rfl ?_
  refine a_get C fl_RX12_30 (i := 236) kd_236 (hid 236 (by decide)) (v := .ref (ad 242)) rfl dX12_token_31 ?_
  refine a_aload_n C dX12_token_34 (i := 0) rfl rfl ?_
  refine a_get C fl_RX12_169 (i := 236) kd_236 (hid 236 (by decide)) (v := .int 0) (congrArg (fun z => some (Value.int z)) h_236_10) dX12_token_35 ?_
  refine a_lload C dX12_token_38 rfl ?_
  refine a_last C (i := 242) 0 kd_242 (hid 242 (by decide)) (by decide) rfl (by rw [al_242]; decide) dX12_token_40 ?_
  refine a_aload_n C dX12_token_41 (i := 0) rfl rfl ?_
  refine a_dup C dX12_token_42 rfl ?_
  refine a_get C fl_RX12_169 (i := 236) kd_236 (hid 236 (by decide)) (v := .int 0) (congrArg (fun z => some (Value.int z)) h_236_10) dX12_token_43 ?_
  refine a_iconst C dX12_token_46 (v := 1) rfl ?_
  refine a_iadd C dX12_token_47 ?_
  refine a_put C fp_RX12_169 (i := 236) kd_236 (hid 236 (by decide)) rfl rfl dX12_token_48 ?_
  exact a_vret Rt dX12_token_51 (rfl)
theorem dX12_cut_0 : decode cX12_cut 0 = .ok (.aload_n 0, 1) := by decide +kernel
theorem dX12_cut_1 : decode cX12_cut 1 = .ok (.iconst 0, 1) := by decide +kernel
theorem dX12_cut_2 : decode cX12_cut 2 = .ok (.putfield 169, 3) := by decide +kernel
theorem dX12_cut_5 : decode cX12_cut 5 = .ok (.iconst 0, 1) := by decide +kernel
theorem dX12_cut_6 : decode cX12_cut 6 = .ok (.istore_n 1, 1) := by decide +kernel
theorem dX12_cut_7 : decode cX12_cut 7 = .ok (.aload_n 0, 1) := by decide +kernel
theorem dX12_cut_8 : decode cX12_cut 8 = .ok (.getfield 169, 3) := by decide +kernel
theorem dX12_cut_11 : decode cX12_cut 11 = .ok (.sipush 400, 3) := by decide +kernel
theorem dX12_cut_14 : decode cX12_cut 14 = .ok (.if_icmp .gt 280, 3) := by decide +kernel
theorem dX12_cut_17 : decode cX12_cut 17 = .ok (.aload_n 0, 1) := by decide +kernel
theorem dX12_cut_18 : decode cX12_cut 18 = .ok (.iload_n 1, 1) := by decide +kernel
theorem dX12_cut_19 : decode cX12_cut 19 = .ok (.invokevirtual 172, 3) := by decide +kernel
theorem dX12_cut_22 : decode cX12_cut 22 = .ok (.istore_n 2, 1) := by decide +kernel
theorem dX12_cut_23 : decode cX12_cut 23 = .ok (.iload_n 1, 1) := by decide +kernel
theorem dX12_cut_24 : decode cX12_cut 24 = .ok (.aload_n 0, 1) := by decide +kernel
theorem dX12_cut_25 : decode cX12_cut 25 = .ok (.getfield 160, 3) := by decide +kernel
theorem dX12_cut_28 : decode cX12_cut 28 = .ok (.if_icmp .lt 15, 3) := by decide +kernel
theorem dX12_cut_31 : decode cX12_cut 31 = .ok (.aload_n 0, 1) := by decide +kernel
theorem dX12_cut_32 : decode cX12_cut 32 = .ok (.iconst 0, 1) := by decide +kernel
theorem dX12_cut_33 : decode cX12_cut 33 = .ok (.aload_n 0, 1) := by decide +kernel
theorem dX12_cut_34 : decode cX12_cut 34 = .ok (.getfield 160, 3) := by decide +kernel
theorem dX12_cut_37 : decode cX12_cut 37 = .ok (.iconst 0, 1) := by decide +kernel
theorem dX12_cut_38 : decode cX12_cut 38 = .ok (.lconst 0, 1) := by decide +kernel
theorem dX12_cut_39 : decode cX12_cut 39 = .ok (.invokevirtual 176, 3) := by decide +kernel
theorem dX12_cut_42 : decode cX12_cut 42 = .ok (.return_, 1) := by decide +kernel
set_option maxHeartbeats 4000000 in
set_option maxRecDepth 100000 in
theorem m_cut {l : Launch} {D : va_G} {ids : List Nat} {ad : Nat → Nat} {ca : Nat → ClassId} {σ : HS} (hid : ∀ i, i < 277 → i ∈ ids) (h_236_4 : σ.1 236 4 = 0) : Kv l D ids ad ca yX12_cut cX12_cut 8 1 25 [.ref (ad 236)] σ (fun σ1 => σ1 = (hI (hL (hI (hI (hI (hI σ 236 10 0) 239 0 0) 240 0 0) 241 0 0) 242 0 0) 236 10 1)) := by
  refine Kv.of (by decide) (Nat.le_of_ble_eq_true rfl) 7 (fun Γ C Rt => ?_)
  show AW ids ad ca Γ 0 [some (.ref (ad 236)), none, none, none, none, none, none, none] [] σ
  refine a_aload_n C dX12_cut_0 (i := 0) rfl rfl ?_
  refine a_iconst C dX12_cut_1 (v := 0) rfl ?_
  refine a_put C fp_RX12_169 (i := 236) kd_236 (hid 236 (by decide)) rfl rfl dX12_cut_2 ?_
  refine a_iconst C dX12_cut_5 (v := 0) rfl ?_
  refine a_istore_n C dX12_cut_6 (i := 1) rfl (by decide) rfl (vs1 := [some (.ref (ad 236)), some (.int 0), none, none, none, none, none, none]) rfl ?_
  refine a_aload_n C dX12_cut_7 (i := 0) rfl rfl ?_
  refine a_get C fl_RX12_169 (i := 236) kd_236 (hid 236 (by decide)) (v := .int 0) rfl dX12_cut_8 ?_
  refine a_sipush C dX12_cut_11 (v := 400) rfl ?_
  refine a_ic_gt C dX12_cut_14 (tgt := 294) rfl (fun h => absurd h (by decide)) (fun _ => ?_)
  refine a_aload_n C dX12_cut_17 (i := 0) rfl rfl ?_
  refine a_iload_n C dX12_cut_18 (i := 1) rfl rfl ?_
  refine a_callVi C (i := 236) kd_236 (hid 236 (by decide)) ⟨_, _, rfl⟩ (by decide) (m_byteAt hid h_236_4) mi_X12_byteAt ml_RX12_172 rfl rfl (Nat.le_of_ble_eq_true rfl) (Nat.le_of_ble_eq_true rfl) (Nat.le_of_ble_eq_true rfl) dX12_cut_19 (fun r1 σ2 q3 => ?_)
  obtain ⟨rfl, q3⟩ := q3
  rw [q3]
  refine a_istore_n C dX12_cut_22 (i := 2) rfl (by decide) rfl (vs1 := [some (.ref (ad 236)), some (.int 0), some (.int 0), none, none, none, none, none]) rfl ?_
  refine a_iload_n C dX12_cut_23 (i := 1) rfl rfl ?_
  refine a_aload_n C dX12_cut_24 (i := 0) rfl rfl ?_
  refine a_get C fl_RX12_160 (i := 236) kd_236 (hid 236 (by decide)) (v := .int 0) (congrArg (fun z => some (Value.int z)) h_236_4) dX12_cut_25 ?_
  refine a_ic_lt C dX12_cut_28 (tgt := 43) rfl (fun h => absurd h (by decide)) (fun _ => ?_)
  refine a_aload_n C dX12_cut_31 (i := 0) rfl rfl ?_
  refine a_iconst C dX12_cut_32 (v := 0) rfl ?_
  refine a_aload_n C dX12_cut_33 (i := 0) rfl rfl ?_
  refine a_get C fl_RX12_160 (i := 236) kd_236 (hid 236 (by decide)) (v := .int 0) (congrArg (fun z => some (Value.int z)) h_236_4) dX12_cut_34 ?_
  refine a_iconst C dX12_cut_37 (v := 0) rfl ?_
  refine a_lconst C dX12_cut_38 (v := 0) rfl ?_
  refine a_callVv C (i := 236) kd_236 (hid 236 (by decide)) ⟨_, _, rfl⟩ (by decide) (m_token hid rfl) mi_X12_token ml_RX12_176 rfl rfl (Nat.le_of_ble_eq_true rfl) (Nat.le_of_ble_eq_true rfl) (Nat.le_of_ble_eq_true rfl) dX12_cut_39 (fun σ5 q6 => ?_)
  subst q6
  exact a_vret Rt dX12_cut_42 (rfl)
theorem dX12_is_0 : decode cX12_is 0 = .ok (.aload_n 0, 1) := by decide +kernel
theorem dX12_is_1 : decode cX12_is 1 = .ok (.getfield 191, 3) := by decide +kernel
theorem dX12_is_4 : decode cX12_is 4 = .ok (.ifCond .ne 20, 3) := by decide +kernel
theorem dX12_is_7 : decode cX12_is 7 = .ok (.aload_n 0, 1) := by decide +kernel
theorem dX12_is_8 : decode cX12_is 8 = .ok (.getfield 20, 3) := by decide +kernel
theorem dX12_is_11 : decode cX12_is 11 = .ok (.aload_n 0, 1) := by decide +kernel
theorem dX12_is_12 : decode cX12_is 12 = .ok (.getfield 194, 3) := by decide +kernel
theorem dX12_is_15 : decode cX12_is 15 = .ok (.iaload, 1) := by decide +kernel
theorem dX12_is_16 : decode cX12_is 16 = .ok (.iload_n 1, 1) := by decide +kernel
theorem dX12_is_17 : decode cX12_is 17 = .ok (.if_icmp .ne 7, 3) := by decide +kernel
theorem dX12_is_20 : decode cX12_is 20 = .ok (.iconst 1, 1) := by decide +kernel
theorem dX12_is_21 : decode cX12_is 21 = .ok (.goto 4, 3) := by decide +kernel
theorem dX12_is_25 : decode cX12_is 25 = .ok (.ireturn, 1) := by decide +kernel
set_option maxHeartbeats 4000000 in
set_option maxRecDepth 100000 in
theorem m_is {l : Launch} {D : va_G} {ids : List Nat} {ad : Nat → Nat} {ca : Nat → ClassId} {σ : HS} (hid : ∀ i, i < 277 → i ∈ ids) (h_236_11 : σ.1 236 11 = 0) (h_236_13 : σ.1 236 13 = 0) (h_239_0 : σ.1 239 0 = 0) : Ki l D ids ad ca yX12_is cX12_is 2 .boolean 0 0 [.ref (ad 236), .int 0] σ (fun r σ1 => r = 1 ∧ σ1 = σ) := by
  refine Ki.of (by decide) (Nat.le_of_ble_eq_true rfl) 0 (fun Γ C Rt => ?_)
  show AW ids ad ca Γ 0 [some (.ref (ad 236)), some (.int 0)] [] σ
  refine a_aload_n C dX12_is_0 (i := 0) rfl rfl ?_
  refine a_get C fl_RX12_191 (i := 236) kd_236 (hid 236 (by decide)) (v := .int 0) (congrArg (fun z => some (Value.int z)) h_236_13) dX12_is_1 ?_
  refine a_if_ne C dX12_is_4 (tgt := 24) rfl (fun h => absurd h (by decide)) (fun _ => ?_)
  refine a_aload_n C dX12_is_7 (i := 0) rfl rfl ?_
  refine a_get C fl_RX12_20 (i := 236) kd_236 (hid 236 (by decide)) (v := .ref (ad 239)) rfl dX12_is_8 ?_
  refine a_aload_n C dX12_is_11 (i := 0) rfl rfl ?_
  refine a_get C fl_RX12_194 (i := 236) kd_236 (hid 236 (by decide)) (v := .int 0) (congrArg (fun z => some (Value.int z)) h_236_11) dX12_is_12 ?_
  refine a_iald C (i := 239) 0 kd_239 (hid 239 (by decide)) (by decide) rfl (by rw [al_239]; decide) dX12_is_15 (v := 0) h_239_0 ?_
  refine a_iload_n C dX12_is_16 (i := 1) rfl rfl ?_
  refine a_ic_ne C dX12_is_17 (tgt := 24) rfl (fun h => absurd h (by decide)) (fun _ => ?_)
  refine a_iconst C dX12_is_20 (v := 1) rfl ?_
  refine a_goto C dX12_is_21 (tgt := 25) rfl ?_
  exact a_iret Rt dX12_is_25 rfl (⟨rfl, rfl⟩)
theorem dX12_plain_0 : decode cX12_plain 0 = .ok (.aload_n 0, 1) := by decide +kernel
theorem dX12_plain_1 : decode cX12_plain 1 = .ok (.getfield 43, 3) := by decide +kernel
theorem dX12_plain_4 : decode cX12_plain 4 = .ok (.iload_n 1, 1) := by decide +kernel
theorem dX12_plain_5 : decode cX12_plain 5 = .ok (.iconst 0, 1) := by decide +kernel
theorem dX12_plain_6 : decode cX12_plain 6 = .ok (.iastore, 1) := by decide +kernel
theorem dX12_plain_7 : decode cX12_plain 7 = .ok (.aload_n 0, 1) := by decide +kernel
theorem dX12_plain_8 : decode cX12_plain 8 = .ok (.getfield 55, 3) := by decide +kernel
theorem dX12_plain_11 : decode cX12_plain 11 = .ok (.iload_n 1, 1) := by decide +kernel
theorem dX12_plain_12 : decode cX12_plain 12 = .ok (.iconst 0, 1) := by decide +kernel
theorem dX12_plain_13 : decode cX12_plain 13 = .ok (.iastore, 1) := by decide +kernel
theorem dX12_plain_14 : decode cX12_plain 14 = .ok (.aload_n 0, 1) := by decide +kernel
theorem dX12_plain_15 : decode cX12_plain 15 = .ok (.getfield 64, 3) := by decide +kernel
theorem dX12_plain_18 : decode cX12_plain 18 = .ok (.iload_n 1, 1) := by decide +kernel
theorem dX12_plain_19 : decode cX12_plain 19 = .ok (.iconst 1, 1) := by decide +kernel
theorem dX12_plain_20 : decode cX12_plain 20 = .ok (.iastore, 1) := by decide +kernel
theorem dX12_plain_21 : decode cX12_plain 21 = .ok (.aload_n 0, 1) := by decide +kernel
theorem dX12_plain_22 : decode cX12_plain 22 = .ok (.getfield 67, 3) := by decide +kernel
theorem dX12_plain_25 : decode cX12_plain 25 = .ok (.iload_n 1, 1) := by decide +kernel
theorem dX12_plain_26 : decode cX12_plain 26 = .ok (.iconst 0, 1) := by decide +kernel
theorem dX12_plain_27 : decode cX12_plain 27 = .ok (.iastore, 1) := by decide +kernel
theorem dX12_plain_28 : decode cX12_plain 28 = .ok (.iconst 0, 1) := by decide +kernel
theorem dX12_plain_29 : decode cX12_plain 29 = .ok (.istore_n 2, 1) := by decide +kernel
theorem dX12_plain_30 : decode cX12_plain 30 = .ok (.iload_n 2, 1) := by decide +kernel
theorem dX12_plain_31 : decode cX12_plain 31 = .ok (.iconst 4, 1) := by decide +kernel
theorem dX12_plain_32 : decode cX12_plain 32 = .ok (.if_icmp .ge 31, 3) := by decide +kernel
theorem dX12_plain_35 : decode cX12_plain 35 = .ok (.aload_n 0, 1) := by decide +kernel
theorem dX12_plain_36 : decode cX12_plain 36 = .ok (.getfield 70, 3) := by decide +kernel
theorem dX12_plain_39 : decode cX12_plain 39 = .ok (.iconst 4, 1) := by decide +kernel
theorem dX12_plain_40 : decode cX12_plain 40 = .ok (.iload_n 1, 1) := by decide +kernel
theorem dX12_plain_41 : decode cX12_plain 41 = .ok (.imul, 1) := by decide +kernel
theorem dX12_plain_42 : decode cX12_plain 42 = .ok (.iload_n 2, 1) := by decide +kernel
theorem dX12_plain_43 : decode cX12_plain 43 = .ok (.iadd, 1) := by decide +kernel
theorem dX12_plain_44 : decode cX12_plain 44 = .ok (.iconst 0, 1) := by decide +kernel
theorem dX12_plain_45 : decode cX12_plain 45 = .ok (.iastore, 1) := by decide +kernel
theorem dX12_plain_46 : decode cX12_plain 46 = .ok (.aload_n 0, 1) := by decide +kernel
theorem dX12_plain_47 : decode cX12_plain 47 = .ok (.getfield 73, 3) := by decide +kernel
theorem dX12_plain_50 : decode cX12_plain 50 = .ok (.iconst 4, 1) := by decide +kernel
theorem dX12_plain_51 : decode cX12_plain 51 = .ok (.iload_n 1, 1) := by decide +kernel
theorem dX12_plain_52 : decode cX12_plain 52 = .ok (.imul, 1) := by decide +kernel
theorem dX12_plain_53 : decode cX12_plain 53 = .ok (.iload_n 2, 1) := by decide +kernel
theorem dX12_plain_54 : decode cX12_plain 54 = .ok (.iadd, 1) := by decide +kernel
theorem dX12_plain_55 : decode cX12_plain 55 = .ok (.iconst 0, 1) := by decide +kernel
theorem dX12_plain_56 : decode cX12_plain 56 = .ok (.iastore, 1) := by decide +kernel
theorem dX12_plain_57 : decode cX12_plain 57 = .ok (.iinc 2 1, 3) := by decide +kernel
theorem dX12_plain_60 : decode cX12_plain 60 = .ok (.goto (-30), 3) := by decide +kernel
theorem dX12_plain_63 : decode cX12_plain 63 = .ok (.return_, 1) := by decide +kernel
set_option maxHeartbeats 4000000 in
set_option maxRecDepth 100000 in
theorem m_plain1 {l : Launch} {D : va_G} {ids : List Nat} {ad : Nat → Nat} {ca : Nat → ClassId} {σ : HS} (hid : ∀ i, i < 277 → i ∈ ids) : Kv l D ids ad ca yX12_plain cX12_plain 3 0 0 [.ref (ad 236), .int 1] σ (fun σ1 => σ1 = (hI (hI (hI (hI (hI (hI (hI (hI (hI (hI (hI (hI σ 245 1 0) 249 1 0) 252 1 1) 253 1 0) 254 4 0) 255 4 0) 254 5 0) 255 5 0) 254 6 0) 255 6 0) 254 7 0) 255 7 0)) := by
  refine Kv.of (by decide) (Nat.le_of_ble_eq_true rfl) 1 (fun Γ C Rt => ?_)
  show AW ids ad ca Γ 0 [some (.ref (ad 236)), some (.int 1), none] [] σ
  refine a_aload_n C dX12_plain_0 (i := 0) rfl rfl ?_
  refine a_get C fl_RX12_43 (i := 236) kd_236 (hid 236 (by decide)) (v := .ref (ad 245)) rfl dX12_plain_1 ?_
  refine a_iload_n C dX12_plain_4 (i := 1) rfl rfl ?_
  refine a_iconst C dX12_plain_5 (v := 0) rfl ?_
  refine a_iast C (i := 245) 1 kd_245 (hid 245 (by decide)) (by decide) rfl (by rw [al_245]; decide) dX12_plain_6 ?_
  refine a_aload_n C dX12_plain_7 (i := 0) rfl rfl ?_
  refine a_get C fl_RX12_55 (i := 236) kd_236 (hid 236 (by decide)) (v := .ref (ad 249)) rfl dX12_plain_8 ?_
  refine a_iload_n C dX12_plain_11 (i := 1) rfl rfl ?_
  refine a_iconst C dX12_plain_12 (v := 0) rfl ?_
  refine a_iast C (i := 249) 1 kd_249 (hid 249 (by decide)) (by decide) rfl (by rw [al_249]; decide) dX12_plain_13 ?_
  refine a_aload_n C dX12_plain_14 (i := 0) rfl rfl ?_
  refine a_get C fl_RX12_64 (i := 236) kd_236 (hid 236 (by decide)) (v := .ref (ad 252)) rfl dX12_plain_15 ?_
  refine a_iload_n C dX12_plain_18 (i := 1) rfl rfl ?_
  refine a_iconst C dX12_plain_19 (v := 1) rfl ?_
  refine a_iast C (i := 252) 1 kd_252 (hid 252 (by decide)) (by decide) rfl (by rw [al_252]; decide) dX12_plain_20 ?_
  refine a_aload_n C dX12_plain_21 (i := 0) rfl rfl ?_
  refine a_get C fl_RX12_67 (i := 236) kd_236 (hid 236 (by decide)) (v := .ref (ad 253)) rfl dX12_plain_22 ?_
  refine a_iload_n C dX12_plain_25 (i := 1) rfl rfl ?_
  refine a_iconst C dX12_plain_26 (v := 0) rfl ?_
  refine a_iast C (i := 253) 1 kd_253 (hid 253 (by decide)) (by decide) rfl (by rw [al_253]; decide) dX12_plain_27 ?_
  refine a_iconst C dX12_plain_28 (v := 0) rfl ?_
  refine a_istore_n C dX12_plain_29 (i := 2) rfl (by decide) rfl (vs1 := [some (.ref (ad 236)), some (.int 1), some (.int 0)]) rfl ?_
  refine a_iload_n C dX12_plain_30 (i := 2) rfl rfl ?_
  refine a_iconst C dX12_plain_31 (v := 4) rfl ?_
  refine a_ic_ge C dX12_plain_32 (tgt := 63) rfl (fun h => absurd h (by decide)) (fun _ => ?_)
  refine a_aload_n C dX12_plain_35 (i := 0) rfl rfl ?_
  refine a_get C fl_RX12_70 (i := 236) kd_236 (hid 236 (by decide)) (v := .ref (ad 254)) rfl dX12_plain_36 ?_
  refine a_iconst C dX12_plain_39 (v := 4) rfl ?_
  refine a_iload_n C dX12_plain_40 (i := 1) rfl rfl ?_
  refine a_imul C dX12_plain_41 ?_
  refine a_iload_n C dX12_plain_42 (i := 2) rfl rfl ?_
  refine a_iadd C dX12_plain_43 ?_
  refine a_iconst C dX12_plain_44 (v := 0) rfl ?_
  refine a_iast C (i := 254) 4 kd_254 (hid 254 (by decide)) (by decide) rfl (by rw [al_254]; decide) dX12_plain_45 ?_
  refine a_aload_n C dX12_plain_46 (i := 0) rfl rfl ?_
  refine a_get C fl_RX12_73 (i := 236) kd_236 (hid 236 (by decide)) (v := .ref (ad 255)) rfl dX12_plain_47 ?_
  refine a_iconst C dX12_plain_50 (v := 4) rfl ?_
  refine a_iload_n C dX12_plain_51 (i := 1) rfl rfl ?_
  refine a_imul C dX12_plain_52 ?_
  refine a_iload_n C dX12_plain_53 (i := 2) rfl rfl ?_
  refine a_iadd C dX12_plain_54 ?_
  refine a_iconst C dX12_plain_55 (v := 0) rfl ?_
  refine a_iast C (i := 255) 4 kd_255 (hid 255 (by decide)) (by decide) rfl (by rw [al_255]; decide) dX12_plain_56 ?_
  refine a_iinc C dX12_plain_57 rfl (v := 1) rfl (by decide) rfl (vs1 := [some (.ref (ad 236)), some (.int 1), some (.int 1)]) rfl ?_
  refine a_goto C dX12_plain_60 (tgt := 30) rfl ?_
  refine a_iload_n C dX12_plain_30 (i := 2) rfl rfl ?_
  refine a_iconst C dX12_plain_31 (v := 4) rfl ?_
  refine a_ic_ge C dX12_plain_32 (tgt := 63) rfl (fun h => absurd h (by decide)) (fun _ => ?_)
  refine a_aload_n C dX12_plain_35 (i := 0) rfl rfl ?_
  refine a_get C fl_RX12_70 (i := 236) kd_236 (hid 236 (by decide)) (v := .ref (ad 254)) rfl dX12_plain_36 ?_
  refine a_iconst C dX12_plain_39 (v := 4) rfl ?_
  refine a_iload_n C dX12_plain_40 (i := 1) rfl rfl ?_
  refine a_imul C dX12_plain_41 ?_
  refine a_iload_n C dX12_plain_42 (i := 2) rfl rfl ?_
  refine a_iadd C dX12_plain_43 ?_
  refine a_iconst C dX12_plain_44 (v := 0) rfl ?_
  refine a_iast C (i := 254) 5 kd_254 (hid 254 (by decide)) (by decide) rfl (by rw [al_254]; decide) dX12_plain_45 ?_
  refine a_aload_n C dX12_plain_46 (i := 0) rfl rfl ?_
  refine a_get C fl_RX12_73 (i := 236) kd_236 (hid 236 (by decide)) (v := .ref (ad 255)) rfl dX12_plain_47 ?_
  refine a_iconst C dX12_plain_50 (v := 4) rfl ?_
  refine a_iload_n C dX12_plain_51 (i := 1) rfl rfl ?_
  refine a_imul C dX12_plain_52 ?_
  refine a_iload_n C dX12_plain_53 (i := 2) rfl rfl ?_
  refine a_iadd C dX12_plain_54 ?_
  refine a_iconst C dX12_plain_55 (v := 0) rfl ?_
  refine a_iast C (i := 255) 5 kd_255 (hid 255 (by decide)) (by decide) rfl (by rw [al_255]; decide) dX12_plain_56 ?_
  refine a_iinc C dX12_plain_57 rfl (v := 2) rfl (by decide) rfl (vs1 := [some (.ref (ad 236)), some (.int 1), some (.int 2)]) rfl ?_
  refine a_goto C dX12_plain_60 (tgt := 30) rfl ?_
  refine a_iload_n C dX12_plain_30 (i := 2) rfl rfl ?_
  refine a_iconst C dX12_plain_31 (v := 4) rfl ?_
  refine a_ic_ge C dX12_plain_32 (tgt := 63) rfl (fun h => absurd h (by decide)) (fun _ => ?_)
  refine a_aload_n C dX12_plain_35 (i := 0) rfl rfl ?_
  refine a_get C fl_RX12_70 (i := 236) kd_236 (hid 236 (by decide)) (v := .ref (ad 254)) rfl dX12_plain_36 ?_
  refine a_iconst C dX12_plain_39 (v := 4) rfl ?_
  refine a_iload_n C dX12_plain_40 (i := 1) rfl rfl ?_
  refine a_imul C dX12_plain_41 ?_
  refine a_iload_n C dX12_plain_42 (i := 2) rfl rfl ?_
  refine a_iadd C dX12_plain_43 ?_
  refine a_iconst C dX12_plain_44 (v := 0) rfl ?_
  refine a_iast C (i := 254) 6 kd_254 (hid 254 (by decide)) (by decide) rfl (by rw [al_254]; decide) dX12_plain_45 ?_
  refine a_aload_n C dX12_plain_46 (i := 0) rfl rfl ?_
  refine a_get C fl_RX12_73 (i := 236) kd_236 (hid 236 (by decide)) (v := .ref (ad 255)) rfl dX12_plain_47 ?_
  refine a_iconst C dX12_plain_50 (v := 4) rfl ?_
  refine a_iload_n C dX12_plain_51 (i := 1) rfl rfl ?_
  refine a_imul C dX12_plain_52 ?_
  refine a_iload_n C dX12_plain_53 (i := 2) rfl rfl ?_
  refine a_iadd C dX12_plain_54 ?_
  refine a_iconst C dX12_plain_55 (v := 0) rfl ?_
  refine a_iast C (i := 255) 6 kd_255 (hid 255 (by decide)) (by decide) rfl (by rw [al_255]; decide) dX12_plain_56 ?_
  refine a_iinc C dX12_plain_57 rfl (v := 3) rfl (by decide) rfl (vs1 := [some (.ref (ad 236)), some (.int 1), some (.int 3)]) rfl ?_
  refine a_goto C dX12_plain_60 (tgt := 30) rfl ?_
  refine a_iload_n C dX12_plain_30 (i := 2) rfl rfl ?_
  refine a_iconst C dX12_plain_31 (v := 4) rfl ?_
  refine a_ic_ge C dX12_plain_32 (tgt := 63) rfl (fun h => absurd h (by decide)) (fun _ => ?_)
  refine a_aload_n C dX12_plain_35 (i := 0) rfl rfl ?_
  refine a_get C fl_RX12_70 (i := 236) kd_236 (hid 236 (by decide)) (v := .ref (ad 254)) rfl dX12_plain_36 ?_
  refine a_iconst C dX12_plain_39 (v := 4) rfl ?_
  refine a_iload_n C dX12_plain_40 (i := 1) rfl rfl ?_
  refine a_imul C dX12_plain_41 ?_
  refine a_iload_n C dX12_plain_42 (i := 2) rfl rfl ?_
  refine a_iadd C dX12_plain_43 ?_
  refine a_iconst C dX12_plain_44 (v := 0) rfl ?_
  refine a_iast C (i := 254) 7 kd_254 (hid 254 (by decide)) (by decide) rfl (by rw [al_254]; decide) dX12_plain_45 ?_
  refine a_aload_n C dX12_plain_46 (i := 0) rfl rfl ?_
  refine a_get C fl_RX12_73 (i := 236) kd_236 (hid 236 (by decide)) (v := .ref (ad 255)) rfl dX12_plain_47 ?_
  refine a_iconst C dX12_plain_50 (v := 4) rfl ?_
  refine a_iload_n C dX12_plain_51 (i := 1) rfl rfl ?_
  refine a_imul C dX12_plain_52 ?_
  refine a_iload_n C dX12_plain_53 (i := 2) rfl rfl ?_
  refine a_iadd C dX12_plain_54 ?_
  refine a_iconst C dX12_plain_55 (v := 0) rfl ?_
  refine a_iast C (i := 255) 7 kd_255 (hid 255 (by decide)) (by decide) rfl (by rw [al_255]; decide) dX12_plain_56 ?_
  refine a_iinc C dX12_plain_57 rfl (v := 4) rfl (by decide) rfl (vs1 := [some (.ref (ad 236)), some (.int 1), some (.int 4)]) rfl ?_
  refine a_goto C dX12_plain_60 (tgt := 30) rfl ?_
  refine a_iload_n C dX12_plain_30 (i := 2) rfl rfl ?_
  refine a_iconst C dX12_plain_31 (v := 4) rfl ?_
  refine a_ic_ge C dX12_plain_32 (tgt := 63) rfl (fun _ => ?_) (fun h => absurd h (by decide))
  exact a_vret Rt dX12_plain_63 (rfl)
theorem dX12_begins_0 : decode cX12_begins 0 = .ok (.iconst 0, 1) := by decide +kernel
theorem dX12_begins_1 : decode cX12_begins 1 = .ok (.istore_n 1, 1) := by decide +kernel
theorem dX12_begins_2 : decode cX12_begins 2 = .ok (.iload_n 1, 1) := by decide +kernel
theorem dX12_begins_3 : decode cX12_begins 3 = .ok (.bipush 29, 2) := by decide +kernel
theorem dX12_begins_5 : decode cX12_begins 5 = .ok (.if_icmp .ge 16, 3) := by decide +kernel
theorem dX12_begins_8 : decode cX12_begins 8 = .ok (.aload_n 0, 1) := by decide +kernel
theorem dX12_begins_9 : decode cX12_begins 9 = .ok (.getfield 110, 3) := by decide +kernel
theorem dX12_begins_12 : decode cX12_begins 12 = .ok (.iload_n 1, 1) := by decide +kernel
theorem dX12_begins_13 : decode cX12_begins 13 = .ok (.iconst 0, 1) := by decide +kernel
theorem dX12_begins_14 : decode cX12_begins 14 = .ok (.iastore, 1) := by decide +kernel
theorem dX12_begins_15 : decode cX12_begins 15 = .ok (.iinc 1 1, 3) := by decide +kernel
theorem dX12_begins_18 : decode cX12_begins 18 = .ok (.goto (-16), 3) := by decide +kernel
theorem dX12_begins_21 : decode cX12_begins 21 = .ok (.iconst 0, 1) := by decide +kernel
theorem dX12_begins_22 : decode cX12_begins 22 = .ok (.istore_n 1, 1) := by decide +kernel
theorem dX12_begins_23 : decode cX12_begins 23 = .ok (.iload_n 1, 1) := by decide +kernel
theorem dX12_begins_24 : decode cX12_begins 24 = .ok (.aload_n 0, 1) := by decide +kernel
theorem dX12_begins_25 : decode cX12_begins 25 = .ok (.getfield 43, 3) := by decide +kernel
theorem dX12_begins_28 : decode cX12_begins 28 = .ok (.aload_n 0, 1) := by decide +kernel
theorem dX12_begins_29 : decode cX12_begins 29 = .ok (.getfield 221, 3) := by decide +kernel
theorem dX12_begins_32 : decode cX12_begins 32 = .ok (.iaload, 1) := by decide +kernel
theorem dX12_begins_33 : decode cX12_begins 33 = .ok (.if_icmp .ge 32, 3) := by decide +kernel
theorem dX12_begins_65 : decode cX12_begins 65 = .ok (.aload_n 0, 1) := by decide +kernel
theorem dX12_begins_66 : decode cX12_begins 66 = .ok (.getfield 110, 3) := by decide +kernel
theorem dX12_begins_69 : decode cX12_begins 69 = .ok (.bipush 26, 2) := by decide +kernel
theorem dX12_begins_71 : decode cX12_begins 71 = .ok (.aload_n 0, 1) := by decide +kernel
theorem dX12_begins_72 : decode cX12_begins 72 = .ok (.getfield 55, 3) := by decide +kernel
theorem dX12_begins_75 : decode cX12_begins 75 = .ok (.aload_n 0, 1) := by decide +kernel
theorem dX12_begins_76 : decode cX12_begins 76 = .ok (.getfield 221, 3) := by decide +kernel
theorem dX12_begins_79 : decode cX12_begins 79 = .ok (.iaload, 1) := by decide +kernel
theorem dX12_begins_80 : decode cX12_begins 80 = .ok (.ifCond .le 7, 3) := by decide +kernel
theorem dX12_begins_87 : decode cX12_begins 87 = .ok (.bipush (-2), 2) := by decide +kernel
theorem dX12_begins_89 : decode cX12_begins 89 = .ok (.iastore, 1) := by decide +kernel
theorem dX12_begins_90 : decode cX12_begins 90 = .ok (.aload_n 0, 1) := by decide +kernel
theorem dX12_begins_91 : decode cX12_begins 91 = .ok (.getfield 110, 3) := by decide +kernel
theorem dX12_begins_94 : decode cX12_begins 94 = .ok (.bipush 28, 2) := by decide +kernel
theorem dX12_begins_96 : decode cX12_begins 96 = .ok (.iconst (-1), 1) := by decide +kernel
theorem dX12_begins_97 : decode cX12_begins 97 = .ok (.iastore, 1) := by decide +kernel
theorem dX12_begins_98 : decode cX12_begins 98 = .ok (.aload_n 0, 1) := by decide +kernel
theorem dX12_begins_99 : decode cX12_begins 99 = .ok (.aload_n 0, 1) := by decide +kernel
theorem dX12_begins_100 : decode cX12_begins 100 = .ok (.getfield 67, 3) := by decide +kernel
theorem dX12_begins_103 : decode cX12_begins 103 = .ok (.aload_n 0, 1) := by decide +kernel
theorem dX12_begins_104 : decode cX12_begins 104 = .ok (.getfield 221, 3) := by decide +kernel
theorem dX12_begins_107 : decode cX12_begins 107 = .ok (.iaload, 1) := by decide +kernel
theorem dX12_begins_108 : decode cX12_begins 108 = .ok (.putfield 305, 3) := by decide +kernel
theorem dX12_begins_111 : decode cX12_begins 111 = .ok (.aload_n 0, 1) := by decide +kernel
theorem dX12_begins_112 : decode cX12_begins 112 = .ok (.iconst 0, 1) := by decide +kernel
theorem dX12_begins_113 : decode cX12_begins 113 = .ok (.putfield 308, 3) := by decide +kernel
theorem dX12_begins_116 : decode cX12_begins 116 = .ok (.return_, 1) := by decide +kernel
set_option maxHeartbeats 4000000 in
set_option maxRecDepth 100000 in
theorem m_begins1 {l : Launch} {D : va_G} {ids : List Nat} {ad : Nat → Nat} {ca : Nat → ClassId} {σ : HS} (hid : ∀ i, i < 277 → i ∈ ids) (h_236_18 : σ.1 236 18 = 1) (h_245_1 : σ.1 245 1 = 0) (h_249_1 : σ.1 249 1 = 0) (h_253_1 : σ.1 253 1 = 0) : Kv l D ids ad ca yX12_begins cX12_begins 2 0 0 [.ref (ad 236)] σ (fun σ1 => only [267, 236] σ σ1 ∧ σ1.1 267 21 = 0) := by
  refine Kv.of (by decide) (Nat.le_of_ble_eq_true rfl) 1 (fun Γ C Rt => ?_)
  show AW ids ad ca Γ 0 [some (.ref (ad 236)), none] [] σ
  refine a_iconst C dX12_begins_0 (v := 0) rfl ?_
  refine a_istore_n C dX12_begins_1 (i := 1) rfl (by decide) rfl (vs1 := [some (.ref (ad 236)), some (.int 0)]) rfl ?_
  refine a_iload_n C dX12_begins_2 (i := 1) rfl rfl ?_
  refine a_bipush C dX12_begins_3 (v := 29) rfl ?_
  refine a_ic_ge C dX12_begins_5 (tgt := 21) rfl (fun h => absurd h (by decide)) (fun _ => ?_)
  refine a_aload_n C dX12_begins_8 (i := 0) rfl rfl ?_
  refine a_get C fl_RX12_110 (i := 236) kd_236 (hid 236 (by decide)) (v := .ref (ad 267)) rfl dX12_begins_9 ?_
  refine a_iload_n C dX12_begins_12 (i := 1) rfl rfl ?_
  refine a_iconst C dX12_begins_13 (v := 0) rfl ?_
  refine a_iast C (i := 267) 0 kd_267 (hid 267 (by decide)) (by decide) rfl (by rw [al_267]; decide) dX12_begins_14 ?_
  refine a_iinc C dX12_begins_15 rfl (v := 1) rfl (by decide) rfl (vs1 := [some (.ref (ad 236)), some (.int 1)]) rfl ?_
  refine a_goto C dX12_begins_18 (tgt := 2) rfl ?_
  refine a_iload_n C dX12_begins_2 (i := 1) rfl rfl ?_
  refine a_bipush C dX12_begins_3 (v := 29) rfl ?_
  refine a_ic_ge C dX12_begins_5 (tgt := 21) rfl (fun h => absurd h (by decide)) (fun _ => ?_)
  refine a_aload_n C dX12_begins_8 (i := 0) rfl rfl ?_
  refine a_get C fl_RX12_110 (i := 236) kd_236 (hid 236 (by decide)) (v := .ref (ad 267)) rfl dX12_begins_9 ?_
  refine a_iload_n C dX12_begins_12 (i := 1) rfl rfl ?_
  refine a_iconst C dX12_begins_13 (v := 0) rfl ?_
  refine a_iast C (i := 267) 1 kd_267 (hid 267 (by decide)) (by decide) rfl (by rw [al_267]; decide) dX12_begins_14 ?_
  refine a_iinc C dX12_begins_15 rfl (v := 2) rfl (by decide) rfl (vs1 := [some (.ref (ad 236)), some (.int 2)]) rfl ?_
  refine a_goto C dX12_begins_18 (tgt := 2) rfl ?_
  refine a_iload_n C dX12_begins_2 (i := 1) rfl rfl ?_
  refine a_bipush C dX12_begins_3 (v := 29) rfl ?_
  refine a_ic_ge C dX12_begins_5 (tgt := 21) rfl (fun h => absurd h (by decide)) (fun _ => ?_)
  refine a_aload_n C dX12_begins_8 (i := 0) rfl rfl ?_
  refine a_get C fl_RX12_110 (i := 236) kd_236 (hid 236 (by decide)) (v := .ref (ad 267)) rfl dX12_begins_9 ?_
  refine a_iload_n C dX12_begins_12 (i := 1) rfl rfl ?_
  refine a_iconst C dX12_begins_13 (v := 0) rfl ?_
  refine a_iast C (i := 267) 2 kd_267 (hid 267 (by decide)) (by decide) rfl (by rw [al_267]; decide) dX12_begins_14 ?_
  refine a_iinc C dX12_begins_15 rfl (v := 3) rfl (by decide) rfl (vs1 := [some (.ref (ad 236)), some (.int 3)]) rfl ?_
  refine a_goto C dX12_begins_18 (tgt := 2) rfl ?_
  refine a_iload_n C dX12_begins_2 (i := 1) rfl rfl ?_
  refine a_bipush C dX12_begins_3 (v := 29) rfl ?_
  refine a_ic_ge C dX12_begins_5 (tgt := 21) rfl (fun h => absurd h (by decide)) (fun _ => ?_)
  refine a_aload_n C dX12_begins_8 (i := 0) rfl rfl ?_
  refine a_get C fl_RX12_110 (i := 236) kd_236 (hid 236 (by decide)) (v := .ref (ad 267)) rfl dX12_begins_9 ?_
  refine a_iload_n C dX12_begins_12 (i := 1) rfl rfl ?_
  refine a_iconst C dX12_begins_13 (v := 0) rfl ?_
  refine a_iast C (i := 267) 3 kd_267 (hid 267 (by decide)) (by decide) rfl (by rw [al_267]; decide) dX12_begins_14 ?_
  refine a_iinc C dX12_begins_15 rfl (v := 4) rfl (by decide) rfl (vs1 := [some (.ref (ad 236)), some (.int 4)]) rfl ?_
  refine a_goto C dX12_begins_18 (tgt := 2) rfl ?_
  refine a_iload_n C dX12_begins_2 (i := 1) rfl rfl ?_
  refine a_bipush C dX12_begins_3 (v := 29) rfl ?_
  refine a_ic_ge C dX12_begins_5 (tgt := 21) rfl (fun h => absurd h (by decide)) (fun _ => ?_)
  refine a_aload_n C dX12_begins_8 (i := 0) rfl rfl ?_
  refine a_get C fl_RX12_110 (i := 236) kd_236 (hid 236 (by decide)) (v := .ref (ad 267)) rfl dX12_begins_9 ?_
  refine a_iload_n C dX12_begins_12 (i := 1) rfl rfl ?_
  refine a_iconst C dX12_begins_13 (v := 0) rfl ?_
  refine a_iast C (i := 267) 4 kd_267 (hid 267 (by decide)) (by decide) rfl (by rw [al_267]; decide) dX12_begins_14 ?_
  refine a_iinc C dX12_begins_15 rfl (v := 5) rfl (by decide) rfl (vs1 := [some (.ref (ad 236)), some (.int 5)]) rfl ?_
  refine a_goto C dX12_begins_18 (tgt := 2) rfl ?_
  refine a_iload_n C dX12_begins_2 (i := 1) rfl rfl ?_
  refine a_bipush C dX12_begins_3 (v := 29) rfl ?_
  refine a_ic_ge C dX12_begins_5 (tgt := 21) rfl (fun h => absurd h (by decide)) (fun _ => ?_)
  refine a_aload_n C dX12_begins_8 (i := 0) rfl rfl ?_
  refine a_get C fl_RX12_110 (i := 236) kd_236 (hid 236 (by decide)) (v := .ref (ad 267)) rfl dX12_begins_9 ?_
  refine a_iload_n C dX12_begins_12 (i := 1) rfl rfl ?_
  refine a_iconst C dX12_begins_13 (v := 0) rfl ?_
  refine a_iast C (i := 267) 5 kd_267 (hid 267 (by decide)) (by decide) rfl (by rw [al_267]; decide) dX12_begins_14 ?_
  refine a_iinc C dX12_begins_15 rfl (v := 6) rfl (by decide) rfl (vs1 := [some (.ref (ad 236)), some (.int 6)]) rfl ?_
  refine a_goto C dX12_begins_18 (tgt := 2) rfl ?_
  refine a_iload_n C dX12_begins_2 (i := 1) rfl rfl ?_
  refine a_bipush C dX12_begins_3 (v := 29) rfl ?_
  refine a_ic_ge C dX12_begins_5 (tgt := 21) rfl (fun h => absurd h (by decide)) (fun _ => ?_)
  refine a_aload_n C dX12_begins_8 (i := 0) rfl rfl ?_
  refine a_get C fl_RX12_110 (i := 236) kd_236 (hid 236 (by decide)) (v := .ref (ad 267)) rfl dX12_begins_9 ?_
  refine a_iload_n C dX12_begins_12 (i := 1) rfl rfl ?_
  refine a_iconst C dX12_begins_13 (v := 0) rfl ?_
  refine a_iast C (i := 267) 6 kd_267 (hid 267 (by decide)) (by decide) rfl (by rw [al_267]; decide) dX12_begins_14 ?_
  refine a_iinc C dX12_begins_15 rfl (v := 7) rfl (by decide) rfl (vs1 := [some (.ref (ad 236)), some (.int 7)]) rfl ?_
  refine a_goto C dX12_begins_18 (tgt := 2) rfl ?_
  refine a_iload_n C dX12_begins_2 (i := 1) rfl rfl ?_
  refine a_bipush C dX12_begins_3 (v := 29) rfl ?_
  refine a_ic_ge C dX12_begins_5 (tgt := 21) rfl (fun h => absurd h (by decide)) (fun _ => ?_)
  refine a_aload_n C dX12_begins_8 (i := 0) rfl rfl ?_
  refine a_get C fl_RX12_110 (i := 236) kd_236 (hid 236 (by decide)) (v := .ref (ad 267)) rfl dX12_begins_9 ?_
  refine a_iload_n C dX12_begins_12 (i := 1) rfl rfl ?_
  refine a_iconst C dX12_begins_13 (v := 0) rfl ?_
  refine a_iast C (i := 267) 7 kd_267 (hid 267 (by decide)) (by decide) rfl (by rw [al_267]; decide) dX12_begins_14 ?_
  refine a_iinc C dX12_begins_15 rfl (v := 8) rfl (by decide) rfl (vs1 := [some (.ref (ad 236)), some (.int 8)]) rfl ?_
  refine a_goto C dX12_begins_18 (tgt := 2) rfl ?_
  refine a_iload_n C dX12_begins_2 (i := 1) rfl rfl ?_
  refine a_bipush C dX12_begins_3 (v := 29) rfl ?_
  refine a_ic_ge C dX12_begins_5 (tgt := 21) rfl (fun h => absurd h (by decide)) (fun _ => ?_)
  refine a_aload_n C dX12_begins_8 (i := 0) rfl rfl ?_
  refine a_get C fl_RX12_110 (i := 236) kd_236 (hid 236 (by decide)) (v := .ref (ad 267)) rfl dX12_begins_9 ?_
  refine a_iload_n C dX12_begins_12 (i := 1) rfl rfl ?_
  refine a_iconst C dX12_begins_13 (v := 0) rfl ?_
  refine a_iast C (i := 267) 8 kd_267 (hid 267 (by decide)) (by decide) rfl (by rw [al_267]; decide) dX12_begins_14 ?_
  refine a_iinc C dX12_begins_15 rfl (v := 9) rfl (by decide) rfl (vs1 := [some (.ref (ad 236)), some (.int 9)]) rfl ?_
  refine a_goto C dX12_begins_18 (tgt := 2) rfl ?_
  refine a_iload_n C dX12_begins_2 (i := 1) rfl rfl ?_
  refine a_bipush C dX12_begins_3 (v := 29) rfl ?_
  refine a_ic_ge C dX12_begins_5 (tgt := 21) rfl (fun h => absurd h (by decide)) (fun _ => ?_)
  refine a_aload_n C dX12_begins_8 (i := 0) rfl rfl ?_
  refine a_get C fl_RX12_110 (i := 236) kd_236 (hid 236 (by decide)) (v := .ref (ad 267)) rfl dX12_begins_9 ?_
  refine a_iload_n C dX12_begins_12 (i := 1) rfl rfl ?_
  refine a_iconst C dX12_begins_13 (v := 0) rfl ?_
  refine a_iast C (i := 267) 9 kd_267 (hid 267 (by decide)) (by decide) rfl (by rw [al_267]; decide) dX12_begins_14 ?_
  refine a_iinc C dX12_begins_15 rfl (v := 10) rfl (by decide) rfl (vs1 := [some (.ref (ad 236)), some (.int 10)]) rfl ?_
  refine a_goto C dX12_begins_18 (tgt := 2) rfl ?_
  refine a_iload_n C dX12_begins_2 (i := 1) rfl rfl ?_
  refine a_bipush C dX12_begins_3 (v := 29) rfl ?_
  refine a_ic_ge C dX12_begins_5 (tgt := 21) rfl (fun h => absurd h (by decide)) (fun _ => ?_)
  refine a_aload_n C dX12_begins_8 (i := 0) rfl rfl ?_
  refine a_get C fl_RX12_110 (i := 236) kd_236 (hid 236 (by decide)) (v := .ref (ad 267)) rfl dX12_begins_9 ?_
  refine a_iload_n C dX12_begins_12 (i := 1) rfl rfl ?_
  refine a_iconst C dX12_begins_13 (v := 0) rfl ?_
  refine a_iast C (i := 267) 10 kd_267 (hid 267 (by decide)) (by decide) rfl (by rw [al_267]; decide) dX12_begins_14 ?_
  refine a_iinc C dX12_begins_15 rfl (v := 11) rfl (by decide) rfl (vs1 := [some (.ref (ad 236)), some (.int 11)]) rfl ?_
  refine a_goto C dX12_begins_18 (tgt := 2) rfl ?_
  refine a_iload_n C dX12_begins_2 (i := 1) rfl rfl ?_
  refine a_bipush C dX12_begins_3 (v := 29) rfl ?_
  refine a_ic_ge C dX12_begins_5 (tgt := 21) rfl (fun h => absurd h (by decide)) (fun _ => ?_)
  refine a_aload_n C dX12_begins_8 (i := 0) rfl rfl ?_
  refine a_get C fl_RX12_110 (i := 236) kd_236 (hid 236 (by decide)) (v := .ref (ad 267)) rfl dX12_begins_9 ?_
  refine a_iload_n C dX12_begins_12 (i := 1) rfl rfl ?_
  refine a_iconst C dX12_begins_13 (v := 0) rfl ?_
  refine a_iast C (i := 267) 11 kd_267 (hid 267 (by decide)) (by decide) rfl (by rw [al_267]; decide) dX12_begins_14 ?_
  refine a_iinc C dX12_begins_15 rfl (v := 12) rfl (by decide) rfl (vs1 := [some (.ref (ad 236)), some (.int 12)]) rfl ?_
  refine a_goto C dX12_begins_18 (tgt := 2) rfl ?_
  refine a_iload_n C dX12_begins_2 (i := 1) rfl rfl ?_
  refine a_bipush C dX12_begins_3 (v := 29) rfl ?_
  refine a_ic_ge C dX12_begins_5 (tgt := 21) rfl (fun h => absurd h (by decide)) (fun _ => ?_)
  refine a_aload_n C dX12_begins_8 (i := 0) rfl rfl ?_
  refine a_get C fl_RX12_110 (i := 236) kd_236 (hid 236 (by decide)) (v := .ref (ad 267)) rfl dX12_begins_9 ?_
  refine a_iload_n C dX12_begins_12 (i := 1) rfl rfl ?_
  refine a_iconst C dX12_begins_13 (v := 0) rfl ?_
  refine a_iast C (i := 267) 12 kd_267 (hid 267 (by decide)) (by decide) rfl (by rw [al_267]; decide) dX12_begins_14 ?_
  refine a_iinc C dX12_begins_15 rfl (v := 13) rfl (by decide) rfl (vs1 := [some (.ref (ad 236)), some (.int 13)]) rfl ?_
  refine a_goto C dX12_begins_18 (tgt := 2) rfl ?_
  refine a_iload_n C dX12_begins_2 (i := 1) rfl rfl ?_
  refine a_bipush C dX12_begins_3 (v := 29) rfl ?_
  refine a_ic_ge C dX12_begins_5 (tgt := 21) rfl (fun h => absurd h (by decide)) (fun _ => ?_)
  refine a_aload_n C dX12_begins_8 (i := 0) rfl rfl ?_
  refine a_get C fl_RX12_110 (i := 236) kd_236 (hid 236 (by decide)) (v := .ref (ad 267)) rfl dX12_begins_9 ?_
  refine a_iload_n C dX12_begins_12 (i := 1) rfl rfl ?_
  refine a_iconst C dX12_begins_13 (v := 0) rfl ?_
  refine a_iast C (i := 267) 13 kd_267 (hid 267 (by decide)) (by decide) rfl (by rw [al_267]; decide) dX12_begins_14 ?_
  refine a_iinc C dX12_begins_15 rfl (v := 14) rfl (by decide) rfl (vs1 := [some (.ref (ad 236)), some (.int 14)]) rfl ?_
  refine a_goto C dX12_begins_18 (tgt := 2) rfl ?_
  refine a_iload_n C dX12_begins_2 (i := 1) rfl rfl ?_
  refine a_bipush C dX12_begins_3 (v := 29) rfl ?_
  refine a_ic_ge C dX12_begins_5 (tgt := 21) rfl (fun h => absurd h (by decide)) (fun _ => ?_)
  refine a_aload_n C dX12_begins_8 (i := 0) rfl rfl ?_
  refine a_get C fl_RX12_110 (i := 236) kd_236 (hid 236 (by decide)) (v := .ref (ad 267)) rfl dX12_begins_9 ?_
  refine a_iload_n C dX12_begins_12 (i := 1) rfl rfl ?_
  refine a_iconst C dX12_begins_13 (v := 0) rfl ?_
  refine a_iast C (i := 267) 14 kd_267 (hid 267 (by decide)) (by decide) rfl (by rw [al_267]; decide) dX12_begins_14 ?_
  refine a_iinc C dX12_begins_15 rfl (v := 15) rfl (by decide) rfl (vs1 := [some (.ref (ad 236)), some (.int 15)]) rfl ?_
  refine a_goto C dX12_begins_18 (tgt := 2) rfl ?_
  refine a_iload_n C dX12_begins_2 (i := 1) rfl rfl ?_
  refine a_bipush C dX12_begins_3 (v := 29) rfl ?_
  refine a_ic_ge C dX12_begins_5 (tgt := 21) rfl (fun h => absurd h (by decide)) (fun _ => ?_)
  refine a_aload_n C dX12_begins_8 (i := 0) rfl rfl ?_
  refine a_get C fl_RX12_110 (i := 236) kd_236 (hid 236 (by decide)) (v := .ref (ad 267)) rfl dX12_begins_9 ?_
  refine a_iload_n C dX12_begins_12 (i := 1) rfl rfl ?_
  refine a_iconst C dX12_begins_13 (v := 0) rfl ?_
  refine a_iast C (i := 267) 15 kd_267 (hid 267 (by decide)) (by decide) rfl (by rw [al_267]; decide) dX12_begins_14 ?_
  refine a_iinc C dX12_begins_15 rfl (v := 16) rfl (by decide) rfl (vs1 := [some (.ref (ad 236)), some (.int 16)]) rfl ?_
  refine a_goto C dX12_begins_18 (tgt := 2) rfl ?_
  refine a_iload_n C dX12_begins_2 (i := 1) rfl rfl ?_
  refine a_bipush C dX12_begins_3 (v := 29) rfl ?_
  refine a_ic_ge C dX12_begins_5 (tgt := 21) rfl (fun h => absurd h (by decide)) (fun _ => ?_)
  refine a_aload_n C dX12_begins_8 (i := 0) rfl rfl ?_
  refine a_get C fl_RX12_110 (i := 236) kd_236 (hid 236 (by decide)) (v := .ref (ad 267)) rfl dX12_begins_9 ?_
  refine a_iload_n C dX12_begins_12 (i := 1) rfl rfl ?_
  refine a_iconst C dX12_begins_13 (v := 0) rfl ?_
  refine a_iast C (i := 267) 16 kd_267 (hid 267 (by decide)) (by decide) rfl (by rw [al_267]; decide) dX12_begins_14 ?_
  refine a_iinc C dX12_begins_15 rfl (v := 17) rfl (by decide) rfl (vs1 := [some (.ref (ad 236)), some (.int 17)]) rfl ?_
  refine a_goto C dX12_begins_18 (tgt := 2) rfl ?_
  refine a_iload_n C dX12_begins_2 (i := 1) rfl rfl ?_
  refine a_bipush C dX12_begins_3 (v := 29) rfl ?_
  refine a_ic_ge C dX12_begins_5 (tgt := 21) rfl (fun h => absurd h (by decide)) (fun _ => ?_)
  refine a_aload_n C dX12_begins_8 (i := 0) rfl rfl ?_
  refine a_get C fl_RX12_110 (i := 236) kd_236 (hid 236 (by decide)) (v := .ref (ad 267)) rfl dX12_begins_9 ?_
  refine a_iload_n C dX12_begins_12 (i := 1) rfl rfl ?_
  refine a_iconst C dX12_begins_13 (v := 0) rfl ?_
  refine a_iast C (i := 267) 17 kd_267 (hid 267 (by decide)) (by decide) rfl (by rw [al_267]; decide) dX12_begins_14 ?_
  refine a_iinc C dX12_begins_15 rfl (v := 18) rfl (by decide) rfl (vs1 := [some (.ref (ad 236)), some (.int 18)]) rfl ?_
  refine a_goto C dX12_begins_18 (tgt := 2) rfl ?_
  refine a_iload_n C dX12_begins_2 (i := 1) rfl rfl ?_
  refine a_bipush C dX12_begins_3 (v := 29) rfl ?_
  refine a_ic_ge C dX12_begins_5 (tgt := 21) rfl (fun h => absurd h (by decide)) (fun _ => ?_)
  refine a_aload_n C dX12_begins_8 (i := 0) rfl rfl ?_
  refine a_get C fl_RX12_110 (i := 236) kd_236 (hid 236 (by decide)) (v := .ref (ad 267)) rfl dX12_begins_9 ?_
  refine a_iload_n C dX12_begins_12 (i := 1) rfl rfl ?_
  refine a_iconst C dX12_begins_13 (v := 0) rfl ?_
  refine a_iast C (i := 267) 18 kd_267 (hid 267 (by decide)) (by decide) rfl (by rw [al_267]; decide) dX12_begins_14 ?_
  refine a_iinc C dX12_begins_15 rfl (v := 19) rfl (by decide) rfl (vs1 := [some (.ref (ad 236)), some (.int 19)]) rfl ?_
  refine a_goto C dX12_begins_18 (tgt := 2) rfl ?_
  refine a_iload_n C dX12_begins_2 (i := 1) rfl rfl ?_
  refine a_bipush C dX12_begins_3 (v := 29) rfl ?_
  refine a_ic_ge C dX12_begins_5 (tgt := 21) rfl (fun h => absurd h (by decide)) (fun _ => ?_)
  refine a_aload_n C dX12_begins_8 (i := 0) rfl rfl ?_
  refine a_get C fl_RX12_110 (i := 236) kd_236 (hid 236 (by decide)) (v := .ref (ad 267)) rfl dX12_begins_9 ?_
  refine a_iload_n C dX12_begins_12 (i := 1) rfl rfl ?_
  refine a_iconst C dX12_begins_13 (v := 0) rfl ?_
  refine a_iast C (i := 267) 19 kd_267 (hid 267 (by decide)) (by decide) rfl (by rw [al_267]; decide) dX12_begins_14 ?_
  refine a_iinc C dX12_begins_15 rfl (v := 20) rfl (by decide) rfl (vs1 := [some (.ref (ad 236)), some (.int 20)]) rfl ?_
  refine a_goto C dX12_begins_18 (tgt := 2) rfl ?_
  refine a_iload_n C dX12_begins_2 (i := 1) rfl rfl ?_
  refine a_bipush C dX12_begins_3 (v := 29) rfl ?_
  refine a_ic_ge C dX12_begins_5 (tgt := 21) rfl (fun h => absurd h (by decide)) (fun _ => ?_)
  refine a_aload_n C dX12_begins_8 (i := 0) rfl rfl ?_
  refine a_get C fl_RX12_110 (i := 236) kd_236 (hid 236 (by decide)) (v := .ref (ad 267)) rfl dX12_begins_9 ?_
  refine a_iload_n C dX12_begins_12 (i := 1) rfl rfl ?_
  refine a_iconst C dX12_begins_13 (v := 0) rfl ?_
  refine a_iast C (i := 267) 20 kd_267 (hid 267 (by decide)) (by decide) rfl (by rw [al_267]; decide) dX12_begins_14 ?_
  refine a_iinc C dX12_begins_15 rfl (v := 21) rfl (by decide) rfl (vs1 := [some (.ref (ad 236)), some (.int 21)]) rfl ?_
  refine a_goto C dX12_begins_18 (tgt := 2) rfl ?_
  refine a_iload_n C dX12_begins_2 (i := 1) rfl rfl ?_
  refine a_bipush C dX12_begins_3 (v := 29) rfl ?_
  refine a_ic_ge C dX12_begins_5 (tgt := 21) rfl (fun h => absurd h (by decide)) (fun _ => ?_)
  refine a_aload_n C dX12_begins_8 (i := 0) rfl rfl ?_
  refine a_get C fl_RX12_110 (i := 236) kd_236 (hid 236 (by decide)) (v := .ref (ad 267)) rfl dX12_begins_9 ?_
  refine a_iload_n C dX12_begins_12 (i := 1) rfl rfl ?_
  refine a_iconst C dX12_begins_13 (v := 0) rfl ?_
  refine a_iast C (i := 267) 21 kd_267 (hid 267 (by decide)) (by decide) rfl (by rw [al_267]; decide) dX12_begins_14 ?_
  refine a_iinc C dX12_begins_15 rfl (v := 22) rfl (by decide) rfl (vs1 := [some (.ref (ad 236)), some (.int 22)]) rfl ?_
  refine a_goto C dX12_begins_18 (tgt := 2) rfl ?_
  refine a_iload_n C dX12_begins_2 (i := 1) rfl rfl ?_
  refine a_bipush C dX12_begins_3 (v := 29) rfl ?_
  refine a_ic_ge C dX12_begins_5 (tgt := 21) rfl (fun h => absurd h (by decide)) (fun _ => ?_)
  refine a_aload_n C dX12_begins_8 (i := 0) rfl rfl ?_
  refine a_get C fl_RX12_110 (i := 236) kd_236 (hid 236 (by decide)) (v := .ref (ad 267)) rfl dX12_begins_9 ?_
  refine a_iload_n C dX12_begins_12 (i := 1) rfl rfl ?_
  refine a_iconst C dX12_begins_13 (v := 0) rfl ?_
  refine a_iast C (i := 267) 22 kd_267 (hid 267 (by decide)) (by decide) rfl (by rw [al_267]; decide) dX12_begins_14 ?_
  refine a_iinc C dX12_begins_15 rfl (v := 23) rfl (by decide) rfl (vs1 := [some (.ref (ad 236)), some (.int 23)]) rfl ?_
  refine a_goto C dX12_begins_18 (tgt := 2) rfl ?_
  refine a_iload_n C dX12_begins_2 (i := 1) rfl rfl ?_
  refine a_bipush C dX12_begins_3 (v := 29) rfl ?_
  refine a_ic_ge C dX12_begins_5 (tgt := 21) rfl (fun h => absurd h (by decide)) (fun _ => ?_)
  refine a_aload_n C dX12_begins_8 (i := 0) rfl rfl ?_
  refine a_get C fl_RX12_110 (i := 236) kd_236 (hid 236 (by decide)) (v := .ref (ad 267)) rfl dX12_begins_9 ?_
  refine a_iload_n C dX12_begins_12 (i := 1) rfl rfl ?_
  refine a_iconst C dX12_begins_13 (v := 0) rfl ?_
  refine a_iast C (i := 267) 23 kd_267 (hid 267 (by decide)) (by decide) rfl (by rw [al_267]; decide) dX12_begins_14 ?_
  refine a_iinc C dX12_begins_15 rfl (v := 24) rfl (by decide) rfl (vs1 := [some (.ref (ad 236)), some (.int 24)]) rfl ?_
  refine a_goto C dX12_begins_18 (tgt := 2) rfl ?_
  refine a_iload_n C dX12_begins_2 (i := 1) rfl rfl ?_
  refine a_bipush C dX12_begins_3 (v := 29) rfl ?_
  refine a_ic_ge C dX12_begins_5 (tgt := 21) rfl (fun h => absurd h (by decide)) (fun _ => ?_)
  refine a_aload_n C dX12_begins_8 (i := 0) rfl rfl ?_
  refine a_get C fl_RX12_110 (i := 236) kd_236 (hid 236 (by decide)) (v := .ref (ad 267)) rfl dX12_begins_9 ?_
  refine a_iload_n C dX12_begins_12 (i := 1) rfl rfl ?_
  refine a_iconst C dX12_begins_13 (v := 0) rfl ?_
  refine a_iast C (i := 267) 24 kd_267 (hid 267 (by decide)) (by decide) rfl (by rw [al_267]; decide) dX12_begins_14 ?_
  refine a_iinc C dX12_begins_15 rfl (v := 25) rfl (by decide) rfl (vs1 := [some (.ref (ad 236)), some (.int 25)]) rfl ?_
  refine a_goto C dX12_begins_18 (tgt := 2) rfl ?_
  refine a_iload_n C dX12_begins_2 (i := 1) rfl rfl ?_
  refine a_bipush C dX12_begins_3 (v := 29) rfl ?_
  refine a_ic_ge C dX12_begins_5 (tgt := 21) rfl (fun h => absurd h (by decide)) (fun _ => ?_)
  refine a_aload_n C dX12_begins_8 (i := 0) rfl rfl ?_
  refine a_get C fl_RX12_110 (i := 236) kd_236 (hid 236 (by decide)) (v := .ref (ad 267)) rfl dX12_begins_9 ?_
  refine a_iload_n C dX12_begins_12 (i := 1) rfl rfl ?_
  refine a_iconst C dX12_begins_13 (v := 0) rfl ?_
  refine a_iast C (i := 267) 25 kd_267 (hid 267 (by decide)) (by decide) rfl (by rw [al_267]; decide) dX12_begins_14 ?_
  refine a_iinc C dX12_begins_15 rfl (v := 26) rfl (by decide) rfl (vs1 := [some (.ref (ad 236)), some (.int 26)]) rfl ?_
  refine a_goto C dX12_begins_18 (tgt := 2) rfl ?_
  refine a_iload_n C dX12_begins_2 (i := 1) rfl rfl ?_
  refine a_bipush C dX12_begins_3 (v := 29) rfl ?_
  refine a_ic_ge C dX12_begins_5 (tgt := 21) rfl (fun h => absurd h (by decide)) (fun _ => ?_)
  refine a_aload_n C dX12_begins_8 (i := 0) rfl rfl ?_
  refine a_get C fl_RX12_110 (i := 236) kd_236 (hid 236 (by decide)) (v := .ref (ad 267)) rfl dX12_begins_9 ?_
  refine a_iload_n C dX12_begins_12 (i := 1) rfl rfl ?_
  refine a_iconst C dX12_begins_13 (v := 0) rfl ?_
  refine a_iast C (i := 267) 26 kd_267 (hid 267 (by decide)) (by decide) rfl (by rw [al_267]; decide) dX12_begins_14 ?_
  refine a_iinc C dX12_begins_15 rfl (v := 27) rfl (by decide) rfl (vs1 := [some (.ref (ad 236)), some (.int 27)]) rfl ?_
  refine a_goto C dX12_begins_18 (tgt := 2) rfl ?_
  refine a_iload_n C dX12_begins_2 (i := 1) rfl rfl ?_
  refine a_bipush C dX12_begins_3 (v := 29) rfl ?_
  refine a_ic_ge C dX12_begins_5 (tgt := 21) rfl (fun h => absurd h (by decide)) (fun _ => ?_)
  refine a_aload_n C dX12_begins_8 (i := 0) rfl rfl ?_
  refine a_get C fl_RX12_110 (i := 236) kd_236 (hid 236 (by decide)) (v := .ref (ad 267)) rfl dX12_begins_9 ?_
  refine a_iload_n C dX12_begins_12 (i := 1) rfl rfl ?_
  refine a_iconst C dX12_begins_13 (v := 0) rfl ?_
  refine a_iast C (i := 267) 27 kd_267 (hid 267 (by decide)) (by decide) rfl (by rw [al_267]; decide) dX12_begins_14 ?_
  refine a_iinc C dX12_begins_15 rfl (v := 28) rfl (by decide) rfl (vs1 := [some (.ref (ad 236)), some (.int 28)]) rfl ?_
  refine a_goto C dX12_begins_18 (tgt := 2) rfl ?_
  refine a_iload_n C dX12_begins_2 (i := 1) rfl rfl ?_
  refine a_bipush C dX12_begins_3 (v := 29) rfl ?_
  refine a_ic_ge C dX12_begins_5 (tgt := 21) rfl (fun h => absurd h (by decide)) (fun _ => ?_)
  refine a_aload_n C dX12_begins_8 (i := 0) rfl rfl ?_
  refine a_get C fl_RX12_110 (i := 236) kd_236 (hid 236 (by decide)) (v := .ref (ad 267)) rfl dX12_begins_9 ?_
  refine a_iload_n C dX12_begins_12 (i := 1) rfl rfl ?_
  refine a_iconst C dX12_begins_13 (v := 0) rfl ?_
  refine a_iast C (i := 267) 28 kd_267 (hid 267 (by decide)) (by decide) rfl (by rw [al_267]; decide) dX12_begins_14 ?_
  refine a_iinc C dX12_begins_15 rfl (v := 29) rfl (by decide) rfl (vs1 := [some (.ref (ad 236)), some (.int 29)]) rfl ?_
  refine a_goto C dX12_begins_18 (tgt := 2) rfl ?_
  refine a_iload_n C dX12_begins_2 (i := 1) rfl rfl ?_
  refine a_bipush C dX12_begins_3 (v := 29) rfl ?_
  refine a_ic_ge C dX12_begins_5 (tgt := 21) rfl (fun _ => ?_) (fun h => absurd h (by decide))
  refine a_iconst C dX12_begins_21 (v := 0) rfl ?_
  refine a_istore_n C dX12_begins_22 (i := 1) rfl (by decide) rfl (vs1 := [some (.ref (ad 236)), some (.int 0)]) rfl ?_
  refine a_iload_n C dX12_begins_23 (i := 1) rfl rfl ?_
  refine a_aload_n C dX12_begins_24 (i := 0) rfl rfl ?_
  refine a_get C fl_RX12_43 (i := 236) kd_236 (hid 236 (by decide)) (v := .ref (ad 245)) rfl dX12_begins_25 ?_
  refine a_aload_n C dX12_begins_28 (i := 0) rfl rfl ?_
  refine a_get C fl_RX12_221 (i := 236) kd_236 (hid 236 (by decide)) (v := .int 1) (congrArg (fun z => some (Value.int z)) h_236_18) dX12_begins_29 ?_
  refine a_iald C (i := 245) 1 kd_245 (hid 245 (by decide)) (by decide) rfl (by rw [al_245]; decide) dX12_begins_32 (v := 0) h_245_1 ?_
  refine a_ic_ge C dX12_begins_33 (tgt := 65) rfl (fun _ => ?_) (fun h => absurd h (by decide))
  refine a_aload_n C dX12_begins_65 (i := 0) rfl rfl ?_
  refine a_get C fl_RX12_110 (i := 236) kd_236 (hid 236 (by decide)) (v := .ref (ad 267)) rfl dX12_begins_66 ?_
  refine a_bipush C dX12_begins_69 (v := 26) rfl ?_
  refine a_aload_n C dX12_begins_71 (i := 0) rfl rfl ?_
  refine a_get C fl_RX12_55 (i := 236) kd_236 (hid 236 (by decide)) (v := .ref (ad 249)) rfl dX12_begins_72 ?_
  refine a_aload_n C dX12_begins_75 (i := 0) rfl rfl ?_
  refine a_get C fl_RX12_221 (i := 236) kd_236 (hid 236 (by decide)) (v := .int 1) (congrArg (fun z => some (Value.int z)) h_236_18) dX12_begins_76 ?_
  refine a_iald C (i := 249) 1 kd_249 (hid 249 (by decide)) (by decide) rfl (by rw [al_249]; decide) dX12_begins_79 (v := 0) h_249_1 ?_
  refine a_if_le C dX12_begins_80 (tgt := 87) rfl (fun _ => ?_) (fun h => absurd h (by decide))
  refine a_bipush C dX12_begins_87 (v := (-2)) rfl ?_
  refine a_iast C (i := 267) 26 kd_267 (hid 267 (by decide)) (by decide) rfl (by rw [al_267]; decide) dX12_begins_89 ?_
  refine a_aload_n C dX12_begins_90 (i := 0) rfl rfl ?_
  refine a_get C fl_RX12_110 (i := 236) kd_236 (hid 236 (by decide)) (v := .ref (ad 267)) rfl dX12_begins_91 ?_
  refine a_bipush C dX12_begins_94 (v := 28) rfl ?_
  refine a_iconst C dX12_begins_96 (v := (-1)) rfl ?_
  refine a_iast C (i := 267) 28 kd_267 (hid 267 (by decide)) (by decide) rfl (by rw [al_267]; decide) dX12_begins_97 ?_
  refine a_aload_n C dX12_begins_98 (i := 0) rfl rfl ?_
  refine a_aload_n C dX12_begins_99 (i := 0) rfl rfl ?_
  refine a_get C fl_RX12_67 (i := 236) kd_236 (hid 236 (by decide)) (v := .ref (ad 253)) rfl dX12_begins_100 ?_
  refine a_aload_n C dX12_begins_103 (i := 0) rfl rfl ?_
  refine a_get C fl_RX12_221 (i := 236) kd_236 (hid 236 (by decide)) (v := .int 1) (congrArg (fun z => some (Value.int z)) h_236_18) dX12_begins_104 ?_
  refine a_iald C (i := 253) 1 kd_253 (hid 253 (by decide)) (by decide) rfl (by rw [al_253]; decide) dX12_begins_107 (v := 0) h_253_1 ?_
  refine a_put C fp_RX12_305 (i := 236) kd_236 (hid 236 (by decide)) rfl rfl dX12_begins_108 ?_
  refine a_aload_n C dX12_begins_111 (i := 0) rfl rfl ?_
  refine a_iconst C dX12_begins_112 (v := 0) rfl ?_
  refine a_put C fp_RX12_308 (i := 236) kd_236 (hid 236 (by decide)) rfl rfl dX12_begins_113 ?_
  exact a_vret Rt dX12_begins_116 (⟨(only.I (only.I (only.I (only.I (only.I (only.I (only.I (only.I (only.I (only.I (only.I (only.I (only.I (only.I (only.I (only.I (only.I (only.I (only.I (only.I (only.I (only.I (only.I (only.I (only.I (only.I (only.I (only.I (only.I (only.I (only.I (only.I (only.I only.rf (by decide)) (by decide)) (by decide)) (by decide)) (by decide)) (by decide)) (by decide)) (by decide)) (by decide)) (by decide)) (by decide)) (by decide)) (by decide)) (by decide)) (by decide)) (by decide)) (by decide)) (by decide)) (by decide)) (by decide)) (by decide)) (by decide)) (by decide)) (by decide)) (by decide)) (by decide)) (by decide)) (by decide)) (by decide)) (by decide)) (by decide)) (by decide)) (by decide)), rfl⟩)
theorem dX12_read_0 : decode cX12_read 0 = .ok (.aload_n 0, 1) := by decide +kernel
theorem dX12_read_1 : decode cX12_read 1 = .ok (.aload_n 0, 1) := by decide +kernel
theorem dX12_read_2 : decode cX12_read 2 = .ok (.getfield 154, 3) := by decide +kernel
theorem dX12_read_5 : decode cX12_read 5 = .ok (.putfield 160, 3) := by decide +kernel
theorem dX12_read_8 : decode cX12_read 8 = .ok (.iconst 0, 1) := by decide +kernel
theorem dX12_read_9 : decode cX12_read 9 = .ok (.istore_n 1, 1) := by decide +kernel
theorem dX12_read_10 : decode cX12_read 10 = .ok (.iload_n 1, 1) := by decide +kernel
theorem dX12_read_11 : decode cX12_read 11 = .ok (.aload_n 0, 1) := by decide +kernel
theorem dX12_read_12 : decode cX12_read 12 = .ok (.getfield 160, 3) := by decide +kernel
theorem dX12_read_15 : decode cX12_read 15 = .ok (.if_icmp .ge 21, 3) := by decide +kernel
theorem dX12_read_36 : decode cX12_read 36 = .ok (.aload_n 0, 1) := by decide +kernel
theorem dX12_read_37 : decode cX12_read 37 = .ok (.iconst 0, 1) := by decide +kernel
theorem dX12_read_38 : decode cX12_read 38 = .ok (.putfield 154, 3) := by decide +kernel
theorem dX12_read_41 : decode cX12_read 41 = .ok (.aload_n 0, 1) := by decide +kernel
theorem dX12_read_42 : decode cX12_read 42 = .ok (.invokevirtual 215, 3) := by decide +kernel
theorem dX12_read_45 : decode cX12_read 45 = .ok (.aload_n 0, 1) := by decide +kernel
theorem dX12_read_46 : decode cX12_read 46 = .ok (.iconst 0, 1) := by decide +kernel
theorem dX12_read_47 : decode cX12_read 47 = .ok (.putfield 194, 3) := by decide +kernel
theorem dX12_read_50 : decode cX12_read 50 = .ok (.aload_n 0, 1) := by decide +kernel
theorem dX12_read_51 : decode cX12_read 51 = .ok (.iconst 0, 1) := by decide +kernel
theorem dX12_read_52 : decode cX12_read 52 = .ok (.putfield 218, 3) := by decide +kernel
theorem dX12_read_55 : decode cX12_read 55 = .ok (.aload_n 0, 1) := by decide +kernel
theorem dX12_read_56 : decode cX12_read 56 = .ok (.iconst 0, 1) := by decide +kernel
theorem dX12_read_57 : decode cX12_read 57 = .ok (.putfield 191, 3) := by decide +kernel
theorem dX12_read_60 : decode cX12_read 60 = .ok (.aload_n 0, 1) := by decide +kernel
theorem dX12_read_61 : decode cX12_read 61 = .ok (.iconst 0, 1) := by decide +kernel
theorem dX12_read_62 : decode cX12_read 62 = .ok (.putfield 200, 3) := by decide +kernel
theorem dX12_read_65 : decode cX12_read 65 = .ok (.aload_n 0, 1) := by decide +kernel
theorem dX12_read_66 : decode cX12_read 66 = .ok (.iconst 1, 1) := by decide +kernel
theorem dX12_read_67 : decode cX12_read 67 = .ok (.aload_n 0, 1) := by decide +kernel
theorem dX12_read_68 : decode cX12_read 68 = .ok (.getfield 221, 3) := by decide +kernel
theorem dX12_read_71 : decode cX12_read 71 = .ok (.isub, 1) := by decide +kernel
theorem dX12_read_72 : decode cX12_read 72 = .ok (.putfield 224, 3) := by decide +kernel
theorem dX12_read_75 : decode cX12_read 75 = .ok (.aload_n 0, 1) := by decide +kernel
theorem dX12_read_76 : decode cX12_read 76 = .ok (.iconst 0, 1) := by decide +kernel
theorem dX12_read_77 : decode cX12_read 77 = .ok (.putfield 227, 3) := by decide +kernel
theorem dX12_read_80 : decode cX12_read 80 = .ok (.aload_n 0, 1) := by decide +kernel
theorem dX12_read_81 : decode cX12_read 81 = .ok (.aload_n 0, 1) := by decide +kernel
theorem dX12_read_82 : decode cX12_read 82 = .ok (.getfield 224, 3) := by decide +kernel
theorem dX12_read_85 : decode cX12_read 85 = .ok (.invokevirtual 140, 3) := by decide +kernel
theorem dX12_read_88 : decode cX12_read 88 = .ok (.aload_n 0, 1) := by decide +kernel
theorem dX12_read_89 : decode cX12_read 89 = .ok (.sipush 130, 3) := by decide +kernel
theorem dX12_read_92 : decode cX12_read 92 = .ok (.aload_n 0, 1) := by decide +kernel
theorem dX12_read_93 : decode cX12_read 93 = .ok (.getfield 224, 3) := by decide +kernel
theorem dX12_read_96 : decode cX12_read 96 = .ok (.imul, 1) := by decide +kernel
theorem dX12_read_97 : decode cX12_read 97 = .ok (.putfield 230, 3) := by decide +kernel
theorem dX12_read_100 : decode cX12_read 100 = .ok (.aload_n 0, 1) := by decide +kernel
theorem dX12_read_101 : decode cX12_read 101 = .ok (.sipush 420, 3) := by decide +kernel
theorem dX12_read_104 : decode cX12_read 104 = .ok (.aload_n 0, 1) := by decide +kernel
theorem dX12_read_105 : decode cX12_read 105 = .ok (.getfield 224, 3) := by decide +kernel
theorem dX12_read_108 : decode cX12_read 108 = .ok (.imul, 1) := by decide +kernel
theorem dX12_read_109 : decode cX12_read 109 = .ok (.putfield 233, 3) := by decide +kernel
theorem dX12_read_112 : decode cX12_read 112 = .ok (.aload_n 0, 1) := by decide +kernel
theorem dX12_read_113 : decode cX12_read 113 = .ok (.getfield 191, 3) := by decide +kernel
theorem dX12_read_116 : decode cX12_read 116 = .ok (.ifCond .ne 18, 3) := by decide +kernel
theorem dX12_read_119 : decode cX12_read 119 = .ok (.aload_n 0, 1) := by decide +kernel
theorem dX12_read_120 : decode cX12_read 120 = .ok (.iconst 0, 1) := by decide +kernel
theorem dX12_read_121 : decode cX12_read 121 = .ok (.invokevirtual 209, 3) := by decide +kernel
theorem dX12_read_124 : decode cX12_read 124 = .ok (.ifCond .ne 10, 3) := by decide +kernel
theorem dX12_read_134 : decode cX12_read 134 = .ok (.aload_n 0, 1) := by decide +kernel
theorem dX12_read_135 : decode cX12_read 135 = .ok (.aload_n 0, 1) := by decide +kernel
theorem dX12_read_136 : decode cX12_read 136 = .ok (.getfield 191, 3) := by decide +kernel
theorem dX12_read_139 : decode cX12_read 139 = .ok (.ifCond .le 10, 3) := by decide +kernel
theorem dX12_read_149 : decode cX12_read 149 = .ok (.aload_n 0, 1) := by decide +kernel
theorem dX12_read_150 : decode cX12_read 150 = .ok (.getfield 200, 3) := by decide +kernel
theorem dX12_read_153 : decode cX12_read 153 = .ok (.ifCond .le 10, 3) := by decide +kernel
theorem dX12_read_163 : decode cX12_read 163 = .ok (.iconst (-1), 1) := by decide +kernel
theorem dX12_read_164 : decode cX12_read 164 = .ok (.putfield 37, 3) := by decide +kernel
theorem dX12_read_167 : decode cX12_read 167 = .ok (.aload_n 0, 1) := by decide +kernel
theorem dX12_read_168 : decode cX12_read 168 = .ok (.getfield 191, 3) := by decide +kernel
theorem dX12_read_171 : decode cX12_read 171 = .ok (.ifCond .le 8, 3) := by decide +kernel
theorem dX12_read_179 : decode cX12_read 179 = .ok (.aload_n 0, 1) := by decide +kernel
theorem dX12_read_180 : decode cX12_read 180 = .ok (.getfield 200, 3) := by decide +kernel
theorem dX12_read_183 : decode cX12_read 183 = .ok (.ifCond .le 8, 3) := by decide +kernel
theorem dX12_read_191 : decode cX12_read 191 = .ok (.aload_n 0, 1) := by decide +kernel
theorem dX12_read_192 : decode cX12_read 192 = .ok (.aload_n 0, 1) := by decide +kernel
theorem dX12_read_193 : decode cX12_read 193 = .ok (.getfield 224, 3) := by decide +kernel
theorem dX12_read_196 : decode cX12_read 196 = .ok (.putfield 221, 3) := by decide +kernel
theorem dX12_read_199 : decode cX12_read 199 = .ok (.aload_n 0, 1) := by decide +kernel
theorem dX12_read_200 : decode cX12_read 200 = .ok (.invokevirtual 148, 3) := by decide +kernel
theorem dX12_read_203 : decode cX12_read 203 = .ok (.aload_n 0, 1) := by decide +kernel
theorem dX12_read_204 : decode cX12_read 204 = .ok (.invokevirtual 151, 3) := by decide +kernel
theorem dX12_read_207 : decode cX12_read 207 = .ok (.aload_n 0, 1) := by decide +kernel
theorem dX12_read_208 : decode cX12_read 208 = .ok (.iconst 0, 1) := by decide +kernel
theorem dX12_read_209 : decode cX12_read 209 = .ok (.putfield 239, 3) := by decide +kernel
theorem dX12_read_212 : decode cX12_read 212 = .ok (.aload_n 0, 1) := by decide +kernel
theorem dX12_read_213 : decode cX12_read 213 = .ok (.iconst 0, 1) := by decide +kernel
theorem dX12_read_214 : decode cX12_read 214 = .ok (.putfield 242, 3) := by decide +kernel
theorem dX12_read_217 : decode cX12_read 217 = .ok (.iconst 0, 1) := by decide +kernel
theorem dX12_read_218 : decode cX12_read 218 = .ok (.istore_n 1, 1) := by decide +kernel
theorem dX12_read_219 : decode cX12_read 219 = .ok (.iload_n 1, 1) := by decide +kernel
theorem dX12_read_220 : decode cX12_read 220 = .ok (.iconst 3, 1) := by decide +kernel
theorem dX12_read_221 : decode cX12_read 221 = .ok (.if_icmp .ge 16, 3) := by decide +kernel
theorem dX12_read_224 : decode cX12_read 224 = .ok (.aload_n 0, 1) := by decide +kernel
theorem dX12_read_225 : decode cX12_read 225 = .ok (.getfield 134, 3) := by decide +kernel
theorem dX12_read_228 : decode cX12_read 228 = .ok (.iload_n 1, 1) := by decide +kernel
theorem dX12_read_229 : decode cX12_read 229 = .ok (.iconst 0, 1) := by decide +kernel
theorem dX12_read_230 : decode cX12_read 230 = .ok (.bastore, 1) := by decide +kernel
theorem dX12_read_231 : decode cX12_read 231 = .ok (.iinc 1 1, 3) := by decide +kernel
theorem dX12_read_234 : decode cX12_read 234 = .ok (.goto (-15), 3) := by decide +kernel
theorem dX12_read_237 : decode cX12_read 237 = .ok (.iconst 0, 1) := by decide +kernel
theorem dX12_read_238 : decode cX12_read 238 = .ok (.ireturn, 1) := by decide +kernel
set_option maxHeartbeats 4000000 in
set_option maxRecDepth 100000 in
theorem q_read {l : Launch} {D : va_G} {ids : List Nat} {ad : Nat → Nat} {ca : Nat → ClassId} {σ : HS} (hid : ∀ i, i < 277 → i ∈ ids) (h_236_2 : σ.1 236 2 = 0) (h_236_18 : σ.1 236 18 = 0) : Ki l D ids ad ca yX12_read cX12_read 2 .int 2 52 [.ref (ad 236)] σ (fun r _ => r = 0) := by
  refine Ki.of (by decide) (Nat.le_of_ble_eq_true rfl) 1 (fun Γ C Rt => ?_)
  show AW ids ad ca Γ 0 [some (.ref (ad 236)), none] [] σ
  refine a_aload_n C dX12_read_0 (i := 0) rfl rfl ?_
  refine a_aload_n C dX12_read_1 (i := 0) rfl rfl ?_
  refine a_get C fl_RX12_154 (i := 236) kd_236 (hid 236 (by decide)) (v := .int 0) (congrArg (fun z => some (Value.int z)) h_236_2) dX12_read_2 ?_
  refine a_put C fp_RX12_160 (i := 236) kd_236 (hid 236 (by decide)) rfl rfl dX12_read_5 ?_
  refine a_iconst C dX12_read_8 (v := 0) rfl ?_
  refine a_istore_n C dX12_read_9 (i := 1) rfl (by decide) rfl (vs1 := [some (.ref (ad 236)), some (.int 0)]) rfl ?_
  refine a_iload_n C dX12_read_10 (i := 1) rfl rfl ?_
  refine a_aload_n C dX12_read_11 (i := 0) rfl rfl ?_
  refine a_get C fl_RX12_160 (i := 236) kd_236 (hid 236 (by decide)) (v := .int 0) rfl dX12_read_12 ?_
  refine a_ic_ge C dX12_read_15 (tgt := 36) rfl (fun _ => ?_) (fun h => absurd h (by decide))
  refine a_aload_n C dX12_read_36 (i := 0) rfl rfl ?_
  refine a_iconst C dX12_read_37 (v := 0) rfl ?_
  refine a_put C fp_RX12_154 (i := 236) kd_236 (hid 236 (by decide)) rfl rfl dX12_read_38 ?_
  refine a_aload_n C dX12_read_41 (i := 0) rfl rfl ?_
  refine a_callVv C (i := 236) kd_236 (hid 236 (by decide)) ⟨_, _, rfl⟩ (by decide) (m_cut hid rfl) mi_X12_cut ml_RX12_215 rfl rfl (Nat.le_of_ble_eq_true rfl) (Nat.le_of_ble_eq_true rfl) (Nat.le_of_ble_eq_true rfl) dX12_read_42 (fun σ2 q3 => ?_)
  subst q3
  refine a_aload_n C dX12_read_45 (i := 0) rfl rfl ?_
  refine a_iconst C dX12_read_46 (v := 0) rfl ?_
  refine a_put C fp_RX12_194 (i := 236) kd_236 (hid 236 (by decide)) rfl rfl dX12_read_47 ?_
  refine a_aload_n C dX12_read_50 (i := 0) rfl rfl ?_
  refine a_iconst C dX12_read_51 (v := 0) rfl ?_
  refine a_put C fp_RX12_218 (i := 236) kd_236 (hid 236 (by decide)) rfl rfl dX12_read_52 ?_
  refine a_aload_n C dX12_read_55 (i := 0) rfl rfl ?_
  refine a_iconst C dX12_read_56 (v := 0) rfl ?_
  refine a_put C fp_RX12_191 (i := 236) kd_236 (hid 236 (by decide)) rfl rfl dX12_read_57 ?_
  refine a_aload_n C dX12_read_60 (i := 0) rfl rfl ?_
  refine a_iconst C dX12_read_61 (v := 0) rfl ?_
  refine a_put C fp_RX12_200 (i := 236) kd_236 (hid 236 (by decide)) rfl rfl dX12_read_62 ?_
  refine a_aload_n C dX12_read_65 (i := 0) rfl rfl ?_
  refine a_iconst C dX12_read_66 (v := 1) rfl ?_
  refine a_aload_n C dX12_read_67 (i := 0) rfl rfl ?_
  refine a_get C fl_RX12_221 (i := 236) kd_236 (hid 236 (by decide)) (v := .int 0) (congrArg (fun z => some (Value.int z)) h_236_18) dX12_read_68 ?_
  refine a_isub C dX12_read_71 ?_
  refine a_put C fp_RX12_224 (i := 236) kd_236 (hid 236 (by decide)) rfl rfl dX12_read_72 ?_
  refine a_aload_n C dX12_read_75 (i := 0) rfl rfl ?_
  refine a_iconst C dX12_read_76 (v := 0) rfl ?_
  refine a_put C fp_RX12_227 (i := 236) kd_236 (hid 236 (by decide)) rfl rfl dX12_read_77 ?_
  refine a_aload_n C dX12_read_80 (i := 0) rfl rfl ?_
  refine a_aload_n C dX12_read_81 (i := 0) rfl rfl ?_
  refine a_get C fl_RX12_224 (i := 236) kd_236 (hid 236 (by decide)) (v := .int 1) rfl dX12_read_82 ?_
  refine a_callVv C (i := 236) kd_236 (hid 236 (by decide)) ⟨_, _, rfl⟩ (by decide) (m_plain1 hid) mi_X12_plain ml_RX12_140 rfl rfl (Nat.le_of_ble_eq_true rfl) (Nat.le_of_ble_eq_true rfl) (Nat.le_of_ble_eq_true rfl) dX12_read_85 (fun σ5 q6 => ?_)
  subst q6
  refine a_aload_n C dX12_read_88 (i := 0) rfl rfl ?_
  refine a_sipush C dX12_read_89 (v := 130) rfl ?_
  refine a_aload_n C dX12_read_92 (i := 0) rfl rfl ?_
  refine a_get C fl_RX12_224 (i := 236) kd_236 (hid 236 (by decide)) (v := .int 1) rfl dX12_read_93 ?_
  refine a_imul C dX12_read_96 ?_
  refine a_put C fp_RX12_230 (i := 236) kd_236 (hid 236 (by decide)) rfl rfl dX12_read_97 ?_
  refine a_aload_n C dX12_read_100 (i := 0) rfl rfl ?_
  refine a_sipush C dX12_read_101 (v := 420) rfl ?_
  refine a_aload_n C dX12_read_104 (i := 0) rfl rfl ?_
  refine a_get C fl_RX12_224 (i := 236) kd_236 (hid 236 (by decide)) (v := .int 1) rfl dX12_read_105 ?_
  refine a_imul C dX12_read_108 ?_
  refine a_put C fp_RX12_233 (i := 236) kd_236 (hid 236 (by decide)) rfl rfl dX12_read_109 ?_
  refine a_aload_n C dX12_read_112 (i := 0) rfl rfl ?_
  refine a_get C fl_RX12_191 (i := 236) kd_236 (hid 236 (by decide)) (v := .int 0) rfl dX12_read_113 ?_
  refine a_if_ne C dX12_read_116 (tgt := 134) rfl (fun h => absurd h (by decide)) (fun _ => ?_)
  refine a_aload_n C dX12_read_119 (i := 0) rfl rfl ?_
  refine a_iconst C dX12_read_120 (v := 0) rfl ?_
  refine a_callVi C (i := 236) kd_236 (hid 236 (by decide)) ⟨_, _, rfl⟩ (by decide) (m_is hid rfl rfl rfl) mi_X12_is ml_RX12_209 rfl rfl (Nat.le_of_ble_eq_true rfl) (Nat.le_of_ble_eq_true rfl) (Nat.le_of_ble_eq_true rfl) dX12_read_121 (fun r7 σ8 q9 => ?_)
  obtain ⟨rfl, q9⟩ := q9
  rw [q9]
  refine a_if_ne C dX12_read_124 (tgt := 134) rfl (fun _ => ?_) (fun h => absurd h (by decide))
  refine a_aload_n C dX12_read_134 (i := 0) rfl rfl ?_
  refine a_aload_n C dX12_read_135 (i := 0) rfl rfl ?_
  refine a_get C fl_RX12_191 (i := 236) kd_236 (hid 236 (by decide)) (v := .int 0) rfl dX12_read_136 ?_
  refine a_if_le C dX12_read_139 (tgt := 149) rfl (fun _ => ?_) (fun h => absurd h (by decide))
  refine a_aload_n C dX12_read_149 (i := 0) rfl rfl ?_
  refine a_get C fl_RX12_200 (i := 236) kd_236 (hid 236 (by decide)) (v := .int 0) rfl dX12_read_150 ?_
  refine a_if_le C dX12_read_153 (tgt := 163) rfl (fun _ => ?_) (fun h => absurd h (by decide))
  refine a_iconst C dX12_read_163 (v := (-1)) rfl ?_
  refine a_put C fp_RX12_37 (i := 236) kd_236 (hid 236 (by decide)) rfl rfl dX12_read_164 ?_
  refine a_aload_n C dX12_read_167 (i := 0) rfl rfl ?_
  refine a_get C fl_RX12_191 (i := 236) kd_236 (hid 236 (by decide)) (v := .int 0) rfl dX12_read_168 ?_
  refine a_if_le C dX12_read_171 (tgt := 179) rfl (fun _ => ?_) (fun h => absurd h (by decide))
  refine a_aload_n C dX12_read_179 (i := 0) rfl rfl ?_
  refine a_get C fl_RX12_200 (i := 236) kd_236 (hid 236 (by decide)) (v := .int 0) rfl dX12_read_180 ?_
  refine a_if_le C dX12_read_183 (tgt := 191) rfl (fun _ => ?_) (fun h => absurd h (by decide))
  refine a_aload_n C dX12_read_191 (i := 0) rfl rfl ?_
  refine a_aload_n C dX12_read_192 (i := 0) rfl rfl ?_
  refine a_get C fl_RX12_224 (i := 236) kd_236 (hid 236 (by decide)) (v := .int 1) rfl dX12_read_193 ?_
  refine a_put C fp_RX12_221 (i := 236) kd_236 (hid 236 (by decide)) rfl rfl dX12_read_196 ?_
  refine a_aload_n C dX12_read_199 (i := 0) rfl rfl ?_
  refine a_callVv C (i := 236) kd_236 (hid 236 (by decide)) ⟨_, _, rfl⟩ (by decide) (m_begins1 hid rfl rfl rfl rfl) mi_X12_begins ml_RX12_148 rfl rfl (Nat.le_of_ble_eq_true rfl) (Nat.le_of_ble_eq_true rfl) (Nat.le_of_ble_eq_true rfl) dX12_read_200 (fun σ11 q12 => ?_)
  refine a_aload_n C dX12_read_203 (i := 0) rfl rfl ?_
  refine a_callVv C (i := 236) kd_236 (hid 236 (by decide)) ⟨_, _, rfl⟩ (by decide) (m_keepsRow hid (bt := 0) q12.2) mi_X12_keepsRow ml_RX12_151 rfl rfl (Nat.le_of_ble_eq_true rfl) (Nat.le_of_ble_eq_true rfl) (Nat.le_of_ble_eq_true rfl) dX12_read_204 (fun σ14 q15 => ?_)
  refine a_aload_n C dX12_read_207 (i := 0) rfl rfl ?_
  refine a_iconst C dX12_read_208 (v := 0) rfl ?_
  refine a_put C fp_RX12_239 (i := 236) kd_236 (hid 236 (by decide)) rfl rfl dX12_read_209 ?_
  refine a_aload_n C dX12_read_212 (i := 0) rfl rfl ?_
  refine a_iconst C dX12_read_213 (v := 0) rfl ?_
  refine a_put C fp_RX12_242 (i := 236) kd_236 (hid 236 (by decide)) rfl rfl dX12_read_214 ?_
  refine a_iconst C dX12_read_217 (v := 0) rfl ?_
  refine a_istore_n C dX12_read_218 (i := 1) rfl (by decide) rfl (vs1 := [some (.ref (ad 236)), some (.int 0)]) rfl ?_
  refine a_iload_n C dX12_read_219 (i := 1) rfl rfl ?_
  refine a_iconst C dX12_read_220 (v := 3) rfl ?_
  refine a_ic_ge C dX12_read_221 (tgt := 237) rfl (fun h => absurd h (by decide)) (fun _ => ?_)
  refine a_aload_n C dX12_read_224 (i := 0) rfl rfl ?_
  refine a_get C fl_RX12_134 (i := 236) kd_236 (hid 236 (by decide)) (v := .ref (ad 275)) rfl dX12_read_225 ?_
  refine a_iload_n C dX12_read_228 (i := 1) rfl rfl ?_
  refine a_iconst C dX12_read_229 (v := 0) rfl ?_
  refine a_zast C (i := 275) 0 rfl kd_275 (hid 275 (by decide)) (by decide) rfl (by rw [al_275]; decide) dX12_read_230 ?_
  refine a_iinc C dX12_read_231 rfl (v := 1) rfl (by decide) rfl (vs1 := [some (.ref (ad 236)), some (.int 1)]) rfl ?_
  refine a_goto C dX12_read_234 (tgt := 219) rfl ?_
  refine a_iload_n C dX12_read_219 (i := 1) rfl rfl ?_
  refine a_iconst C dX12_read_220 (v := 3) rfl ?_
  refine a_ic_ge C dX12_read_221 (tgt := 237) rfl (fun h => absurd h (by decide)) (fun _ => ?_)
  refine a_aload_n C dX12_read_224 (i := 0) rfl rfl ?_
  refine a_get C fl_RX12_134 (i := 236) kd_236 (hid 236 (by decide)) (v := .ref (ad 275)) rfl dX12_read_225 ?_
  refine a_iload_n C dX12_read_228 (i := 1) rfl rfl ?_
  refine a_iconst C dX12_read_229 (v := 0) rfl ?_
  refine a_zast C (i := 275) 1 rfl kd_275 (hid 275 (by decide)) (by decide) rfl (by rw [al_275]; decide) dX12_read_230 ?_
  refine a_iinc C dX12_read_231 rfl (v := 2) rfl (by decide) rfl (vs1 := [some (.ref (ad 236)), some (.int 2)]) rfl ?_
  refine a_goto C dX12_read_234 (tgt := 219) rfl ?_
  refine a_iload_n C dX12_read_219 (i := 1) rfl rfl ?_
  refine a_iconst C dX12_read_220 (v := 3) rfl ?_
  refine a_ic_ge C dX12_read_221 (tgt := 237) rfl (fun h => absurd h (by decide)) (fun _ => ?_)
  refine a_aload_n C dX12_read_224 (i := 0) rfl rfl ?_
  refine a_get C fl_RX12_134 (i := 236) kd_236 (hid 236 (by decide)) (v := .ref (ad 275)) rfl dX12_read_225 ?_
  refine a_iload_n C dX12_read_228 (i := 1) rfl rfl ?_
  refine a_iconst C dX12_read_229 (v := 0) rfl ?_
  refine a_zast C (i := 275) 2 rfl kd_275 (hid 275 (by decide)) (by decide) rfl (by rw [al_275]; decide) dX12_read_230 ?_
  refine a_iinc C dX12_read_231 rfl (v := 3) rfl (by decide) rfl (vs1 := [some (.ref (ad 236)), some (.int 3)]) rfl ?_
  refine a_goto C dX12_read_234 (tgt := 219) rfl ?_
  refine a_iload_n C dX12_read_219 (i := 1) rfl rfl ?_
  refine a_iconst C dX12_read_220 (v := 3) rfl ?_
  refine a_ic_ge C dX12_read_221 (tgt := 237) rfl (fun _ => ?_) (fun h => absurd h (by decide))
  refine a_iconst C dX12_read_237 (v := 0) rfl ?_
  exact a_iret Rt dX12_read_238 rfl (rfl)
