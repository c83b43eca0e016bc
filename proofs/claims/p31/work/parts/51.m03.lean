theorem dX12_tiresBy_0 : decode cX12_tiresBy 0 = .ok (.aload_n 0, 1) := by decide +kernel
theorem dX12_tiresBy_1 : decode cX12_tiresBy 1 = .ok (.iload_n 1, 1) := by decide +kernel
theorem dX12_tiresBy_2 : decode cX12_tiresBy 2 = .ok (.iload_n 2, 1) := by decide +kernel
theorem dX12_tiresBy_3 : decode cX12_tiresBy 3 = .ok (.iload_n 3, 1) := by decide +kernel
theorem dX12_tiresBy_4 : decode cX12_tiresBy 4 = .ok (.invokevirtual 331, 3) := by decide +kernel
theorem dX12_tiresBy_7 : decode cX12_tiresBy 7 = .ok (.aload_n 0, 1) := by decide +kernel
theorem dX12_tiresBy_8 : decode cX12_tiresBy 8 = .ok (.iconst 0, 1) := by decide +kernel
theorem dX12_tiresBy_9 : decode cX12_tiresBy 9 = .ok (.iconst 0, 1) := by decide +kernel
theorem dX12_tiresBy_10 : decode cX12_tiresBy 10 = .ok (.invokevirtual 335, 3) := by decide +kernel
theorem dX12_tiresBy_13 : decode cX12_tiresBy 13 = .ok (.iconst 0, 1) := by decide +kernel
theorem dX12_tiresBy_14 : decode cX12_tiresBy 14 = .ok (.bipush 99, 2) := by decide +kernel
theorem dX12_tiresBy_16 : decode cX12_tiresBy 16 = .ok (.invokestatic 338, 3) := by decide +kernel
theorem dX12_tiresBy_19 : decode cX12_tiresBy 19 = .ok (.ireturn, 1) := by decide +kernel
set_option maxHeartbeats 4000000 in
set_option maxRecDepth 100000 in
theorem S_X12_tiresBy_236 {l : Launch} {D : va_G} {ids : List Nat} {ad : Nat → Nat} {ca : Nat → ClassId} {σ : HS} {x1 : Int32} {x2 : Int32} {x3 : Int32} (hid : ∀ i, i < 277 → i ∈ ids) (hG : GIm σ) {b : Int} (hR : RKm b σ) (hx1 : 0 ≤ x1.toInt ∧ x1.toInt ≤ 6) : Ki l D ids ad ca yX12_tiresBy cX12_tiresBy 4 .int 2 53 [.ref (ad 236), .int x1, .int x2, .int x3] σ (fun r σ1 => (GIm σ1) ∧ (onm [264, 265, 1046] σ σ1) ∧ (RKm b σ1)) := by
  refine Ki.of (by decide) (Nat.le_of_ble_eq_true rfl) 0 (fun Γ C Rt => ?_)
  show AW ids ad ca Γ 0 [some (.ref (ad 236)), some (.int x1), some (.int x2), some (.int x3)] [] σ
  refine a_aload_n C dX12_tiresBy_0 (i := 0) rfl rfl ?_
  refine a_iload_n C dX12_tiresBy_1 (i := 1) rfl rfl ?_
  refine a_iload_n C dX12_tiresBy_2 (i := 2) rfl rfl ?_
  refine a_iload_n C dX12_tiresBy_3 (i := 3) rfl rfl ?_
  refine a_callVv C (i := 236) kd_236 (hid 236 (by decide)) ⟨_, _, rfl⟩ (by decide) (S_X12_looksAt_236 (x1 := x1) (x2 := x2) (x3 := x3) hid hG (by omega)) mi_X12_looksAt ml_RX12_331 rfl rfl (Nat.le_of_ble_eq_true rfl) (Nat.le_of_ble_eq_true rfl) (Nat.le_of_ble_eq_true rfl) dX12_tiresBy_4 (fun σ2 q3 => ?_)
  obtain ⟨hG4, ho5⟩ := q3
  have hR6 := RKm.ony hR ho5 (by decide)
  refine a_aload_n C dX12_tiresBy_7 (i := 0) rfl rfl ?_
  refine s_iconst C dX12_tiresBy_8 (0) (by decide) (fun z7 h8 => ?_)
  refine s_iconst C dX12_tiresBy_9 (0) (by decide) (fun z9 h10 => ?_)
  refine a_callVi C (i := 236) kd_236 (hid 236 (by decide)) ⟨_, _, rfl⟩ (by decide) (S_X12_lawTells_236 (x1 := z7) (x2 := z9) hid hG4 hR6 (by omega)) mi_X12_lawTells ml_RX12_335 rfl rfl (Nat.le_of_ble_eq_true rfl) (Nat.le_of_ble_eq_true rfl) (Nat.le_of_ble_eq_true rfl) dX12_tiresBy_10 (fun z11 σ12 q13 => ?_)
  obtain ⟨hG14, ho15, hR16⟩ := q13
  refine s_iconst C dX12_tiresBy_13 (0) (by decide) (fun z17 h18 => ?_)
  refine s_bipush C dX12_tiresBy_14 (99) (by decide) (fun z19 h20 => ?_)
  refine a_callSi C (S_X12_held (x1 := z11) (x2 := z17) (x3 := z19) hid hG14) ms_X12_held ml_RX12_338 rfl rfl (Nat.le_of_ble_eq_true rfl) (Nat.le_of_ble_eq_true rfl) (Nat.le_of_ble_eq_true rfl) dX12_tiresBy_16 (fun z21 σ22 q23 => ?_)
  obtain ⟨w24, w25⟩ := q23
  rw [w24]
  exact a_iret Rt dX12_tiresBy_19 rfl (⟨hG14, (onm.tr (onm.tr onm.rf (onm.mono ho5 (by decide))) (onm.mono ho15 (by decide))), hR16⟩)
theorem dX12_dropsBy_0 : decode cX12_dropsBy 0 = .ok (.aload_n 0, 1) := by decide +kernel
theorem dX12_dropsBy_1 : decode cX12_dropsBy 1 = .ok (.iload_n 1, 1) := by decide +kernel
theorem dX12_dropsBy_2 : decode cX12_dropsBy 2 = .ok (.iload_n 2, 1) := by decide +kernel
theorem dX12_dropsBy_3 : decode cX12_dropsBy 3 = .ok (.iload_n 3, 1) := by decide +kernel
theorem dX12_dropsBy_4 : decode cX12_dropsBy 4 = .ok (.invokevirtual 331, 3) := by decide +kernel
theorem dX12_dropsBy_7 : decode cX12_dropsBy 7 = .ok (.aload_n 0, 1) := by decide +kernel
theorem dX12_dropsBy_8 : decode cX12_dropsBy 8 = .ok (.iconst 1, 1) := by decide +kernel
theorem dX12_dropsBy_9 : decode cX12_dropsBy 9 = .ok (.iconst 0, 1) := by decide +kernel
theorem dX12_dropsBy_10 : decode cX12_dropsBy 10 = .ok (.invokevirtual 335, 3) := by decide +kernel
theorem dX12_dropsBy_13 : decode cX12_dropsBy 13 = .ok (.iconst 0, 1) := by decide +kernel
theorem dX12_dropsBy_14 : decode cX12_dropsBy 14 = .ok (.bipush 100, 2) := by decide +kernel
theorem dX12_dropsBy_16 : decode cX12_dropsBy 16 = .ok (.invokestatic 338, 3) := by decide +kernel
theorem dX12_dropsBy_19 : decode cX12_dropsBy 19 = .ok (.ireturn, 1) := by decide +kernel
set_option maxHeartbeats 4000000 in
set_option maxRecDepth 100000 in
theorem S_X12_dropsBy_236 {l : Launch} {D : va_G} {ids : List Nat} {ad : Nat → Nat} {ca : Nat → ClassId} {σ : HS} {x1 : Int32} {x2 : Int32} {x3 : Int32} (hid : ∀ i, i < 277 → i ∈ ids) (hG : GIm σ) {b : Int} (hR : RKm b σ) (hx1 : 0 ≤ x1.toInt ∧ x1.toInt ≤ 6) : Ki l D ids ad ca yX12_dropsBy cX12_dropsBy 4 .int 2 53 [.ref (ad 236), .int x1, .int x2, .int x3] σ (fun r σ1 => (GIm σ1) ∧ (onm [264, 265, 1046] σ σ1) ∧ (RKm b σ1)) := by
  refine Ki.of (by decide) (Nat.le_of_ble_eq_true rfl) 0 (fun Γ C Rt => ?_)
  show AW ids ad ca Γ 0 [some (.ref (ad 236)), some (.int x1), some (.int x2), some (.int x3)] [] σ
  refine a_aload_n C dX12_dropsBy_0 (i := 0) rfl rfl ?_
  refine a_iload_n C dX12_dropsBy_1 (i := 1) rfl rfl ?_
  refine a_iload_n C dX12_dropsBy_2 (i := 2) rfl rfl ?_
  refine a_iload_n C dX12_dropsBy_3 (i := 3) rfl rfl ?_
  refine a_callVv C (i := 236) kd_236 (hid 236 (by decide)) ⟨_, _, rfl⟩ (by decide) (S_X12_looksAt_236 (x1 := x1) (x2 := x2) (x3 := x3) hid hG (by omega)) mi_X12_looksAt ml_RX12_331 rfl rfl (Nat.le_of_ble_eq_true rfl) (Nat.le_of_ble_eq_true rfl) (Nat.le_of_ble_eq_true rfl) dX12_dropsBy_4 (fun σ2 q3 => ?_)
  obtain ⟨hG4, ho5⟩ := q3
  have hR6 := RKm.ony hR ho5 (by decide)
  refine a_aload_n C dX12_dropsBy_7 (i := 0) rfl rfl ?_
  refine s_iconst C dX12_dropsBy_8 (1) (by decide) (fun z7 h8 => ?_)
  refine s_iconst C dX12_dropsBy_9 (0) (by decide) (fun z9 h10 => ?_)
  refine a_callVi C (i := 236) kd_236 (hid 236 (by decide)) ⟨_, _, rfl⟩ (by decide) (S_X12_lawTells_236 (x1 := z7) (x2 := z9) hid hG4 hR6 (by omega)) mi_X12_lawTells ml_RX12_335 rfl rfl (Nat.le_of_ble_eq_true rfl) (Nat.le_of_ble_eq_true rfl) (Nat.le_of_ble_eq_true rfl) dX12_dropsBy_10 (fun z11 σ12 q13 => ?_)
  obtain ⟨hG14, ho15, hR16⟩ := q13
  refine s_iconst C dX12_dropsBy_13 (0) (by decide) (fun z17 h18 => ?_)
  refine s_bipush C dX12_dropsBy_14 (100) (by decide) (fun z19 h20 => ?_)
  refine a_callSi C (S_X12_held (x1 := z11) (x2 := z17) (x3 := z19) hid hG14) ms_X12_held ml_RX12_338 rfl rfl (Nat.le_of_ble_eq_true rfl) (Nat.le_of_ble_eq_true rfl) (Nat.le_of_ble_eq_true rfl) dX12_dropsBy_16 (fun z21 σ22 q23 => ?_)
  obtain ⟨w24, w25⟩ := q23
  rw [w24]
  exact a_iret Rt dX12_dropsBy_19 rfl (⟨hG14, (onm.tr (onm.tr onm.rf (onm.mono ho5 (by decide))) (onm.mono ho15 (by decide))), hR16⟩)
theorem dX12_forceOf_0 : decode cX12_forceOf 0 = .ok (.aload_n 0, 1) := by decide +kernel
theorem dX12_forceOf_1 : decode cX12_forceOf 1 = .ok (.iload_n 1, 1) := by decide +kernel
theorem dX12_forceOf_2 : decode cX12_forceOf 2 = .ok (.iconst 0, 1) := by decide +kernel
theorem dX12_forceOf_3 : decode cX12_forceOf 3 = .ok (.iload_n 2, 1) := by decide +kernel
theorem dX12_forceOf_4 : decode cX12_forceOf 4 = .ok (.invokevirtual 331, 3) := by decide +kernel
theorem dX12_forceOf_7 : decode cX12_forceOf 7 = .ok (.aload_n 0, 1) := by decide +kernel
theorem dX12_forceOf_8 : decode cX12_forceOf 8 = .ok (.iconst 2, 1) := by decide +kernel
theorem dX12_forceOf_9 : decode cX12_forceOf 9 = .ok (.aload_n 0, 1) := by decide +kernel
theorem dX12_forceOf_10 : decode cX12_forceOf 10 = .ok (.getfield 101, 3) := by decide +kernel
theorem dX12_forceOf_13 : decode cX12_forceOf 13 = .ok (.iconst 1, 1) := by decide +kernel
theorem dX12_forceOf_14 : decode cX12_forceOf 14 = .ok (.iaload, 1) := by decide +kernel
theorem dX12_forceOf_15 : decode cX12_forceOf 15 = .ok (.invokevirtual 335, 3) := by decide +kernel
theorem dX12_forceOf_18 : decode cX12_forceOf 18 = .ok (.bipush (-99), 2) := by decide +kernel
theorem dX12_forceOf_20 : decode cX12_forceOf 20 = .ok (.bipush 99, 2) := by decide +kernel
theorem dX12_forceOf_22 : decode cX12_forceOf 22 = .ok (.invokestatic 338, 3) := by decide +kernel
theorem dX12_forceOf_25 : decode cX12_forceOf 25 = .ok (.ireturn, 1) := by decide +kernel
set_option maxHeartbeats 4000000 in
set_option maxRecDepth 100000 in
theorem S_X12_forceOf_236 {l : Launch} {D : va_G} {ids : List Nat} {ad : Nat → Nat} {ca : Nat → ClassId} {σ : HS} {x1 : Int32} {x2 : Int32} (hid : ∀ i, i < 277 → i ∈ ids) (hG : GIm σ) {b : Int} (hR : RKm b σ) (hx1 : 0 ≤ x1.toInt ∧ x1.toInt ≤ 6) : Ki l D ids ad ca yX12_forceOf cX12_forceOf 3 .int 2 53 [.ref (ad 236), .int x1, .int x2] σ (fun r σ1 => (GIm σ1) ∧ (onm [264, 265, 1046] σ σ1) ∧ (RKm b σ1)) := by
  refine Ki.of (by decide) (Nat.le_of_ble_eq_true rfl) 0 (fun Γ C Rt => ?_)
  show AW ids ad ca Γ 0 [some (.ref (ad 236)), some (.int x1), some (.int x2)] [] σ
  refine a_aload_n C dX12_forceOf_0 (i := 0) rfl rfl ?_
  refine a_iload_n C dX12_forceOf_1 (i := 1) rfl rfl ?_
  refine s_iconst C dX12_forceOf_2 (0) (by decide) (fun z1 h2 => ?_)
  refine a_iload_n C dX12_forceOf_3 (i := 2) rfl rfl ?_
  refine a_callVv C (i := 236) kd_236 (hid 236 (by decide)) ⟨_, _, rfl⟩ (by decide) (S_X12_looksAt_236 (x1 := x1) (x2 := z1) (x3 := x2) hid hG (by omega)) mi_X12_looksAt ml_RX12_331 rfl rfl (Nat.le_of_ble_eq_true rfl) (Nat.le_of_ble_eq_true rfl) (Nat.le_of_ble_eq_true rfl) dX12_forceOf_4 (fun σ4 q5 => ?_)
  obtain ⟨hG6, ho7⟩ := q5
  have hR8 := RKm.ony hR ho7 (by decide)
  refine a_aload_n C dX12_forceOf_7 (i := 0) rfl rfl ?_
  refine s_iconst C dX12_forceOf_8 (2) (by decide) (fun z9 h10 => ?_)
  refine a_aload_n C dX12_forceOf_9 (i := 0) rfl rfl ?_
  refine a_get C fl_RX12_101 (i := 236) kd_236 (hid 236 (by decide)) (v := .ref (ad 264)) rfl dX12_forceOf_10 ?_
  refine s_iconst C dX12_forceOf_13 (1) (by decide) (fun z11 h12 => ?_)
  refine s_iald C (i := 264) kd_264 (hid 264 (by decide)) al_264 (by omega) (by omega) dX12_forceOf_14 (fun n13 h14 => ?_)
  refine s_val (fun z15 e16 => ?_)
  refine a_callVi C (i := 236) kd_236 (hid 236 (by decide)) ⟨_, _, rfl⟩ (by decide) (S_X12_lawTells_236 (x1 := z9) (x2 := z15) hid hG6 hR8 (by omega)) mi_X12_lawTells ml_RX12_335 rfl rfl (Nat.le_of_ble_eq_true rfl) (Nat.le_of_ble_eq_true rfl) (Nat.le_of_ble_eq_true rfl) dX12_forceOf_15 (fun z17 σ18 q19 => ?_)
  obtain ⟨hG20, ho21, hR22⟩ := q19
  refine s_bipush C dX12_forceOf_18 (-99) (by decide) (fun z23 h24 => ?_)
  refine s_bipush C dX12_forceOf_20 (99) (by decide) (fun z25 h26 => ?_)
  refine a_callSi C (S_X12_held (x1 := z17) (x2 := z23) (x3 := z25) hid hG20) ms_X12_held ml_RX12_338 rfl rfl (Nat.le_of_ble_eq_true rfl) (Nat.le_of_ble_eq_true rfl) (Nat.le_of_ble_eq_true rfl) dX12_forceOf_22 (fun z27 σ28 q29 => ?_)
  obtain ⟨w30, w31⟩ := q29
  rw [w30]
  exact a_iret Rt dX12_forceOf_25 rfl (⟨hG20, (onm.tr (onm.tr onm.rf (onm.mono ho7 (by decide))) (onm.mono ho21 (by decide))), hR22⟩)
theorem dX12_paysOf_0 : decode cX12_paysOf 0 = .ok (.aload_n 0, 1) := by decide +kernel
theorem dX12_paysOf_1 : decode cX12_paysOf 1 = .ok (.iload_n 1, 1) := by decide +kernel
theorem dX12_paysOf_2 : decode cX12_paysOf 2 = .ok (.iconst 0, 1) := by decide +kernel
theorem dX12_paysOf_3 : decode cX12_paysOf 3 = .ok (.iload_n 2, 1) := by decide +kernel
theorem dX12_paysOf_4 : decode cX12_paysOf 4 = .ok (.invokevirtual 331, 3) := by decide +kernel
theorem dX12_paysOf_7 : decode cX12_paysOf 7 = .ok (.aload_n 0, 1) := by decide +kernel
theorem dX12_paysOf_8 : decode cX12_paysOf 8 = .ok (.iconst 3, 1) := by decide +kernel
theorem dX12_paysOf_9 : decode cX12_paysOf 9 = .ok (.iconst 0, 1) := by decide +kernel
theorem dX12_paysOf_10 : decode cX12_paysOf 10 = .ok (.invokevirtual 335, 3) := by decide +kernel
theorem dX12_paysOf_13 : decode cX12_paysOf 13 = .ok (.iconst 0, 1) := by decide +kernel
theorem dX12_paysOf_14 : decode cX12_paysOf 14 = .ok (.bipush 99, 2) := by decide +kernel
theorem dX12_paysOf_16 : decode cX12_paysOf 16 = .ok (.invokestatic 338, 3) := by decide +kernel
theorem dX12_paysOf_19 : decode cX12_paysOf 19 = .ok (.ireturn, 1) := by decide +kernel
set_option maxHeartbeats 4000000 in
set_option maxRecDepth 100000 in
theorem S_X12_paysOf_236 {l : Launch} {D : va_G} {ids : List Nat} {ad : Nat → Nat} {ca : Nat → ClassId} {σ : HS} {x1 : Int32} {x2 : Int32} (hid : ∀ i, i < 277 → i ∈ ids) (hG : GIm σ) {b : Int} (hR : RKm b σ) (hx1 : 0 ≤ x1.toInt ∧ x1.toInt ≤ 6) : Ki l D ids ad ca yX12_paysOf cX12_paysOf 3 .int 2 53 [.ref (ad 236), .int x1, .int x2] σ (fun r σ1 => (GIm σ1) ∧ (onm [264, 265, 1046] σ σ1) ∧ (RKm b σ1)) := by
  refine Ki.of (by decide) (Nat.le_of_ble_eq_true rfl) 0 (fun Γ C Rt => ?_)
  show AW ids ad ca Γ 0 [some (.ref (ad 236)), some (.int x1), some (.int x2)] [] σ
  refine a_aload_n C dX12_paysOf_0 (i := 0) rfl rfl ?_
  refine a_iload_n C dX12_paysOf_1 (i := 1) rfl rfl ?_
  refine s_iconst C dX12_paysOf_2 (0) (by decide) (fun z1 h2 => ?_)
  refine a_iload_n C dX12_paysOf_3 (i := 2) rfl rfl ?_
  refine a_callVv C (i := 236) kd_236 (hid 236 (by decide)) ⟨_, _, rfl⟩ (by decide) (S_X12_looksAt_236 (x1 := x1) (x2 := z1) (x3 := x2) hid hG (by omega)) mi_X12_looksAt ml_RX12_331 rfl rfl (Nat.le_of_ble_eq_true rfl) (Nat.le_of_ble_eq_true rfl) (Nat.le_of_ble_eq_true rfl) dX12_paysOf_4 (fun σ4 q5 => ?_)
  obtain ⟨hG6, ho7⟩ := q5
  have hR8 := RKm.ony hR ho7 (by decide)
  refine a_aload_n C dX12_paysOf_7 (i := 0) rfl rfl ?_
  refine s_iconst C dX12_paysOf_8 (3) (by decide) (fun z9 h10 => ?_)
  refine s_iconst C dX12_paysOf_9 (0) (by decide) (fun z11 h12 => ?_)
  refine a_callVi C (i := 236) kd_236 (hid 236 (by decide)) ⟨_, _, rfl⟩ (by decide) (S_X12_lawTells_236 (x1 := z9) (x2 := z11) hid hG6 hR8 (by omega)) mi_X12_lawTells ml_RX12_335 rfl rfl (Nat.le_of_ble_eq_true rfl) (Nat.le_of_ble_eq_true rfl) (Nat.le_of_ble_eq_true rfl) dX12_paysOf_10 (fun z13 σ14 q15 => ?_)
  obtain ⟨hG16, ho17, hR18⟩ := q15
  refine s_iconst C dX12_paysOf_13 (0) (by decide) (fun z19 h20 => ?_)
  refine s_bipush C dX12_paysOf_14 (99) (by decide) (fun z21 h22 => ?_)
  refine a_callSi C (S_X12_held (x1 := z13) (x2 := z19) (x3 := z21) hid hG16) ms_X12_held ml_RX12_338 rfl rfl (Nat.le_of_ble_eq_true rfl) (Nat.le_of_ble_eq_true rfl) (Nat.le_of_ble_eq_true rfl) dX12_paysOf_16 (fun z23 σ24 q25 => ?_)
  obtain ⟨w26, w27⟩ := q25
  rw [w26]
  exact a_iret Rt dX12_paysOf_19 rfl (⟨hG16, (onm.tr (onm.tr onm.rf (onm.mono ho7 (by decide))) (onm.mono ho17 (by decide))), hR18⟩)
theorem dX12_dropsOthers_0 : decode cX12_dropsOthers 0 = .ok (.iconst 0, 1) := by decide +kernel
theorem dX12_dropsOthers_1 : decode cX12_dropsOthers 1 = .ok (.istore_n 1, 1) := by decide +kernel
theorem dX12_dropsOthers_2 : decode cX12_dropsOthers 2 = .ok (.iload_n 1, 1) := by decide +kernel
theorem dX12_dropsOthers_3 : decode cX12_dropsOthers 3 = .ok (.aload_n 0, 1) := by decide +kernel
theorem dX12_dropsOthers_4 : decode cX12_dropsOthers 4 = .ok (.getfield 43, 3) := by decide +kernel
theorem dX12_dropsOthers_7 : decode cX12_dropsOthers 7 = .ok (.aload_n 0, 1) := by decide +kernel
theorem dX12_dropsOthers_8 : decode cX12_dropsOthers 8 = .ok (.getfield 221, 3) := by decide +kernel
theorem dX12_dropsOthers_11 : decode cX12_dropsOthers 11 = .ok (.iaload, 1) := by decide +kernel
theorem dX12_dropsOthers_12 : decode cX12_dropsOthers 12 = .ok (.if_icmp .ge 52, 3) := by decide +kernel
theorem dX12_dropsOthers_15 : decode cX12_dropsOthers 15 = .ok (.iload_n 1, 1) := by decide +kernel
theorem dX12_dropsOthers_16 : decode cX12_dropsOthers 16 = .ok (.aload_n 0, 1) := by decide +kernel
theorem dX12_dropsOthers_17 : decode cX12_dropsOthers 17 = .ok (.getfield 341, 3) := by decide +kernel
theorem dX12_dropsOthers_20 : decode cX12_dropsOthers 20 = .ok (.if_icmp .eq 38, 3) := by decide +kernel
theorem dX12_dropsOthers_23 : decode cX12_dropsOthers 23 = .ok (.aload_n 0, 1) := by decide +kernel
theorem dX12_dropsOthers_24 : decode cX12_dropsOthers 24 = .ok (.iload_n 1, 1) := by decide +kernel
theorem dX12_dropsOthers_25 : decode cX12_dropsOthers 25 = .ok (.iconst 0, 1) := by decide +kernel
theorem dX12_dropsOthers_26 : decode cX12_dropsOthers 26 = .ok (.invokevirtual 324, 3) := by decide +kernel
theorem dX12_dropsOthers_29 : decode cX12_dropsOthers 29 = .ok (.ifCond .ne 6, 3) := by decide +kernel
theorem dX12_dropsOthers_32 : decode cX12_dropsOthers 32 = .ok (.goto 26, 3) := by decide +kernel
theorem dX12_dropsOthers_35 : decode cX12_dropsOthers 35 = .ok (.aload_n 0, 1) := by decide +kernel
theorem dX12_dropsOthers_36 : decode cX12_dropsOthers 36 = .ok (.getfield 110, 3) := by decide +kernel
theorem dX12_dropsOthers_39 : decode cX12_dropsOthers 39 = .ok (.iload_n 1, 1) := by decide +kernel
theorem dX12_dropsOthers_40 : decode cX12_dropsOthers 40 = .ok (.iconst 2, 1) := by decide +kernel
theorem dX12_dropsOthers_41 : decode cX12_dropsOthers 41 = .ok (.iastore, 1) := by decide +kernel
theorem dX12_dropsOthers_42 : decode cX12_dropsOthers 42 = .ok (.aload_n 0, 1) := by decide +kernel
theorem dX12_dropsOthers_43 : decode cX12_dropsOthers 43 = .ok (.getfield 110, 3) := by decide +kernel
theorem dX12_dropsOthers_46 : decode cX12_dropsOthers 46 = .ok (.bipush 23, 2) := by decide +kernel
theorem dX12_dropsOthers_48 : decode cX12_dropsOthers 48 = .ok (.dup2, 1) := by decide +kernel
theorem dX12_dropsOthers_49 : decode cX12_dropsOthers 49 = .ok (.iaload, 1) := by decide +kernel
theorem dX12_dropsOthers_50 : decode cX12_dropsOthers 50 = .ok (.iconst 1, 1) := by decide +kernel
theorem dX12_dropsOthers_51 : decode cX12_dropsOthers 51 = .ok (.iadd, 1) := by decide +kernel
theorem dX12_dropsOthers_52 : decode cX12_dropsOthers 52 = .ok (.iastore, 1) := by decide +kernel
theorem dX12_dropsOthers_53 : decode cX12_dropsOthers 53 = .ok (.aload_n 0, 1) := by decide +kernel
theorem dX12_dropsOthers_54 : decode cX12_dropsOthers 54 = .ok (.iconst 1, 1) := by decide +kernel
theorem dX12_dropsOthers_55 : decode cX12_dropsOthers 55 = .ok (.putfield 344, 3) := by decide +kernel
theorem dX12_dropsOthers_58 : decode cX12_dropsOthers 58 = .ok (.iinc 1 1, 3) := by decide +kernel
theorem dX12_dropsOthers_61 : decode cX12_dropsOthers 61 = .ok (.goto (-59), 3) := by decide +kernel
theorem dX12_dropsOthers_64 : decode cX12_dropsOthers 64 = .ok (.return_, 1) := by decide +kernel
set_option maxHeartbeats 4000000 in
set_option maxRecDepth 100000 in
theorem S_X12_dropsOthers_236 {l : Launch} {D : va_G} {ids : List Nat} {ad : Nat → Nat} {ca : Nat → ClassId} {σ : HS} (hid : ∀ i, i < 277 → i ∈ ids) (hG : GIm σ) {b : Int} (hR : RKm b σ) : Kv l D ids ad ca yX12_dropsOthers cX12_dropsOthers 2 1 22 [.ref (ad 236)] σ (fun σ1 => (GIm σ1) ∧ (onm [267, 1052] σ σ1) ∧ (RKm b σ1)) := by
  refine Kv.of (by decide) (Nat.le_of_ble_eq_true rfl) 1 (fun Γ C Rt => ?_)
  show AW ids ad ca Γ 0 [some (.ref (ad 236)), none] [] σ
  have j2 : ∀ (d2 : Nat) (σq2 : HS) (y2_1 : Int32), 7 - y2_1.toInt < d2 → GIm σq2 → onm [267, 1052] σ σq2 → RKm b σq2 → 0 ≤ y2_1.toInt ∧ y2_1.toInt ≤ 7 → AW ids ad ca Γ 2 [some (.ref (ad 236)), some (.int y2_1)] [] σq2 := by
    intro d2
    induction d2 with
    | zero =>
      intro σq2 y2_1 hd2 hGq2 hoq2 hRq2 hx2_0
      exfalso
      omega
    | succ d2 ih2 =>
      intro σq2 y2_1 hd2 hGq2 hoq2 hRq2 hx2_0
      have j58 : ∀ (σq58 : HS), GIm σq58 → onm [267, 1052] σ σq58 → RKm b σq58 → 0 ≤ y2_1.toInt ∧ y2_1.toInt ≤ 6 → AW ids ad ca Γ 58 [some (.ref (ad 236)), some (.int y2_1)] [] σq58 := by
        intro σq58 hGq58 hoq58 hRq58 hx58_0
        refine s_iinc C dX12_dropsOthers_58 rfl (1) (by decide) (by omega) (by decide) rfl (fun z1 h2 => ?_)
        show AW ids ad ca Γ 61 [some (.ref (ad 236)), some (.int z1)] _ _
        refine a_goto C dX12_dropsOthers_61 (tgt := 2) rfl ?_
        exact ih2 _ z1 (by omega) hGq58 hoq58 hRq58 (by omega)
      refine a_iload_n C dX12_dropsOthers_2 (i := 1) rfl rfl ?_
      refine a_aload_n C dX12_dropsOthers_3 (i := 0) rfl rfl ?_
      refine a_get C fl_RX12_43 (i := 236) kd_236 (hid 236 (by decide)) (v := .ref (ad 245)) rfl dX12_dropsOthers_4 ?_
      refine a_aload_n C dX12_dropsOthers_7 (i := 0) rfl rfl ?_
      have g3 := bF_236_18 hGq2
      have g4 : (σq2.1 236 18).toInt = (σ.1 236 18).toInt := congrArg Int32.toInt (hoq2.1 236 18 (by decide))
      refine a_get C fl_RX12_221 (i := 236) kd_236 (hid 236 (by decide)) (v := .int (σq2.1 236 18)) rfl dX12_dropsOthers_8 ?_
      refine s_iald C (i := 245) kd_245 (hid 245 (by decide)) al_245 (by omega) (by omega) dX12_dropsOthers_11 (fun n5 h6 => ?_)
      refine s_val (fun z7 e8 => ?_)
      have g9 := bA_245 hGq2 n5
      rw [e8] at g9
      refine s_ic_ge C dX12_dropsOthers_12 (tgt := 64) rfl (fun c10 => ?_) (fun c10 => ?_)
      ·
        exact a_vret Rt dX12_dropsOthers_64 (⟨hGq2, hoq2, hRq2⟩)
      ·
        refine a_iload_n C dX12_dropsOthers_15 (i := 1) rfl rfl ?_
        refine a_aload_n C dX12_dropsOthers_16 (i := 0) rfl rfl ?_
        have g11 := bF_236_51 hGq2
        have g12 : (σq2.1 236 51).toInt = (σ.1 236 51).toInt := congrArg Int32.toInt (hoq2.1 236 51 (by decide))
        refine a_get C fl_RX12_341 (i := 236) kd_236 (hid 236 (by decide)) (v := .int (σq2.1 236 51)) rfl dX12_dropsOthers_17 ?_
        refine s_ic_eq C dX12_dropsOthers_20 (tgt := 58) rfl (fun c13 => ?_) (fun c13 => ?_)
        ·
          exact j58 _ hGq2 hoq2 hRq2 (by omega)
        ·
          refine a_aload_n C dX12_dropsOthers_23 (i := 0) rfl rfl ?_
          refine a_iload_n C dX12_dropsOthers_24 (i := 1) rfl rfl ?_
          refine s_iconst C dX12_dropsOthers_25 (0) (by decide) (fun z14 h15 => ?_)
          refine a_callVi C (i := 236) kd_236 (hid 236 (by decide)) ⟨_, _, rfl⟩ (by decide) (S_X12_doesLand_236 (x1 := y2_1) (x2 := z14) hid hGq2 (by omega)) mi_X12_doesLand ml_RX12_324 rfl rfl (Nat.le_of_ble_eq_true rfl) (Nat.le_of_ble_eq_true rfl) (Nat.le_of_ble_eq_true rfl) dX12_dropsOthers_26 (fun z16 σ17 q18 => ?_)
          obtain ⟨w19, w20⟩ := q18
          rw [w19]
          refine s_if_ne C dX12_dropsOthers_29 (tgt := 35) rfl (fun c21 => ?_) (fun c21 => ?_)
          ·
            refine a_aload_n C dX12_dropsOthers_35 (i := 0) rfl rfl ?_
            refine a_get C fl_RX12_110 (i := 236) kd_236 (hid 236 (by decide)) (v := .ref (ad 267)) rfl dX12_dropsOthers_36 ?_
            refine a_iload_n C dX12_dropsOthers_39 (i := 1) rfl rfl ?_
            refine s_iconst C dX12_dropsOthers_40 (2) (by decide) (fun z22 h23 => ?_)
            refine s_iast C (i := 267) kd_267 (hid 267 (by decide)) al_267 (by omega) (by omega) dX12_dropsOthers_41 (fun n24 h25 => ?_)
            have hG26 := wA_267 (v := z22) (j := n24) hGq2
            have hR27 := RKm.ony (σ1 := hI _ 267 n24 z22) hRq2 (onm.R (L := [267]) onm.rf (by decide) (by omega)) (by decide)
            refine a_aload_n C dX12_dropsOthers_42 (i := 0) rfl rfl ?_
            refine a_get C fl_RX12_110 (i := 236) kd_236 (hid 236 (by decide)) (v := .ref (ad 267)) rfl dX12_dropsOthers_43 ?_
            refine s_bipush C dX12_dropsOthers_46 (23) (by decide) (fun z28 h29 => ?_)
            refine a_dup2 C dX12_dropsOthers_48 rfl rfl ?_
            refine s_iald C (i := 267) kd_267 (hid 267 (by decide)) al_267 (by omega) (by omega) dX12_dropsOthers_49 (fun n30 h31 => ?_)
            refine s_val (fun z32 e33 => ?_)
            refine s_iconst C dX12_dropsOthers_50 (1) (by decide) (fun z34 h35 => ?_)
            refine s_iaddU C dX12_dropsOthers_51 (fun z36 => ?_)
            refine s_iast C (i := 267) kd_267 (hid 267 (by decide)) al_267 (by omega) (by omega) dX12_dropsOthers_52 (fun n38 h39 => ?_)
            obtain rfl : n38 = 23 := by omega
            have hG40 := wA_267 (v := z36) (j := 23) hG26
            have hR41 := RKm.ony (σ1 := hI _ 267 23 z36) hR27 (onm.R (L := [267]) onm.rf (by decide) (by omega)) (by decide)
            refine a_aload_n C dX12_dropsOthers_53 (i := 0) rfl rfl ?_
            refine s_iconst C dX12_dropsOthers_54 (1) (by decide) (fun z42 h43 => ?_)
            refine a_put C fp_RX12_344 (i := 236) kd_236 (hid 236 (by decide)) (nar_z (by omega)).1 (nar_z (by omega)).2 dX12_dropsOthers_55 ?_
            have hG44 := wF_236_52 (v := z42) hG40
            have hR45 := RKm.ony (σ1 := hI _ 236 52 z42) hR41 (onm.F (L := [1052]) onm.rf (by decide)) (by decide)
            exact j58 _ hG44 (onm.F (onm.R (onm.R hoq2 (by decide) (by omega)) (by decide) (by omega)) (by decide)) hR45 (by omega)
          ·
            refine a_goto C dX12_dropsOthers_32 (tgt := 58) rfl ?_
            exact j58 _ hGq2 hoq2 hRq2 (by omega)
  refine s_iconst C dX12_dropsOthers_0 (0) (by decide) (fun z46 h47 => ?_)
  refine a_istore_n C dX12_dropsOthers_1 (i := 1) rfl (by decide) rfl (vs1 := [some (.ref (ad 236)), some (.int z46)]) rfl ?_
  exact j2 100000 _ z46 (by omega) hG onm.rf hR (by omega)
theorem dX12_isThrown_0 : decode cX12_isThrown 0 = .ok (.aload_n 0, 1) := by decide +kernel
theorem dX12_isThrown_1 : decode cX12_isThrown 1 = .ok (.getfield 110, 3) := by decide +kernel
theorem dX12_isThrown_4 : decode cX12_isThrown 4 = .ok (.bipush 25, 2) := by decide +kernel
theorem dX12_isThrown_6 : decode cX12_isThrown 6 = .ok (.dup2, 1) := by decide +kernel
theorem dX12_isThrown_7 : decode cX12_isThrown 7 = .ok (.iaload, 1) := by decide +kernel
theorem dX12_isThrown_8 : decode cX12_isThrown 8 = .ok (.iload 4, 2) := by decide +kernel
theorem dX12_isThrown_10 : decode cX12_isThrown 10 = .ok (.iadd, 1) := by decide +kernel
theorem dX12_isThrown_11 : decode cX12_isThrown 11 = .ok (.iastore, 1) := by decide +kernel
theorem dX12_isThrown_12 : decode cX12_isThrown 12 = .ok (.aload_n 0, 1) := by decide +kernel
theorem dX12_isThrown_13 : decode cX12_isThrown 13 = .ok (.getfield 110, 3) := by decide +kernel
theorem dX12_isThrown_16 : decode cX12_isThrown 16 = .ok (.bipush 24, 2) := by decide +kernel
theorem dX12_isThrown_18 : decode cX12_isThrown 18 = .ok (.dup2, 1) := by decide +kernel
theorem dX12_isThrown_19 : decode cX12_isThrown 19 = .ok (.iaload, 1) := by decide +kernel
theorem dX12_isThrown_20 : decode cX12_isThrown 20 = .ok (.iconst 1, 1) := by decide +kernel
theorem dX12_isThrown_21 : decode cX12_isThrown 21 = .ok (.iadd, 1) := by decide +kernel
theorem dX12_isThrown_22 : decode cX12_isThrown 22 = .ok (.iastore, 1) := by decide +kernel
theorem dX12_isThrown_23 : decode cX12_isThrown 23 = .ok (.aload_n 0, 1) := by decide +kernel
theorem dX12_isThrown_24 : decode cX12_isThrown 24 = .ok (.getfield 110, 3) := by decide +kernel
theorem dX12_isThrown_27 : decode cX12_isThrown 27 = .ok (.bipush 14, 2) := by decide +kernel
theorem dX12_isThrown_29 : decode cX12_isThrown 29 = .ok (.iload_n 1, 1) := by decide +kernel
theorem dX12_isThrown_30 : decode cX12_isThrown 30 = .ok (.iadd, 1) := by decide +kernel
theorem dX12_isThrown_31 : decode cX12_isThrown 31 = .ok (.dup2, 1) := by decide +kernel
theorem dX12_isThrown_32 : decode cX12_isThrown 32 = .ok (.iaload, 1) := by decide +kernel
theorem dX12_isThrown_33 : decode cX12_isThrown 33 = .ok (.iconst 1, 1) := by decide +kernel
theorem dX12_isThrown_34 : decode cX12_isThrown 34 = .ok (.iadd, 1) := by decide +kernel
theorem dX12_isThrown_35 : decode cX12_isThrown 35 = .ok (.iastore, 1) := by decide +kernel
theorem dX12_isThrown_36 : decode cX12_isThrown 36 = .ok (.aload_n 0, 1) := by decide +kernel
theorem dX12_isThrown_37 : decode cX12_isThrown 37 = .ok (.getfield 110, 3) := by decide +kernel
theorem dX12_isThrown_40 : decode cX12_isThrown 40 = .ok (.bipush 22, 2) := by decide +kernel
theorem dX12_isThrown_42 : decode cX12_isThrown 42 = .ok (.aload_n 0, 1) := by decide +kernel
theorem dX12_isThrown_43 : decode cX12_isThrown 43 = .ok (.getfield 110, 3) := by decide +kernel
theorem dX12_isThrown_46 : decode cX12_isThrown 46 = .ok (.bipush 22, 2) := by decide +kernel
theorem dX12_isThrown_48 : decode cX12_isThrown 48 = .ok (.iaload, 1) := by decide +kernel
theorem dX12_isThrown_49 : decode cX12_isThrown 49 = .ok (.iload_n 3, 1) := by decide +kernel
theorem dX12_isThrown_50 : decode cX12_isThrown 50 = .ok (.iadd, 1) := by decide +kernel
theorem dX12_isThrown_51 : decode cX12_isThrown 51 = .ok (.iconst 0, 1) := by decide +kernel
theorem dX12_isThrown_52 : decode cX12_isThrown 52 = .ok (.sipush 999, 3) := by decide +kernel
theorem dX12_isThrown_55 : decode cX12_isThrown 55 = .ok (.invokestatic 338, 3) := by decide +kernel
theorem dX12_isThrown_58 : decode cX12_isThrown 58 = .ok (.iastore, 1) := by decide +kernel
theorem dX12_isThrown_59 : decode cX12_isThrown 59 = .ok (.iload_n 2, 1) := by decide +kernel
theorem dX12_isThrown_60 : decode cX12_isThrown 60 = .ok (.ifCond .ne 10, 3) := by decide +kernel
theorem dX12_isThrown_63 : decode cX12_isThrown 63 = .ok (.aload_n 0, 1) := by decide +kernel
theorem dX12_isThrown_64 : decode cX12_isThrown 64 = .ok (.getfield 110, 3) := by decide +kernel
theorem dX12_isThrown_67 : decode cX12_isThrown 67 = .ok (.iload_n 1, 1) := by decide +kernel
theorem dX12_isThrown_68 : decode cX12_isThrown 68 = .ok (.iconst 1, 1) := by decide +kernel
theorem dX12_isThrown_69 : decode cX12_isThrown 69 = .ok (.iastore, 1) := by decide +kernel
theorem dX12_isThrown_70 : decode cX12_isThrown 70 = .ok (.aload_n 0, 1) := by decide +kernel
theorem dX12_isThrown_71 : decode cX12_isThrown 71 = .ok (.getfield 110, 3) := by decide +kernel
theorem dX12_isThrown_74 : decode cX12_isThrown 74 = .ok (.bipush 7, 2) := by decide +kernel
theorem dX12_isThrown_76 : decode cX12_isThrown 76 = .ok (.iload_n 1, 1) := by decide +kernel
theorem dX12_isThrown_77 : decode cX12_isThrown 77 = .ok (.iadd, 1) := by decide +kernel
theorem dX12_isThrown_78 : decode cX12_isThrown 78 = .ok (.iload_n 2, 1) := by decide +kernel
theorem dX12_isThrown_79 : decode cX12_isThrown 79 = .ok (.iastore, 1) := by decide +kernel
theorem dX12_isThrown_80 : decode cX12_isThrown 80 = .ok (.return_, 1) := by decide +kernel
set_option maxHeartbeats 4000000 in
set_option maxRecDepth 100000 in
theorem S_X12_isThrown_236 {l : Launch} {D : va_G} {ids : List Nat} {ad : Nat → Nat} {ca : Nat → ClassId} {σ : HS} {x1 : Int32} {x2 : Int32} {x3 : Int32} {x4 : Int32} (hid : ∀ i, i < 277 → i ∈ ids) (hG : GIm σ) {b : Int} (hR : RKm b σ) (hx1 : 0 ≤ x1.toInt ∧ x1.toInt ≤ 6) : Kv l D ids ad ca yX12_isThrown cX12_isThrown 5 1 22 [.ref (ad 236), .int x1, .int x2, .int x3, .int x4] σ (fun σ1 => (GIm σ1) ∧ (onm [267] σ σ1) ∧ (RKm b σ1)) := by
  refine Kv.of (by decide) (Nat.le_of_ble_eq_true rfl) 0 (fun Γ C Rt => ?_)
  show AW ids ad ca Γ 0 [some (.ref (ad 236)), some (.int x1), some (.int x2), some (.int x3), some (.int x4)] [] σ
  have j70 : ∀ (σq70 : HS), GIm σq70 → onm [267] σ σq70 → RKm b σq70 → AW ids ad ca Γ 70 [some (.ref (ad 236)), some (.int x1), some (.int x2), none, none] [] σq70 := by
    intro σq70 hGq70 hoq70 hRq70
    refine a_aload_n C dX12_isThrown_70 (i := 0) rfl rfl ?_
    refine a_get C fl_RX12_110 (i := 236) kd_236 (hid 236 (by decide)) (v := .ref (ad 267)) rfl dX12_isThrown_71 ?_
    refine s_bipush C dX12_isThrown_74 (7) (by decide) (fun z1 h2 => ?_)
    refine a_iload_n C dX12_isThrown_76 (i := 1) rfl rfl ?_
    refine s_iadd C dX12_isThrown_77 (by omega) (fun z3 h4 => ?_)
    refine a_iload_n C dX12_isThrown_78 (i := 2) rfl rfl ?_
    refine s_iast C (i := 267) kd_267 (hid 267 (by decide)) al_267 (by omega) (by omega) dX12_isThrown_79 (fun n5 h6 => ?_)
    have hG7 := wA_267 (v := x2) (j := n5) hGq70
    have hR8 := RKm.ony (σ1 := hI _ 267 n5 x2) hRq70 (onm.R (L := [267]) onm.rf (by decide) (by omega)) (by decide)
    exact a_vret Rt dX12_isThrown_80 (⟨hG7, (onm.R hoq70 (by decide) (by omega)), hR8⟩)
  refine a_aload_n C dX12_isThrown_0 (i := 0) rfl rfl ?_
  refine a_get C fl_RX12_110 (i := 236) kd_236 (hid 236 (by decide)) (v := .ref (ad 267)) rfl dX12_isThrown_1 ?_
  refine s_bipush C dX12_isThrown_4 (25) (by decide) (fun z9 h10 => ?_)
  refine a_dup2 C dX12_isThrown_6 rfl rfl ?_
  refine s_iald C (i := 267) kd_267 (hid 267 (by decide)) al_267 (by omega) (by omega) dX12_isThrown_7 (fun n11 h12 => ?_)
  refine s_val (fun z13 e14 => ?_)
  refine a_iload C dX12_isThrown_8 rfl ?_
  refine s_iaddU C dX12_isThrown_10 (fun z15 => ?_)
  refine s_iast C (i := 267) kd_267 (hid 267 (by decide)) al_267 (by omega) (by omega) dX12_isThrown_11 (fun n17 h18 => ?_)
  obtain rfl : n17 = 25 := by omega
  have hG19 := wA_267 (v := z15) (j := 25) hG
  have hR20 := RKm.ony (σ1 := hI _ 267 25 z15) hR (onm.R (L := [267]) onm.rf (by decide) (by omega)) (by decide)
  refine a_aload_n C dX12_isThrown_12 (i := 0) rfl rfl ?_
  refine a_get C fl_RX12_110 (i := 236) kd_236 (hid 236 (by decide)) (v := .ref (ad 267)) rfl dX12_isThrown_13 ?_
  refine s_bipush C dX12_isThrown_16 (24) (by decide) (fun z21 h22 => ?_)
  refine a_dup2 C dX12_isThrown_18 rfl rfl ?_
  refine s_iald C (i := 267) kd_267 (hid 267 (by decide)) al_267 (by omega) (by omega) dX12_isThrown_19 (fun n23 h24 => ?_)
  refine s_val (fun z25 e26 => ?_)
  refine s_iconst C dX12_isThrown_20 (1) (by decide) (fun z27 h28 => ?_)
  refine s_iaddU C dX12_isThrown_21 (fun z29 => ?_)
  refine s_iast C (i := 267) kd_267 (hid 267 (by decide)) al_267 (by omega) (by omega) dX12_isThrown_22 (fun n31 h32 => ?_)
  obtain rfl : n31 = 24 := by omega
  have hG33 := wA_267 (v := z29) (j := 24) hG19
  have hR34 := RKm.ony (σ1 := hI _ 267 24 z29) hR20 (onm.R (L := [267]) onm.rf (by decide) (by omega)) (by decide)
  refine a_aload_n C dX12_isThrown_23 (i := 0) rfl rfl ?_
  refine a_get C fl_RX12_110 (i := 236) kd_236 (hid 236 (by decide)) (v := .ref (ad 267)) rfl dX12_isThrown_24 ?_
  refine s_bipush C dX12_isThrown_27 (14) (by decide) (fun z35 h36 => ?_)
  refine a_iload_n C dX12_isThrown_29 (i := 1) rfl rfl ?_
  refine s_iadd C dX12_isThrown_30 (by omega) (fun z37 h38 => ?_)
  refine a_dup2 C dX12_isThrown_31 rfl rfl ?_
  refine s_iald C (i := 267) kd_267 (hid 267 (by decide)) al_267 (by omega) (by omega) dX12_isThrown_32 (fun n39 h40 => ?_)
  refine s_val (fun z41 e42 => ?_)
  refine s_iconst C dX12_isThrown_33 (1) (by decide) (fun z43 h44 => ?_)
  refine s_iaddU C dX12_isThrown_34 (fun z45 => ?_)
  refine s_iast C (i := 267) kd_267 (hid 267 (by decide)) al_267 (by omega) (by omega) dX12_isThrown_35 (fun n47 h48 => ?_)
  have hG49 := wA_267 (v := z45) (j := n47) hG33
  have hR50 := RKm.ony (σ1 := hI _ 267 n47 z45) hR34 (onm.R (L := [267]) onm.rf (by decide) (by omega)) (by decide)
  refine a_aload_n C dX12_isThrown_36 (i := 0) rfl rfl ?_
  refine a_get C fl_RX12_110 (i := 236) kd_236 (hid 236 (by decide)) (v := .ref (ad 267)) rfl dX12_isThrown_37 ?_
  refine s_bipush C dX12_isThrown_40 (22) (by decide) (fun z51 h52 => ?_)
  refine a_aload_n C dX12_isThrown_42 (i := 0) rfl rfl ?_
  refine a_get C fl_RX12_110 (i := 236) kd_236 (hid 236 (by decide)) (v := .ref (ad 267)) rfl dX12_isThrown_43 ?_
  refine s_bipush C dX12_isThrown_46 (22) (by decide) (fun z53 h54 => ?_)
  refine s_iald C (i := 267) kd_267 (hid 267 (by decide)) al_267 (by omega) (by omega) dX12_isThrown_48 (fun n55 h56 => ?_)
  refine s_val (fun z57 e58 => ?_)
  refine a_iload_n C dX12_isThrown_49 (i := 3) rfl rfl ?_
  refine s_iaddU C dX12_isThrown_50 (fun z59 => ?_)
  refine s_iconst C dX12_isThrown_51 (0) (by decide) (fun z61 h62 => ?_)
  refine s_sipush C dX12_isThrown_52 (999) (by decide) (fun z63 h64 => ?_)
  refine a_callSi C (S_X12_held (x1 := z59) (x2 := z61) (x3 := z63) hid hG49) ms_X12_held ml_RX12_338 rfl rfl (Nat.le_of_ble_eq_true rfl) (Nat.le_of_ble_eq_true rfl) (Nat.le_of_ble_eq_true rfl) dX12_isThrown_55 (fun z65 σ66 q67 => ?_)
  obtain ⟨w68, w69⟩ := q67
  rw [w68]
  refine s_iast C (i := 267) kd_267 (hid 267 (by decide)) al_267 (by omega) (by omega) dX12_isThrown_58 (fun n70 h71 => ?_)
  obtain rfl : n70 = 22 := by omega
  have hG72 := wA_267 (v := z65) (j := 22) hG49
  have hR73 := RKm.ony (σ1 := hI _ 267 22 z65) hR50 (onm.R (L := [267]) onm.rf (by decide) (by omega)) (by decide)
  refine a_iload_n C dX12_isThrown_59 (i := 2) rfl rfl ?_
  refine s_if_ne C dX12_isThrown_60 (tgt := 70) rfl (fun c74 => ?_) (fun c74 => ?_)
  ·
    refine AW.sub (vs' := [some (.ref (ad 236)), some (.int x1), some (.int x2), none, none]) (lsub_of (by simp [lsubB])) ?_
    exact j70 _ hG72 (onm.R (onm.R (onm.R (onm.R onm.rf (by decide) (by omega)) (by decide) (by omega)) (by decide) (by omega)) (by decide) (by omega)) hR73
  ·
    refine a_aload_n C dX12_isThrown_63 (i := 0) rfl rfl ?_
    refine a_get C fl_RX12_110 (i := 236) kd_236 (hid 236 (by decide)) (v := .ref (ad 267)) rfl dX12_isThrown_64 ?_
    refine a_iload_n C dX12_isThrown_67 (i := 1) rfl rfl ?_
    refine s_iconst C dX12_isThrown_68 (1) (by decide) (fun z75 h76 => ?_)
    refine s_iast C (i := 267) kd_267 (hid 267 (by decide)) al_267 (by omega) (by omega) dX12_isThrown_69 (fun n77 h78 => ?_)
    have hG79 := wA_267 (v := z75) (j := n77) hG72
    have hR80 := RKm.ony (σ1 := hI _ 267 n77 z75) hR73 (onm.R (L := [267]) onm.rf (by decide) (by omega)) (by decide)
    refine AW.sub (vs' := [some (.ref (ad 236)), some (.int x1), some (.int x2), none, none]) (lsub_of (by simp [lsubB])) ?_
    exact j70 _ hG79 (onm.R (onm.R (onm.R (onm.R (onm.R onm.rf (by decide) (by omega)) (by decide) (by omega)) (by decide) (by omega)) (by decide) (by omega)) (by decide) (by omega)) hR80
theorem dX12_catches_0 : decode cX12_catches 0 = .ok (.aload_n 0, 1) := by decide +kernel
theorem dX12_catches_1 : decode cX12_catches 1 = .ok (.invokevirtual 347, 3) := by decide +kernel
theorem dX12_catches_4 : decode cX12_catches 4 = .ok (.istore_n 2, 1) := by decide +kernel
theorem dX12_catches_5 : decode cX12_catches 5 = .ok (.aload_n 0, 1) := by decide +kernel
theorem dX12_catches_6 : decode cX12_catches 6 = .ok (.iconst 0, 1) := by decide +kernel
theorem dX12_catches_7 : decode cX12_catches 7 = .ok (.invokevirtual 350, 3) := by decide +kernel
theorem dX12_catches_10 : decode cX12_catches 10 = .ok (.invokestatic 353, 3) := by decide +kernel
theorem dX12_catches_13 : decode cX12_catches 13 = .ok (.istore_n 3, 1) := by decide +kernel
theorem dX12_catches_14 : decode cX12_catches 14 = .ok (.aload_n 0, 1) := by decide +kernel
theorem dX12_catches_15 : decode cX12_catches 15 = .ok (.iload_n 1, 1) := by decide +kernel
theorem dX12_catches_16 : decode cX12_catches 16 = .ok (.iload_n 2, 1) := by decide +kernel
theorem dX12_catches_17 : decode cX12_catches 17 = .ok (.iload_n 3, 1) := by decide +kernel
theorem dX12_catches_18 : decode cX12_catches 18 = .ok (.invokevirtual 356, 3) := by decide +kernel
theorem dX12_catches_21 : decode cX12_catches 21 = .ok (.istore 4, 2) := by decide +kernel
theorem dX12_catches_23 : decode cX12_catches 23 = .ok (.aload_n 0, 1) := by decide +kernel
theorem dX12_catches_24 : decode cX12_catches 24 = .ok (.iload_n 1, 1) := by decide +kernel
theorem dX12_catches_25 : decode cX12_catches 25 = .ok (.iload_n 3, 1) := by decide +kernel
theorem dX12_catches_26 : decode cX12_catches 26 = .ok (.invokevirtual 359, 3) := by decide +kernel
theorem dX12_catches_29 : decode cX12_catches 29 = .ok (.istore 5, 2) := by decide +kernel
theorem dX12_catches_31 : decode cX12_catches 31 = .ok (.aload_n 0, 1) := by decide +kernel
theorem dX12_catches_32 : decode cX12_catches 32 = .ok (.aload_n 0, 1) := by decide +kernel
theorem dX12_catches_33 : decode cX12_catches 33 = .ok (.iload_n 1, 1) := by decide +kernel
theorem dX12_catches_34 : decode cX12_catches 34 = .ok (.iload_n 3, 1) := by decide +kernel
theorem dX12_catches_35 : decode cX12_catches 35 = .ok (.invokevirtual 362, 3) := by decide +kernel
theorem dX12_catches_38 : decode cX12_catches 38 = .ok (.putfield 365, 3) := by decide +kernel
theorem dX12_catches_41 : decode cX12_catches 41 = .ok (.aload_n 0, 1) := by decide +kernel
theorem dX12_catches_42 : decode cX12_catches 42 = .ok (.getfield 308, 3) := by decide +kernel
theorem dX12_catches_45 : decode cX12_catches 45 = .ok (.ifCond .ne 36, 3) := by decide +kernel
theorem dX12_catches_48 : decode cX12_catches 48 = .ok (.aload_n 0, 1) := by decide +kernel
theorem dX12_catches_49 : decode cX12_catches 49 = .ok (.invokevirtual 368, 3) := by decide +kernel
theorem dX12_catches_52 : decode cX12_catches 52 = .ok (.aload_n 0, 1) := by decide +kernel
theorem dX12_catches_53 : decode cX12_catches 53 = .ok (.iload_n 1, 1) := by decide +kernel
theorem dX12_catches_54 : decode cX12_catches 54 = .ok (.iload_n 2, 1) := by decide +kernel
theorem dX12_catches_55 : decode cX12_catches 55 = .ok (.iload_n 3, 1) := by decide +kernel
theorem dX12_catches_56 : decode cX12_catches 56 = .ok (.invokevirtual 371, 3) := by decide +kernel
theorem dX12_catches_59 : decode cX12_catches 59 = .ok (.if_icmp .ge 22, 3) := by decide +kernel
theorem dX12_catches_62 : decode cX12_catches 62 = .ok (.aload_n 0, 1) := by decide +kernel
theorem dX12_catches_63 : decode cX12_catches 63 = .ok (.getfield 110, 3) := by decide +kernel
theorem dX12_catches_66 : decode cX12_catches 66 = .ok (.iload_n 1, 1) := by decide +kernel
theorem dX12_catches_67 : decode cX12_catches 67 = .ok (.iconst 2, 1) := by decide +kernel
theorem dX12_catches_68 : decode cX12_catches 68 = .ok (.iastore, 1) := by decide +kernel
theorem dX12_catches_69 : decode cX12_catches 69 = .ok (.aload_n 0, 1) := by decide +kernel
theorem dX12_catches_70 : decode cX12_catches 70 = .ok (.getfield 110, 3) := by decide +kernel
theorem dX12_catches_73 : decode cX12_catches 73 = .ok (.bipush 23, 2) := by decide +kernel
theorem dX12_catches_75 : decode cX12_catches 75 = .ok (.dup2, 1) := by decide +kernel
theorem dX12_catches_76 : decode cX12_catches 76 = .ok (.iaload, 1) := by decide +kernel
theorem dX12_catches_77 : decode cX12_catches 77 = .ok (.iconst 1, 1) := by decide +kernel
theorem dX12_catches_78 : decode cX12_catches 78 = .ok (.iadd, 1) := by decide +kernel
theorem dX12_catches_79 : decode cX12_catches 79 = .ok (.iastore, 1) := by decide +kernel
theorem dX12_catches_80 : decode cX12_catches 80 = .ok (.return_, 1) := by decide +kernel
theorem dX12_catches_81 : decode cX12_catches 81 = .ok (.aload_n 0, 1) := by decide +kernel
theorem dX12_catches_82 : decode cX12_catches 82 = .ok (.iload_n 1, 1) := by decide +kernel
theorem dX12_catches_83 : decode cX12_catches 83 = .ok (.iload_n 2, 1) := by decide +kernel
theorem dX12_catches_84 : decode cX12_catches 84 = .ok (.iload 4, 2) := by decide +kernel
theorem dX12_catches_86 : decode cX12_catches 86 = .ok (.iload 5, 2) := by decide +kernel
theorem dX12_catches_88 : decode cX12_catches 88 = .ok (.invokevirtual 374, 3) := by decide +kernel
theorem dX12_catches_91 : decode cX12_catches 91 = .ok (.return_, 1) := by decide +kernel
set_option maxHeartbeats 4000000 in
set_option maxRecDepth 100000 in
theorem S_X12_catches_236 {l : Launch} {D : va_G} {ids : List Nat} {ad : Nat → Nat} {ca : Nat → ClassId} {σ : HS} {x1 : Int32} (hid : ∀ i, i < 277 → i ∈ ids) (hG : GIm σ) {b : Int} (hR : RKm b σ) (hx1 : 0 ≤ x1.toInt ∧ x1.toInt ≤ 6) : Kv l D ids ad ca yX12_catches cX12_catches 6 3 76 [.ref (ad 236), .int x1] σ (fun σ1 => (GIm σ1) ∧ (onm [264, 265, 267, 1046, 1053] σ σ1) ∧ (RKm b σ1)) := by
  refine Kv.of (by decide) (Nat.le_of_ble_eq_true rfl) 4 (fun Γ C Rt => ?_)
  show AW ids ad ca Γ 0 [some (.ref (ad 236)), some (.int x1), none, none, none, none] [] σ
  have j81 : ∀ (σq81 : HS) (y81_2 : Int32) (y81_4 : Int32) (y81_5 : Int32), GIm σq81 → onm [264, 265, 267, 1046, 1053] σ σq81 → RKm b σq81 → AW ids ad ca Γ 81 [some (.ref (ad 236)), some (.int x1), some (.int y81_2), none, some (.int y81_4), some (.int y81_5)] [] σq81 := by
    intro σq81 y81_2 y81_4 y81_5 hGq81 hoq81 hRq81
    refine a_aload_n C dX12_catches_81 (i := 0) rfl rfl ?_
    refine a_iload_n C dX12_catches_82 (i := 1) rfl rfl ?_
    refine a_iload_n C dX12_catches_83 (i := 2) rfl rfl ?_
    refine a_iload C dX12_catches_84 rfl ?_
    refine a_iload C dX12_catches_86 rfl ?_
    refine a_callVv C (i := 236) kd_236 (hid 236 (by decide)) ⟨_, _, rfl⟩ (by decide) (S_X12_isThrown_236 (x1 := x1) (x2 := y81_2) (x3 := y81_4) (x4 := y81_5) hid hGq81 hRq81 (by omega)) mi_X12_isThrown ml_RX12_374 rfl rfl (Nat.le_of_ble_eq_true rfl) (Nat.le_of_ble_eq_true rfl) (Nat.le_of_ble_eq_true rfl) dX12_catches_88 (fun σ2 q3 => ?_)
    obtain ⟨hG4, ho5, hR6⟩ := q3
    exact a_vret Rt dX12_catches_91 (⟨hG4, (onm.tr hoq81 (onm.mono ho5 (by decide))), hR6⟩)
  refine a_aload_n C dX12_catches_0 (i := 0) rfl rfl ?_
  refine a_callVi C (i := 236) kd_236 (hid 236 (by decide)) ⟨_, _, rfl⟩ (by decide) (S_X12_heightNow_236 hid hG hR) mi_X12_heightNow ml_RX12_347 rfl rfl (Nat.le_of_ble_eq_true rfl) (Nat.le_of_ble_eq_true rfl) (Nat.le_of_ble_eq_true rfl) dX12_catches_1 (fun z7 σ8 q9 => ?_)
  rw [q9]
  refine a_istore_n C dX12_catches_4 (i := 2) rfl (by decide) rfl (vs1 := [some (.ref (ad 236)), some (.int x1), some (.int z7), none, none, none]) rfl ?_
  refine a_aload_n C dX12_catches_5 (i := 0) rfl rfl ?_
  refine s_iconst C dX12_catches_6 (0) (by decide) (fun z10 h11 => ?_)
  refine a_callVi C (i := 236) kd_236 (hid 236 (by decide)) ⟨_, _, rfl⟩ (by decide) (S_X12_thingsSo_236 (x1 := z10) hid hG) mi_X12_thingsSo ml_RX12_350 rfl rfl (Nat.le_of_ble_eq_true rfl) (Nat.le_of_ble_eq_true rfl) (Nat.le_of_ble_eq_true rfl) dX12_catches_7 (fun z12 σ13 q14 => ?_)
  rw [q14]
  refine a_callSi C (S_X12_bits (x1 := z12) hid hG) ms_X12_bits ml_RX12_353 rfl rfl (Nat.le_of_ble_eq_true rfl) (Nat.le_of_ble_eq_true rfl) (Nat.le_of_ble_eq_true rfl) dX12_catches_10 (fun z15 σ16 q17 => ?_)
  rw [q17]
  refine a_istore_n C dX12_catches_13 (i := 3) rfl (by decide) rfl (vs1 := [some (.ref (ad 236)), some (.int x1), some (.int z7), some (.int z15), none, none]) rfl ?_
  refine a_aload_n C dX12_catches_14 (i := 0) rfl rfl ?_
  refine a_iload_n C dX12_catches_15 (i := 1) rfl rfl ?_
  refine a_iload_n C dX12_catches_16 (i := 2) rfl rfl ?_
  refine a_iload_n C dX12_catches_17 (i := 3) rfl rfl ?_
  refine a_callVi C (i := 236) kd_236 (hid 236 (by decide)) ⟨_, _, rfl⟩ (by decide) (S_X12_tiresBy_236 (x1 := x1) (x2 := z7) (x3 := z15) hid hG hR (by omega)) mi_X12_tiresBy ml_RX12_356 rfl rfl (Nat.le_of_ble_eq_true rfl) (Nat.le_of_ble_eq_true rfl) (Nat.le_of_ble_eq_true rfl) dX12_catches_18 (fun z18 σ19 q20 => ?_)
  obtain ⟨hG21, ho22, hR23⟩ := q20
  refine a_istore C dX12_catches_21 (by decide) rfl (vs1 := [some (.ref (ad 236)), some (.int x1), some (.int z7), some (.int z15), some (.int z18), none]) rfl ?_
  refine a_aload_n C dX12_catches_23 (i := 0) rfl rfl ?_
  refine a_iload_n C dX12_catches_24 (i := 1) rfl rfl ?_
  refine a_iload_n C dX12_catches_25 (i := 3) rfl rfl ?_
  refine a_callVi C (i := 236) kd_236 (hid 236 (by decide)) ⟨_, _, rfl⟩ (by decide) (S_X12_paysOf_236 (x1 := x1) (x2 := z15) hid hG21 hR23 (by omega)) mi_X12_paysOf ml_RX12_359 rfl rfl (Nat.le_of_ble_eq_true rfl) (Nat.le_of_ble_eq_true rfl) (Nat.le_of_ble_eq_true rfl) dX12_catches_26 (fun z24 σ25 q26 => ?_)
  obtain ⟨hG27, ho28, hR29⟩ := q26
  refine a_istore C dX12_catches_29 (by decide) rfl (vs1 := [some (.ref (ad 236)), some (.int x1), some (.int z7), some (.int z15), some (.int z18), some (.int z24)]) rfl ?_
  refine a_aload_n C dX12_catches_31 (i := 0) rfl rfl ?_
  refine a_aload_n C dX12_catches_32 (i := 0) rfl rfl ?_
  refine a_iload_n C dX12_catches_33 (i := 1) rfl rfl ?_
  refine a_iload_n C dX12_catches_34 (i := 3) rfl rfl ?_
  refine a_callVi C (i := 236) kd_236 (hid 236 (by decide)) ⟨_, _, rfl⟩ (by decide) (S_X12_forceOf_236 (x1 := x1) (x2 := z15) hid hG27 hR29 (by omega)) mi_X12_forceOf ml_RX12_362 rfl rfl (Nat.le_of_ble_eq_true rfl) (Nat.le_of_ble_eq_true rfl) (Nat.le_of_ble_eq_true rfl) dX12_catches_35 (fun z30 σ31 q32 => ?_)
  obtain ⟨hG33, ho34, hR35⟩ := q32
  refine a_put C fp_RX12_365 (i := 236) kd_236 (hid 236 (by decide)) rfl rfl dX12_catches_38 ?_
  have hG36 := wF_236_53 (v := z30) hG33
  have hR37 := RKm.ony (σ1 := hI _ 236 53 z30) hR35 (onm.F (L := [1053]) onm.rf (by decide)) (by decide)
  refine a_aload_n C dX12_catches_41 (i := 0) rfl rfl ?_
  have g38 : (σ19.1 236 50).toInt = (σ.1 236 50).toInt := congrArg Int32.toInt (ho22.1 236 50 (by decide))
  have g39 : (σ25.1 236 50).toInt = (σ19.1 236 50).toInt := congrArg Int32.toInt (ho28.1 236 50 (by decide))
  have g40 : (σ31.1 236 50).toInt = (σ25.1 236 50).toInt := congrArg Int32.toInt (ho34.1 236 50 (by decide))
  refine a_get C fl_RX12_308 (i := 236) kd_236 (hid 236 (by decide)) (v := .int (σ31.1 236 50)) rfl dX12_catches_42 ?_
  refine s_if_ne C dX12_catches_45 (tgt := 81) rfl (fun c41 => ?_) (fun c41 => ?_)
  ·
    refine AW.sub (vs' := [some (.ref (ad 236)), some (.int x1), some (.int z7), none, some (.int z18), some (.int z24)]) (lsub_of (by simp [lsubB])) ?_
    exact j81 _ z7 z18 z24 hG36 (onm.F (onm.tr (onm.tr (onm.tr onm.rf (onm.mono ho22 (by decide))) (onm.mono ho28 (by decide))) (onm.mono ho34 (by decide))) (by decide)) hR37
  ·
    refine a_aload_n C dX12_catches_48 (i := 0) rfl rfl ?_
    refine a_callVi C (i := 236) kd_236 (hid 236 (by decide)) ⟨_, _, rfl⟩ (by decide) (S_X12_lotNow_236 hid hG36) mi_X12_lotNow ml_RX12_368 rfl rfl (Nat.le_of_ble_eq_true rfl) (Nat.le_of_ble_eq_true rfl) (Nat.le_of_ble_eq_true rfl) dX12_catches_49 (fun z42 σ43 q44 => ?_)
    rw [q44]
    refine a_aload_n C dX12_catches_52 (i := 0) rfl rfl ?_
    refine a_iload_n C dX12_catches_53 (i := 1) rfl rfl ?_
    refine a_iload_n C dX12_catches_54 (i := 2) rfl rfl ?_
    refine a_iload_n C dX12_catches_55 (i := 3) rfl rfl ?_
    refine a_callVi C (i := 236) kd_236 (hid 236 (by decide)) ⟨_, _, rfl⟩ (by decide) (S_X12_dropsBy_236 (x1 := x1) (x2 := z7) (x3 := z15) hid hG36 hR37 (by omega)) mi_X12_dropsBy ml_RX12_371 rfl rfl (Nat.le_of_ble_eq_true rfl) (Nat.le_of_ble_eq_true rfl) (Nat.le_of_ble_eq_true rfl) dX12_catches_56 (fun z45 σ46 q47 => ?_)
    obtain ⟨hG48, ho49, hR50⟩ := q47
    refine s_ic_ge C dX12_catches_59 (tgt := 81) rfl (fun c51 => ?_) (fun c51 => ?_)
    ·
      refine AW.sub (vs' := [some (.ref (ad 236)), some (.int x1), some (.int z7), none, some (.int z18), some (.int z24)]) (lsub_of (by simp [lsubB])) ?_
      exact j81 _ z7 z18 z24 hG48 (onm.tr (onm.F (onm.tr (onm.tr (onm.tr onm.rf (onm.mono ho22 (by decide))) (onm.mono ho28 (by decide))) (onm.mono ho34 (by decide))) (by decide)) (onm.mono ho49 (by decide))) hR50
    ·
      refine a_aload_n C dX12_catches_62 (i := 0) rfl rfl ?_
      refine a_get C fl_RX12_110 (i := 236) kd_236 (hid 236 (by decide)) (v := .ref (ad 267)) rfl dX12_catches_63 ?_
      refine a_iload_n C dX12_catches_66 (i := 1) rfl rfl ?_
      refine s_iconst C dX12_catches_67 (2) (by decide) (fun z52 h53 => ?_)
      refine s_iast C (i := 267) kd_267 (hid 267 (by decide)) al_267 (by omega) (by omega) dX12_catches_68 (fun n54 h55 => ?_)
      have hG56 := wA_267 (v := z52) (j := n54) hG48
      have hR57 := RKm.ony (σ1 := hI _ 267 n54 z52) hR50 (onm.R (L := [267]) onm.rf (by decide) (by omega)) (by decide)
      refine a_aload_n C dX12_catches_69 (i := 0) rfl rfl ?_
      refine a_get C fl_RX12_110 (i := 236) kd_236 (hid 236 (by decide)) (v := .ref (ad 267)) rfl dX12_catches_70 ?_
      refine s_bipush C dX12_catches_73 (23) (by decide) (fun z58 h59 => ?_)
      refine a_dup2 C dX12_catches_75 rfl rfl ?_
      refine s_iald C (i := 267) kd_267 (hid 267 (by decide)) al_267 (by omega) (by omega) dX12_catches_76 (fun n60 h61 => ?_)
      refine s_val (fun z62 e63 => ?_)
      refine s_iconst C dX12_catches_77 (1) (by decide) (fun z64 h65 => ?_)
      refine s_iaddU C dX12_catches_78 (fun z66 => ?_)
      refine s_iast C (i := 267) kd_267 (hid 267 (by decide)) al_267 (by omega) (by omega) dX12_catches_79 (fun n68 h69 => ?_)
      obtain rfl : n68 = 23 := by omega
      have hG70 := wA_267 (v := z66) (j := 23) hG56
      have hR71 := RKm.ony (σ1 := hI _ 267 23 z66) hR57 (onm.R (L := [267]) onm.rf (by decide) (by omega)) (by decide)
      exact a_vret Rt dX12_catches_80 (⟨hG70, (onm.R (onm.R (onm.tr (onm.F (onm.tr (onm.tr (onm.tr onm.rf (onm.mono ho22 (by decide))) (onm.mono ho28 (by decide))) (onm.mono ho34 (by decide))) (by decide)) (onm.mono ho49 (by decide))) (by decide) (by omega)) (by decide) (by omega)), hR71⟩)
theorem dX12_beatGoes_59 : decode cX12_beatGoes 59 = .ok (.aload_n 0, 1) := by decide +kernel
theorem dX12_beatGoes_60 : decode cX12_beatGoes 60 = .ok (.invokevirtual 381, 3) := by decide +kernel
theorem dX12_beatGoes_63 : decode cX12_beatGoes 63 = .ok (.aload_n 0, 1) := by decide +kernel
theorem dX12_beatGoes_64 : decode cX12_beatGoes 64 = .ok (.aload_n 0, 1) := by decide +kernel
theorem dX12_beatGoes_65 : decode cX12_beatGoes 65 = .ok (.getfield 341, 3) := by decide +kernel
theorem dX12_beatGoes_68 : decode cX12_beatGoes 68 = .ok (.invokevirtual 384, 3) := by decide +kernel
theorem dX12_beatGoes_86 : decode cX12_beatGoes 86 = .ok (.aload_n 0, 1) := by decide +kernel
theorem dX12_beatGoes_87 : decode cX12_beatGoes 87 = .ok (.getfield 110, 3) := by decide +kernel
theorem dX12_beatGoes_90 : decode cX12_beatGoes 90 = .ok (.iload_n 1, 1) := by decide +kernel
theorem dX12_beatGoes_91 : decode cX12_beatGoes 91 = .ok (.iaload, 1) := by decide +kernel
theorem dX12_beatGoes_92 : decode cX12_beatGoes 92 = .ok (.ifCond .ne 16, 3) := by decide +kernel
theorem dX12_beatGoes_95 : decode cX12_beatGoes 95 = .ok (.aload_n 0, 1) := by decide +kernel
theorem dX12_beatGoes_96 : decode cX12_beatGoes 96 = .ok (.getfield 110, 3) := by decide +kernel
theorem dX12_beatGoes_99 : decode cX12_beatGoes 99 = .ok (.bipush 7, 2) := by decide +kernel
theorem dX12_beatGoes_101 : decode cX12_beatGoes 101 = .ok (.iload_n 1, 1) := by decide +kernel
theorem dX12_beatGoes_102 : decode cX12_beatGoes 102 = .ok (.iadd, 1) := by decide +kernel
theorem dX12_beatGoes_103 : decode cX12_beatGoes 103 = .ok (.dup2, 1) := by decide +kernel
theorem dX12_beatGoes_104 : decode cX12_beatGoes 104 = .ok (.iaload, 1) := by decide +kernel
theorem dX12_beatGoes_105 : decode cX12_beatGoes 105 = .ok (.iconst 1, 1) := by decide +kernel
theorem dX12_beatGoes_106 : decode cX12_beatGoes 106 = .ok (.isub, 1) := by decide +kernel
theorem dX12_beatGoes_107 : decode cX12_beatGoes 107 = .ok (.iastore, 1) := by decide +kernel
theorem dX12_beatGoes_108 : decode cX12_beatGoes 108 = .ok (.iinc 1 1, 3) := by decide +kernel
theorem dX12_beatGoes_111 : decode cX12_beatGoes 111 = .ok (.goto (-38), 3) := by decide +kernel
set_option maxHeartbeats 4000000 in
set_option maxRecDepth 100000 in
theorem S_X12_beatGoes_236 {l : Launch} {D : va_G} {ids : List Nat} {ad : Nat → Nat} {ca : Nat → ClassId} {σ : HS} (hid : ∀ i, i < 277 → i ∈ ids) (hG : GIm σ) {b : Int} (hR : RKm b σ) (hp0 : (σ.1 267 21).toInt ≤ b + 299) : Kv l D ids ad ca yX12_beatGoes cX12_beatGoes 2 4 101 [.ref (ad 236)] σ (fun σ1 => (GIm σ1) ∧ (onm [264, 265, 267, 1046, 1051, 1052, 1053, 2021] σ σ1) ∧ (RKm b σ1) ∧ ((σ1.1 267 21).toInt = (σ.1 267 21).toInt + 1)) := by
  refine Kv.of (by decide) (Nat.le_of_ble_eq_true rfl) 1 (fun Γ C Rt => ?_)
  show AW ids ad ca Γ 0 [some (.ref (ad 236)), none] [] σ
  have j73 : ∀ (d73 : Nat) (σq73 : HS) (y73_1 : Int32), 7 - y73_1.toInt < d73 → GIm σq73 → onm [264, 265, 267, 1046, 1051, 1052, 1053, 2021] σ σq73 → RKm b σq73 → 0 ≤ y73_1.toInt ∧ y73_1.toInt ≤ 7 → ((σq73.1 267 21).toInt = (σ.1 267 21).toInt) → AW ids ad ca Γ 73 [some (.ref (ad 236)), some (.int y73_1)] [] σq73 := by
    intro d73
    induction d73 with
    | zero =>
      intro σq73 y73_1 hd73 hGq73 hoq73 hRq73 hx73_0 hx73_1
      exfalso
      omega
    | succ d73 ih73 =>
      intro σq73 y73_1 hd73 hGq73 hoq73 hRq73 hx73_0 hx73_1
      have j108 : ∀ (σq108 : HS), GIm σq108 → onm [264, 265, 267, 1046, 1051, 1052, 1053, 2021] σ σq108 → RKm b σq108 → 0 ≤ y73_1.toInt ∧ y73_1.toInt ≤ 6 → ((σq108.1 267 21).toInt = (σ.1 267 21).toInt) → AW ids ad ca Γ 108 [some (.ref (ad 236)), some (.int y73_1)] [] σq108 := by
        intro σq108 hGq108 hoq108 hRq108 hx108_0 hx108_1
        refine s_iinc C dX12_beatGoes_108 rfl (1) (by decide) (by omega) (by decide) rfl (fun z1 h2 => ?_)
        show AW ids ad ca Γ 111 [some (.ref (ad 236)), some (.int z1)] _ _
        refine a_goto C dX12_beatGoes_111 (tgt := 73) rfl ?_
        exact ih73 _ z1 (by omega) hGq108 hoq108 hRq108 (by omega) (show (σq108.1 267 21).toInt = (σ.1 267 21).toInt by omega)
      refine a_iload_n C dX12_beatGoes_73 (i := 1) rfl rfl ?_
      refine a_aload_n C dX12_beatGoes_74 (i := 0) rfl rfl ?_
      refine a_get C fl_RX12_43 (i := 236) kd_236 (hid 236 (by decide)) (v := .ref (ad 245)) rfl dX12_beatGoes_75 ?_
      refine a_aload_n C dX12_beatGoes_78 (i := 0) rfl rfl ?_
      have g3 := bF_236_18 hGq73
      have g4 : (σq73.1 236 18).toInt = (σ.1 236 18).toInt := congrArg Int32.toInt (hoq73.1 236 18 (by decide))
      refine a_get C fl_RX12_221 (i := 236) kd_236 (hid 236 (by decide)) (v := .int (σq73.1 236 18)) rfl dX12_beatGoes_79 ?_
      refine s_iald C (i := 245) kd_245 (hid 245 (by decide)) al_245 (by omega) (by omega) dX12_beatGoes_82 (fun n5 h6 => ?_)
      refine s_val (fun z7 e8 => ?_)
      have g9 := bA_245 hGq73 n5
      rw [e8] at g9
      refine s_ic_ge C dX12_beatGoes_83 (tgt := 114) rfl (fun c10 => ?_) (fun c10 => ?_)
      ·
        refine a_aload_n C dX12_beatGoes_114 (i := 0) rfl rfl ?_
        refine a_get C fl_RX12_110 (i := 236) kd_236 (hid 236 (by decide)) (v := .ref (ad 267)) rfl dX12_beatGoes_115 ?_
        refine s_bipush C dX12_beatGoes_118 (21) (by decide) (fun z11 h12 => ?_)
        refine a_dup2 C dX12_beatGoes_120 rfl rfl ?_
        refine s_iald C (i := 267) kd_267 (hid 267 (by decide)) al_267 (by omega) (by omega) dX12_beatGoes_121 (fun n13 h14 => ?_)
        refine s_val (fun z15 e16 => ?_)
        obtain rfl : n13 = 21 := by omega
        have g17 : z15.toInt = (σq73.1 267 21).toInt := congrArg Int32.toInt (e16.symm.trans (rfl : _ = (σq73.1 267 21)))
        have g18 := RKm.row hRq73
        rw [e16] at g18
        have g19 := pl_le hGq73
        refine s_iconst C dX12_beatGoes_122 (1) (by decide) (fun z20 h21 => ?_)
        refine s_iadd C dX12_beatGoes_123 (by omega) (fun z22 h23 => ?_)
        refine s_iast C (i := 267) kd_267 (hid 267 (by decide)) al_267 (by omega) (by omega) dX12_beatGoes_124 (fun n24 h25 => ?_)
        obtain rfl : n24 = 21 := by omega
        have hG26 := wA_267 (v := z22) (j := 21) hGq73
        have hR27 := RKm.s21 (v := z22) hRq73 (by rw [(rfl : _ = (σq73.1 267 21))]; omega) (by omega)
        refine a_aload_n C dX12_beatGoes_125 (i := 0) rfl rfl ?_
        refine a_get C fl_RX12_110 (i := 236) kd_236 (hid 236 (by decide)) (v := .ref (ad 267)) rfl dX12_beatGoes_126 ?_
        refine s_bipush C dX12_beatGoes_129 (28) (by decide) (fun z28 h29 => ?_)
        refine s_iconst C dX12_beatGoes_131 (-1) (by decide) (fun z30 h31 => ?_)
        refine s_iast C (i := 267) kd_267 (hid 267 (by decide)) al_267 (by omega) (by omega) dX12_beatGoes_132 (fun n32 h33 => ?_)
        obtain rfl : n32 = 28 := by omega
        have hG34 := wA_267 (v := z30) (j := 28) hG26
        have hR35 := RKm.ony (σ1 := hI _ 267 28 z30) hR27 (onm.R (L := [267]) onm.rf (by decide) (by omega)) (by decide)
        exact a_vret Rt dX12_beatGoes_133 (⟨hG34, (onm.R (onm.C hoq73 (by decide)) (by decide) (by omega)), hR35, (show ((hI (hI σq73 267 21 z22) 267 28 z30).1 267 21).toInt = (σ.1 267 21).toInt + 1 by have e21 := congrArg Int32.toInt (show ((hI (hI σq73 267 21 z22) 267 28 z30).1 267 21) = z22 from (show _ = z22 from ((hI_n (by decide)).trans hI_s))); intros; omega)⟩)
      ·
        refine a_aload_n C dX12_beatGoes_86 (i := 0) rfl rfl ?_
        refine a_get C fl_RX12_110 (i := 236) kd_236 (hid 236 (by decide)) (v := .ref (ad 267)) rfl dX12_beatGoes_87 ?_
        refine a_iload_n C dX12_beatGoes_90 (i := 1) rfl rfl ?_
        refine s_iald C (i := 267) kd_267 (hid 267 (by decide)) al_267 (by omega) (by omega) dX12_beatGoes_91 (fun n36 h37 => ?_)
        refine s_val (fun z38 e39 => ?_)
        refine s_if_ne C dX12_beatGoes_92 (tgt := 108) rfl (fun c40 => ?_) (fun c40 => ?_)
        ·
          exact j108 _ hGq73 hoq73 hRq73 (by omega) (show (σq73.1 267 21).toInt = (σ.1 267 21).toInt by omega)
        ·
          refine a_aload_n C dX12_beatGoes_95 (i := 0) rfl rfl ?_
          refine a_get C fl_RX12_110 (i := 236) kd_236 (hid 236 (by decide)) (v := .ref (ad 267)) rfl dX12_beatGoes_96 ?_
          refine s_bipush C dX12_beatGoes_99 (7) (by decide) (fun z41 h42 => ?_)
          refine a_iload_n C dX12_beatGoes_101 (i := 1) rfl rfl ?_
          refine s_iadd C dX12_beatGoes_102 (by omega) (fun z43 h44 => ?_)
          refine a_dup2 C dX12_beatGoes_103 rfl rfl ?_
          refine s_iald C (i := 267) kd_267 (hid 267 (by decide)) al_267 (by omega) (by omega) dX12_beatGoes_104 (fun n45 h46 => ?_)
          refine s_val (fun z47 e48 => ?_)
          refine s_iconst C dX12_beatGoes_105 (1) (by decide) (fun z49 h50 => ?_)
          refine s_isubU C dX12_beatGoes_106 (fun z51 => ?_)
          refine s_iast C (i := 267) kd_267 (hid 267 (by decide)) al_267 (by omega) (by omega) dX12_beatGoes_107 (fun n53 h54 => ?_)
          have hG55 := wA_267 (v := z51) (j := n53) hGq73
          have hR56 := RKm.ony (σ1 := hI _ 267 n53 z51) hRq73 (onm.R (L := [267]) onm.rf (by decide) (by omega)) (by decide)
          exact j108 _ hG55 (onm.R hoq73 (by decide) (by omega)) hR56 (by omega) (show ((hI σq73 267 n53 z51).1 267 21).toInt = (σ.1 267 21).toInt by have e21 := congrArg Int32.toInt (show ((hI σq73 267 n53 z51).1 267 21) = (σq73.1 267 21) from (show _ = (σq73.1 267 21) from (hI_n (by omega)))); omega)
  have j71 : ∀ (σq71 : HS), GIm σq71 → onm [264, 265, 267, 1046, 1051, 1052, 1053, 2021] σ σq71 → RKm b σq71 → ((σq71.1 267 21).toInt = (σ.1 267 21).toInt) → AW ids ad ca Γ 71 [some (.ref (ad 236)), none] [] σq71 := by
    intro σq71 hGq71 hoq71 hRq71 hx71_0
    refine s_iconst C dX12_beatGoes_71 (0) (by decide) (fun z57 h58 => ?_)
    refine a_istore_n C dX12_beatGoes_72 (i := 1) rfl (by decide) rfl (vs1 := [some (.ref (ad 236)), some (.int z57)]) rfl ?_
    exact j73 100000 _ z57 (by omega) hGq71 hoq71 hRq71 (by omega) (show (σq71.1 267 21).toInt = (σ.1 267 21).toInt by omega)
  refine a_aload_n C dX12_beatGoes_0 (i := 0) rfl rfl ?_
  refine a_aload_n C dX12_beatGoes_1 (i := 0) rfl rfl ?_
  refine a_callVi C (i := 236) kd_236 (hid 236 (by decide)) ⟨_, _, rfl⟩ (by decide) (S_X12_catchesNow_236 hid hG) mi_X12_catchesNow ml_RX12_378 rfl rfl (Nat.le_of_ble_eq_true rfl) (Nat.le_of_ble_eq_true rfl) (Nat.le_of_ble_eq_true rfl) dX12_beatGoes_2 (fun z59 σ60 q61 => ?_)
  obtain ⟨w62, w63⟩ := q61
  rw [w62]
  refine a_put C fp_RX12_341 (i := 236) kd_236 (hid 236 (by decide)) rfl rfl dX12_beatGoes_5 ?_
  have hG64 := wF_236_51 (v := z59) hG (by omega) (by omega)
  have hR65 := RKm.ony (σ1 := hI _ 236 51 z59) hR (onm.F (L := [1051]) onm.rf (by decide)) (by decide)
  refine a_aload_n C dX12_beatGoes_8 (i := 0) rfl rfl ?_
  refine s_iconst C dX12_beatGoes_9 (0) (by decide) (fun z66 h67 => ?_)
  refine a_put C fp_RX12_344 (i := 236) kd_236 (hid 236 (by decide)) (nar_z (by omega)).1 (nar_z (by omega)).2 dX12_beatGoes_10 ?_
  have hG68 := wF_236_52 (v := z66) hG64
  have hR69 := RKm.ony (σ1 := hI _ 236 52 z66) hR65 (onm.F (L := [1052]) onm.rf (by decide)) (by decide)
  refine a_aload_n C dX12_beatGoes_13 (i := 0) rfl rfl ?_
  refine s_iconst C dX12_beatGoes_14 (0) (by decide) (fun z70 h71 => ?_)
  refine a_put C fp_RX12_365 (i := 236) kd_236 (hid 236 (by decide)) rfl rfl dX12_beatGoes_15 ?_
  have hG72 := wF_236_53 (v := z70) hG68
  have hR73 := RKm.ony (σ1 := hI _ 236 53 z70) hR69 (onm.F (L := [1053]) onm.rf (by decide)) (by decide)
  refine a_aload_n C dX12_beatGoes_18 (i := 0) rfl rfl ?_
  refine a_get C fl_RX12_341 (i := 236) kd_236 (hid 236 (by decide)) (v := .int z59) rfl dX12_beatGoes_19 ?_
  refine s_if_ge C dX12_beatGoes_22 (tgt := 59) rfl (fun c74 => ?_) (fun c74 => ?_)
  ·
    refine a_aload_n C dX12_beatGoes_59 (i := 0) rfl rfl ?_
    refine a_callVv C (i := 236) kd_236 (hid 236 (by decide)) ⟨_, _, rfl⟩ (by decide) (S_X12_dropsOthers_236 hid hG72 hR73) mi_X12_dropsOthers ml_RX12_381 rfl rfl (Nat.le_of_ble_eq_true rfl) (Nat.le_of_ble_eq_true rfl) (Nat.le_of_ble_eq_true rfl) dX12_beatGoes_60 (fun σ76 q77 => ?_)
    obtain ⟨hG78, ho79, hR80⟩ := q77
    refine a_aload_n C dX12_beatGoes_63 (i := 0) rfl rfl ?_
    refine a_aload_n C dX12_beatGoes_64 (i := 0) rfl rfl ?_
    have g81 := bF_236_51 hG78
    have g82 : (σ76.1 236 51).toInt = z59.toInt := congrArg Int32.toInt (ho79.1 236 51 (by decide))
    refine a_get C fl_RX12_341 (i := 236) kd_236 (hid 236 (by decide)) (v := .int (σ76.1 236 51)) rfl dX12_beatGoes_65 ?_
    refine a_callVv C (i := 236) kd_236 (hid 236 (by decide)) ⟨_, _, rfl⟩ (by decide) (S_X12_catches_236 (x1 := (σ76.1 236 51)) hid hG78 hR80 (by omega)) mi_X12_catches ml_RX12_384 rfl rfl (Nat.le_of_ble_eq_true rfl) (Nat.le_of_ble_eq_true rfl) (Nat.le_of_ble_eq_true rfl) dX12_beatGoes_68 (fun σ84 q85 => ?_)
    obtain ⟨hG86, ho87, hR88⟩ := q85
    have g89 : (σ76.1 267 21).toInt = (σ.1 267 21).toInt := congrArg Int32.toInt (ho79.1 267 21 (by decide))
    have g90 : (σ84.1 267 21).toInt = (σ76.1 267 21).toInt := congrArg Int32.toInt (ho87.1 267 21 (by decide))
    exact j71 _ hG86 (onm.tr (onm.tr (onm.F (onm.F (onm.F onm.rf (by decide)) (by decide)) (by decide)) (onm.mono ho79 (by decide))) (onm.mono ho87 (by decide))) hR88 (show (σ84.1 267 21).toInt = (σ.1 267 21).toInt by omega)
  ·
    refine a_aload_n C dX12_beatGoes_25 (i := 0) rfl rfl ?_
    refine a_get C fl_RX12_110 (i := 236) kd_236 (hid 236 (by decide)) (v := .ref (ad 267)) rfl dX12_beatGoes_26 ?_
    refine s_bipush C dX12_beatGoes_29 (22) (by decide) (fun z91 h92 => ?_)
    refine a_aload_n C dX12_beatGoes_31 (i := 0) rfl rfl ?_
    refine a_get C fl_RX12_110 (i := 236) kd_236 (hid 236 (by decide)) (v := .ref (ad 267)) rfl dX12_beatGoes_32 ?_
    refine s_bipush C dX12_beatGoes_35 (22) (by decide) (fun z93 h94 => ?_)
    refine s_iald C (i := 267) kd_267 (hid 267 (by decide)) al_267 (by omega) (by omega) dX12_beatGoes_37 (fun n95 h96 => ?_)
    refine s_val (fun z97 e98 => ?_)
    refine a_aload_n C dX12_beatGoes_38 (i := 0) rfl rfl ?_
    refine a_get C fl_RX12_64 (i := 236) kd_236 (hid 236 (by decide)) (v := .ref (ad 252)) rfl dX12_beatGoes_39 ?_
    refine a_aload_n C dX12_beatGoes_42 (i := 0) rfl rfl ?_
    have g99 := bF_236_18 hG
    refine a_get C fl_RX12_221 (i := 236) kd_236 (hid 236 (by decide)) (v := .int (σ.1 236 18)) rfl dX12_beatGoes_43 ?_
    refine s_iald C (i := 252) kd_252 (hid 252 (by decide)) al_252 (by omega) (by omega) dX12_beatGoes_46 (fun n100 h101 => ?_)
    refine s_val (fun z102 e103 => ?_)
    refine s_isubU C dX12_beatGoes_47 (fun z104 => ?_)
    refine s_iconst C dX12_beatGoes_48 (0) (by decide) (fun z106 h107 => ?_)
    refine s_sipush C dX12_beatGoes_49 (999) (by decide) (fun z108 h109 => ?_)
    refine a_callSi C (S_X12_held (x1 := z104) (x2 := z106) (x3 := z108) hid hG72) ms_X12_held ml_RX12_338 rfl rfl (Nat.le_of_ble_eq_true rfl) (Nat.le_of_ble_eq_true rfl) (Nat.le_of_ble_eq_true rfl) dX12_beatGoes_52 (fun z110 σ111 q112 => ?_)
    obtain ⟨w113, w114⟩ := q112
    rw [w113]
    refine s_iast C (i := 267) kd_267 (hid 267 (by decide)) al_267 (by omega) (by omega) dX12_beatGoes_55 (fun n115 h116 => ?_)
    obtain rfl : n115 = 22 := by omega
    have hG117 := wA_267 (v := z110) (j := 22) hG72
    have hR118 := RKm.ony (σ1 := hI _ 267 22 z110) hR73 (onm.R (L := [267]) onm.rf (by decide) (by omega)) (by decide)
    refine a_goto C dX12_beatGoes_56 (tgt := 71) rfl ?_
    exact j71 _ hG117 (onm.R (onm.F (onm.F (onm.F onm.rf (by decide)) (by decide)) (by decide)) (by decide) (by omega)) hR118 (show ((hI (hI (hI (hI σ 236 51 z59) 236 52 z66) 236 53 z70) 267 22 z110).1 267 21).toInt = (σ.1 267 21).toInt by have e21 := congrArg Int32.toInt (show ((hI (hI (hI (hI σ 236 51 z59) 236 52 z66) 236 53 z70) 267 22 z110).1 267 21) = (σ.1 267 21) from (show _ = (σ.1 267 21) from ((hI_n (by decide)).trans ((congrFun (hI_o (by decide)) 21).trans ((congrFun (hI_o (by decide)) 21).trans (congrFun (hI_o (by decide)) 21)))))); omega)
