theorem dX12_appends_0 : decode cX12_appends 0 = .ok (.iload_n 2, 1) := by decide +kernel
theorem dX12_appends_1 : decode cX12_appends 1 = .ok (.ifCond .ne 7, 3) := by decide +kernel
theorem dX12_appends_4 : decode cX12_appends 4 = .ok (.lload_n 0, 1) := by decide +kernel
theorem dX12_appends_5 : decode cX12_appends 5 = .ok (.goto 16, 3) := by decide +kernel
theorem dX12_appends_21 : decode cX12_appends 21 = .ok (.lreturn, 1) := by decide +kernel
set_option maxHeartbeats 4000000 in
set_option maxRecDepth 100000 in
theorem i_app0 {l : Launch} {D : va_G} {ids : List Nat} {ad : Nat → Nat} {ca : Nat → ClassId} {σ : HS} {x : Int64} (hid : ∀ i, 236 ≤ i ∧ i < 277 → i ∈ ids) : Kl l D ids ad ca yX12_appends cX12_appends 3 0 0 [.long x, .int 0] σ (fun r σ1 => r = x ∧ σ1 = σ) := by
  refine Kl.of (by decide) (Nat.le_of_ble_eq_true rfl) 0 (fun Γ C Rt => ?_)
  show AW ids ad ca Γ 0 [some (.long x), none, some (.int 0)] [] σ
  refine a_iload_n C dX12_appends_0 (i := 2) rfl rfl ?_
  refine a_if_ne C dX12_appends_1 (tgt := 8) rfl (fun h => absurd h (by decide)) (fun _ => ?_)
  refine a_lload_n C dX12_appends_4 (i := 0) rfl rfl ?_
  refine a_goto C dX12_appends_5 (tgt := 21) rfl ?_
  exact a_lret Rt dX12_appends_21 (⟨rfl, rfl⟩)
theorem dX12_appends_8 : decode cX12_appends 8 = .ok (.ldc2_w 163, 3) := by decide +kernel
theorem dX12_appends_11 : decode cX12_appends 11 = .ok (.lload_n 0, 1) := by decide +kernel
theorem dX12_appends_12 : decode cX12_appends 12 = .ok (.lmul, 1) := by decide +kernel
theorem dX12_appends_13 : decode cX12_appends 13 = .ok (.iload_n 2, 1) := by decide +kernel
theorem dX12_appends_14 : decode cX12_appends 14 = .ok (.bipush 97, 2) := by decide +kernel
theorem dX12_appends_16 : decode cX12_appends 16 = .ok (.isub, 1) := by decide +kernel
theorem dX12_appends_17 : decode cX12_appends 17 = .ok (.iconst 1, 1) := by decide +kernel
theorem dX12_appends_18 : decode cX12_appends 18 = .ok (.iadd, 1) := by decide +kernel
theorem dX12_appends_19 : decode cX12_appends 19 = .ok (.i2l, 1) := by decide +kernel
theorem dX12_appends_20 : decode cX12_appends 20 = .ok (.ladd, 1) := by decide +kernel
set_option maxHeartbeats 4000000 in
set_option maxRecDepth 100000 in
theorem i_app1 {l : Launch} {D : va_G} {ids : List Nat} {ad : Nat → Nat} {ca : Nat → ClassId} {σ : HS} {x : Int64} {p1 : Int32} (hid : ∀ i, 236 ≤ i ∧ i < 277 → i ∈ ids) (hc : ¬ p1 = 0) : Kl l D ids ad ca yX12_appends cX12_appends 3 0 0 [.long x, .int p1] σ (fun r σ1 => r = ((27 * x) + (((p1 - 97) + 1).toInt64)) ∧ σ1 = σ) := by
  refine Kl.of (by decide) (Nat.le_of_ble_eq_true rfl) 0 (fun Γ C Rt => ?_)
  show AW ids ad ca Γ 0 [some (.long x), none, some (.int p1)] [] σ
  refine a_iload_n C dX12_appends_0 (i := 2) rfl rfl ?_
  refine a_if_ne C dX12_appends_1 (tgt := 8) rfl (fun c1 => ?_) (fun c1 => absurd c1 (hc))
  refine a_ldc2 C dX12_appends_8 ko_RX12_163 ?_
  refine a_lload_n C dX12_appends_11 (i := 0) rfl rfl ?_
  refine a_lmul C dX12_appends_12 ?_
  refine a_iload_n C dX12_appends_13 (i := 2) rfl rfl ?_
  refine a_bipush C dX12_appends_14 (v := 97) rfl ?_
  refine a_isub C dX12_appends_16 ?_
  refine a_iconst C dX12_appends_17 (v := 1) rfl ?_
  refine a_iadd C dX12_appends_18 ?_
  refine a_i2l C dX12_appends_19 ?_
  refine a_ladd C dX12_appends_20 ?_
  exact a_lret Rt dX12_appends_21 (⟨rfl, rfl⟩)
theorem dX12_word_0 : decode cX12_word 0 = .ok (.lconst 0, 1) := by decide +kernel
theorem dX12_word_1 : decode cX12_word 1 = .ok (.iload_n 0, 1) := by decide +kernel
theorem dX12_word_2 : decode cX12_word 2 = .ok (.invokestatic 165, 3) := by decide +kernel
theorem dX12_word_5 : decode cX12_word 5 = .ok (.iload_n 1, 1) := by decide +kernel
theorem dX12_word_6 : decode cX12_word 6 = .ok (.invokestatic 165, 3) := by decide +kernel
theorem dX12_word_9 : decode cX12_word 9 = .ok (.iload_n 2, 1) := by decide +kernel
theorem dX12_word_10 : decode cX12_word 10 = .ok (.invokestatic 165, 3) := by decide +kernel
theorem dX12_word_13 : decode cX12_word 13 = .ok (.iload_n 3, 1) := by decide +kernel
theorem dX12_word_14 : decode cX12_word 14 = .ok (.invokestatic 165, 3) := by decide +kernel
theorem dX12_word_17 : decode cX12_word 17 = .ok (.iload 4, 2) := by decide +kernel
theorem dX12_word_19 : decode cX12_word 19 = .ok (.invokestatic 165, 3) := by decide +kernel
theorem dX12_word_22 : decode cX12_word 22 = .ok (.iload 5, 2) := by decide +kernel
theorem dX12_word_24 : decode cX12_word 24 = .ok (.invokestatic 165, 3) := by decide +kernel
theorem dX12_word_27 : decode cX12_word 27 = .ok (.iload 6, 2) := by decide +kernel
theorem dX12_word_29 : decode cX12_word 29 = .ok (.invokestatic 165, 3) := by decide +kernel
theorem dX12_word_32 : decode cX12_word 32 = .ok (.lreturn, 1) := by decide +kernel
set_option maxHeartbeats 4000000 in
set_option maxRecDepth 100000 in
theorem i_word_0 {l : Launch} {D : va_G} {ids : List Nat} {ad : Nat → Nat} {ca : Nat → ClassId} {σ : HS} (hid : ∀ i, 236 ≤ i ∧ i < 277 → i ∈ ids) : Kl l D ids ad ca yX12_word cX12_word 7 1 22 [.int 116, .int 104, .int 105, .int 110, .int 103, .int 0, .int 0] σ (fun r σ1 => r = 10793230 ∧ σ1 = σ) := by
  refine Kl.of (by decide) (Nat.le_of_ble_eq_true rfl) 0 (fun Γ C Rt => ?_)
  show AW ids ad ca Γ 0 [some (.int 116), some (.int 104), some (.int 105), some (.int 110), some (.int 103), some (.int 0), some (.int 0)] [] σ
  refine a_lconst C dX12_word_0 (v := 0) rfl ?_
  refine a_iload_n C dX12_word_1 (i := 0) rfl rfl ?_
  refine a_callSl C (i_app1 hid (by decide)) ms_X12_appends ml_RX12_165 rfl rfl (Nat.le_of_ble_eq_true rfl) (Nat.le_of_ble_eq_true rfl) (Nat.le_of_ble_eq_true rfl) dX12_word_2 (fun r1 σ2 q3 => ?_)
  obtain ⟨rfl, q3⟩ := q3
  rw [q3]
  refine a_iload_n C dX12_word_5 (i := 1) rfl rfl ?_
  refine a_callSl C (i_app1 hid (by decide)) ms_X12_appends ml_RX12_165 rfl rfl (Nat.le_of_ble_eq_true rfl) (Nat.le_of_ble_eq_true rfl) (Nat.le_of_ble_eq_true rfl) dX12_word_6 (fun r4 σ5 q6 => ?_)
  obtain ⟨rfl, q6⟩ := q6
  rw [q6]
  refine a_iload_n C dX12_word_9 (i := 2) rfl rfl ?_
  refine a_callSl C (i_app1 hid (by decide)) ms_X12_appends ml_RX12_165 rfl rfl (Nat.le_of_ble_eq_true rfl) (Nat.le_of_ble_eq_true rfl) (Nat.le_of_ble_eq_true rfl) dX12_word_10 (fun r7 σ8 q9 => ?_)
  obtain ⟨rfl, q9⟩ := q9
  rw [q9]
  refine a_iload_n C dX12_word_13 (i := 3) rfl rfl ?_
  refine a_callSl C (i_app1 hid (by decide)) ms_X12_appends ml_RX12_165 rfl rfl (Nat.le_of_ble_eq_true rfl) (Nat.le_of_ble_eq_true rfl) (Nat.le_of_ble_eq_true rfl) dX12_word_14 (fun r10 σ11 q12 => ?_)
  obtain ⟨rfl, q12⟩ := q12
  rw [q12]
  refine a_iload C dX12_word_17 rfl ?_
  refine a_callSl C (i_app1 hid (by decide)) ms_X12_appends ml_RX12_165 rfl rfl (Nat.le_of_ble_eq_true rfl) (Nat.le_of_ble_eq_true rfl) (Nat.le_of_ble_eq_true rfl) dX12_word_19 (fun r13 σ14 q15 => ?_)
  obtain ⟨rfl, q15⟩ := q15
  rw [q15]
  refine a_iload C dX12_word_22 rfl ?_
  refine a_callSl C (i_app0 hid) ms_X12_appends ml_RX12_165 rfl rfl (Nat.le_of_ble_eq_true rfl) (Nat.le_of_ble_eq_true rfl) (Nat.le_of_ble_eq_true rfl) dX12_word_24 (fun r16 σ17 q18 => ?_)
  obtain ⟨rfl, q18⟩ := q18
  rw [q18]
  refine a_iload C dX12_word_27 rfl ?_
  refine a_callSl C (i_app0 hid) ms_X12_appends ml_RX12_165 rfl rfl (Nat.le_of_ble_eq_true rfl) (Nat.le_of_ble_eq_true rfl) (Nat.le_of_ble_eq_true rfl) dX12_word_29 (fun r19 σ20 q21 => ?_)
  obtain ⟨rfl, q21⟩ := q21
  rw [q21]
  exact a_lret Rt dX12_word_32 (⟨rfl, rfl⟩)
set_option maxHeartbeats 4000000 in
set_option maxRecDepth 100000 in
theorem i_word_1 {l : Launch} {D : va_G} {ids : List Nat} {ad : Nat → Nat} {ca : Nat → ClassId} {σ : HS} (hid : ∀ i, 236 ≤ i ∧ i < 277 → i ∈ ids) : Kl l D ids ad ca yX12_word cX12_word 7 1 22 [.int 112, .int 97, .int 116, .int 116, .int 101, .int 114, .int 110] σ (fun r σ1 => r = 6224103356 ∧ σ1 = σ) := by
  refine Kl.of (by decide) (Nat.le_of_ble_eq_true rfl) 0 (fun Γ C Rt => ?_)
  show AW ids ad ca Γ 0 [some (.int 112), some (.int 97), some (.int 116), some (.int 116), some (.int 101), some (.int 114), some (.int 110)] [] σ
  refine a_lconst C dX12_word_0 (v := 0) rfl ?_
  refine a_iload_n C dX12_word_1 (i := 0) rfl rfl ?_
  refine a_callSl C (i_app1 hid (by decide)) ms_X12_appends ml_RX12_165 rfl rfl (Nat.le_of_ble_eq_true rfl) (Nat.le_of_ble_eq_true rfl) (Nat.le_of_ble_eq_true rfl) dX12_word_2 (fun r1 σ2 q3 => ?_)
  obtain ⟨rfl, q3⟩ := q3
  rw [q3]
  refine a_iload_n C dX12_word_5 (i := 1) rfl rfl ?_
  refine a_callSl C (i_app1 hid (by decide)) ms_X12_appends ml_RX12_165 rfl rfl (Nat.le_of_ble_eq_true rfl) (Nat.le_of_ble_eq_true rfl) (Nat.le_of_ble_eq_true rfl) dX12_word_6 (fun r4 σ5 q6 => ?_)
  obtain ⟨rfl, q6⟩ := q6
  rw [q6]
  refine a_iload_n C dX12_word_9 (i := 2) rfl rfl ?_
  refine a_callSl C (i_app1 hid (by decide)) ms_X12_appends ml_RX12_165 rfl rfl (Nat.le_of_ble_eq_true rfl) (Nat.le_of_ble_eq_true rfl) (Nat.le_of_ble_eq_true rfl) dX12_word_10 (fun r7 σ8 q9 => ?_)
  obtain ⟨rfl, q9⟩ := q9
  rw [q9]
  refine a_iload_n C dX12_word_13 (i := 3) rfl rfl ?_
  refine a_callSl C (i_app1 hid (by decide)) ms_X12_appends ml_RX12_165 rfl rfl (Nat.le_of_ble_eq_true rfl) (Nat.le_of_ble_eq_true rfl) (Nat.le_of_ble_eq_true rfl) dX12_word_14 (fun r10 σ11 q12 => ?_)
  obtain ⟨rfl, q12⟩ := q12
  rw [q12]
  refine a_iload C dX12_word_17 rfl ?_
  refine a_callSl C (i_app1 hid (by decide)) ms_X12_appends ml_RX12_165 rfl rfl (Nat.le_of_ble_eq_true rfl) (Nat.le_of_ble_eq_true rfl) (Nat.le_of_ble_eq_true rfl) dX12_word_19 (fun r13 σ14 q15 => ?_)
  obtain ⟨rfl, q15⟩ := q15
  rw [q15]
  refine a_iload C dX12_word_22 rfl ?_
  refine a_callSl C (i_app1 hid (by decide)) ms_X12_appends ml_RX12_165 rfl rfl (Nat.le_of_ble_eq_true rfl) (Nat.le_of_ble_eq_true rfl) (Nat.le_of_ble_eq_true rfl) dX12_word_24 (fun r16 σ17 q18 => ?_)
  obtain ⟨rfl, q18⟩ := q18
  rw [q18]
  refine a_iload C dX12_word_27 rfl ?_
  refine a_callSl C (i_app1 hid (by decide)) ms_X12_appends ml_RX12_165 rfl rfl (Nat.le_of_ble_eq_true rfl) (Nat.le_of_ble_eq_true rfl) (Nat.le_of_ble_eq_true rfl) dX12_word_29 (fun r19 σ20 q21 => ?_)
  obtain ⟨rfl, q21⟩ := q21
  rw [q21]
  exact a_lret Rt dX12_word_32 (⟨rfl, rfl⟩)
set_option maxHeartbeats 4000000 in
set_option maxRecDepth 100000 in
theorem i_word_2 {l : Launch} {D : va_G} {ids : List Nat} {ad : Nat → Nat} {ca : Nat → ClassId} {σ : HS} (hid : ∀ i, 236 ≤ i ∧ i < 277 → i ∈ ids) : Kl l D ids ad ca yX12_word cX12_word 7 1 22 [.int 116, .int 105, .int 114, .int 101, .int 115, .int 0, .int 0] σ (fun r σ1 => r = 10819243 ∧ σ1 = σ) := by
  refine Kl.of (by decide) (Nat.le_of_ble_eq_true rfl) 0 (fun Γ C Rt => ?_)
  show AW ids ad ca Γ 0 [some (.int 116), some (.int 105), some (.int 114), some (.int 101), some (.int 115), some (.int 0), some (.int 0)] [] σ
  refine a_lconst C dX12_word_0 (v := 0) rfl ?_
  refine a_iload_n C dX12_word_1 (i := 0) rfl rfl ?_
  refine a_callSl C (i_app1 hid (by decide)) ms_X12_appends ml_RX12_165 rfl rfl (Nat.le_of_ble_eq_true rfl) (Nat.le_of_ble_eq_true rfl) (Nat.le_of_ble_eq_true rfl) dX12_word_2 (fun r1 σ2 q3 => ?_)
  obtain ⟨rfl, q3⟩ := q3
  rw [q3]
  refine a_iload_n C dX12_word_5 (i := 1) rfl rfl ?_
  refine a_callSl C (i_app1 hid (by decide)) ms_X12_appends ml_RX12_165 rfl rfl (Nat.le_of_ble_eq_true rfl) (Nat.le_of_ble_eq_true rfl) (Nat.le_of_ble_eq_true rfl) dX12_word_6 (fun r4 σ5 q6 => ?_)
  obtain ⟨rfl, q6⟩ := q6
  rw [q6]
  refine a_iload_n C dX12_word_9 (i := 2) rfl rfl ?_
  refine a_callSl C (i_app1 hid (by decide)) ms_X12_appends ml_RX12_165 rfl rfl (Nat.le_of_ble_eq_true rfl) (Nat.le_of_ble_eq_true rfl) (Nat.le_of_ble_eq_true rfl) dX12_word_10 (fun r7 σ8 q9 => ?_)
  obtain ⟨rfl, q9⟩ := q9
  rw [q9]
  refine a_iload_n C dX12_word_13 (i := 3) rfl rfl ?_
  refine a_callSl C (i_app1 hid (by decide)) ms_X12_appends ml_RX12_165 rfl rfl (Nat.le_of_ble_eq_true rfl) (Nat.le_of_ble_eq_true rfl) (Nat.le_of_ble_eq_true rfl) dX12_word_14 (fun r10 σ11 q12 => ?_)
  obtain ⟨rfl, q12⟩ := q12
  rw [q12]
  refine a_iload C dX12_word_17 rfl ?_
  refine a_callSl C (i_app1 hid (by decide)) ms_X12_appends ml_RX12_165 rfl rfl (Nat.le_of_ble_eq_true rfl) (Nat.le_of_ble_eq_true rfl) (Nat.le_of_ble_eq_true rfl) dX12_word_19 (fun r13 σ14 q15 => ?_)
  obtain ⟨rfl, q15⟩ := q15
  rw [q15]
  refine a_iload C dX12_word_22 rfl ?_
  refine a_callSl C (i_app0 hid) ms_X12_appends ml_RX12_165 rfl rfl (Nat.le_of_ble_eq_true rfl) (Nat.le_of_ble_eq_true rfl) (Nat.le_of_ble_eq_true rfl) dX12_word_24 (fun r16 σ17 q18 => ?_)
  obtain ⟨rfl, q18⟩ := q18
  rw [q18]
  refine a_iload C dX12_word_27 rfl ?_
  refine a_callSl C (i_app0 hid) ms_X12_appends ml_RX12_165 rfl rfl (Nat.le_of_ble_eq_true rfl) (Nat.le_of_ble_eq_true rfl) (Nat.le_of_ble_eq_true rfl) dX12_word_29 (fun r19 σ20 q21 => ?_)
  obtain ⟨rfl, q21⟩ := q21
  rw [q21]
  exact a_lret Rt dX12_word_32 (⟨rfl, rfl⟩)
set_option maxHeartbeats 4000000 in
set_option maxRecDepth 100000 in
theorem i_word_3 {l : Launch} {D : va_G} {ids : List Nat} {ad : Nat → Nat} {ca : Nat → ClassId} {σ : HS} (hid : ∀ i, 236 ≤ i ∧ i < 277 → i ∈ ids) : Kl l D ids ad ca yX12_word cX12_word 7 1 22 [.int 100, .int 114, .int 111, .int 112, .int 115, .int 0, .int 0] σ (fun r σ1 => r = 2491444 ∧ σ1 = σ) := by
  refine Kl.of (by decide) (Nat.le_of_ble_eq_true rfl) 0 (fun Γ C Rt => ?_)
  show AW ids ad ca Γ 0 [some (.int 100), some (.int 114), some (.int 111), some (.int 112), some (.int 115), some (.int 0), some (.int 0)] [] σ
  refine a_lconst C dX12_word_0 (v := 0) rfl ?_
  refine a_iload_n C dX12_word_1 (i := 0) rfl rfl ?_
  refine a_callSl C (i_app1 hid (by decide)) ms_X12_appends ml_RX12_165 rfl rfl (Nat.le_of_ble_eq_true rfl) (Nat.le_of_ble_eq_true rfl) (Nat.le_of_ble_eq_true rfl) dX12_word_2 (fun r1 σ2 q3 => ?_)
  obtain ⟨rfl, q3⟩ := q3
  rw [q3]
  refine a_iload_n C dX12_word_5 (i := 1) rfl rfl ?_
  refine a_callSl C (i_app1 hid (by decide)) ms_X12_appends ml_RX12_165 rfl rfl (Nat.le_of_ble_eq_true rfl) (Nat.le_of_ble_eq_true rfl) (Nat.le_of_ble_eq_true rfl) dX12_word_6 (fun r4 σ5 q6 => ?_)
  obtain ⟨rfl, q6⟩ := q6
  rw [q6]
  refine a_iload_n C dX12_word_9 (i := 2) rfl rfl ?_
  refine a_callSl C (i_app1 hid (by decide)) ms_X12_appends ml_RX12_165 rfl rfl (Nat.le_of_ble_eq_true rfl) (Nat.le_of_ble_eq_true rfl) (Nat.le_of_ble_eq_true rfl) dX12_word_10 (fun r7 σ8 q9 => ?_)
  obtain ⟨rfl, q9⟩ := q9
  rw [q9]
  refine a_iload_n C dX12_word_13 (i := 3) rfl rfl ?_
  refine a_callSl C (i_app1 hid (by decide)) ms_X12_appends ml_RX12_165 rfl rfl (Nat.le_of_ble_eq_true rfl) (Nat.le_of_ble_eq_true rfl) (Nat.le_of_ble_eq_true rfl) dX12_word_14 (fun r10 σ11 q12 => ?_)
  obtain ⟨rfl, q12⟩ := q12
  rw [q12]
  refine a_iload C dX12_word_17 rfl ?_
  refine a_callSl C (i_app1 hid (by decide)) ms_X12_appends ml_RX12_165 rfl rfl (Nat.le_of_ble_eq_true rfl) (Nat.le_of_ble_eq_true rfl) (Nat.le_of_ble_eq_true rfl) dX12_word_19 (fun r13 σ14 q15 => ?_)
  obtain ⟨rfl, q15⟩ := q15
  rw [q15]
  refine a_iload C dX12_word_22 rfl ?_
  refine a_callSl C (i_app0 hid) ms_X12_appends ml_RX12_165 rfl rfl (Nat.le_of_ble_eq_true rfl) (Nat.le_of_ble_eq_true rfl) (Nat.le_of_ble_eq_true rfl) dX12_word_24 (fun r16 σ17 q18 => ?_)
  obtain ⟨rfl, q18⟩ := q18
  rw [q18]
  refine a_iload C dX12_word_27 rfl ?_
  refine a_callSl C (i_app0 hid) ms_X12_appends ml_RX12_165 rfl rfl (Nat.le_of_ble_eq_true rfl) (Nat.le_of_ble_eq_true rfl) (Nat.le_of_ble_eq_true rfl) dX12_word_29 (fun r19 σ20 q21 => ?_)
  obtain ⟨rfl, q21⟩ := q21
  rw [q21]
  exact a_lret Rt dX12_word_32 (⟨rfl, rfl⟩)
set_option maxHeartbeats 4000000 in
set_option maxRecDepth 100000 in
theorem i_word_4 {l : Launch} {D : va_G} {ids : List Nat} {ad : Nat → Nat} {ca : Nat → ClassId} {σ : HS} (hid : ∀ i, 236 ≤ i ∧ i < 277 → i ∈ ids) : Kl l D ids ad ca yX12_word cX12_word 7 1 22 [.int 102, .int 111, .int 114, .int 99, .int 101, .int 0, .int 0] σ (fun r σ1 => r = 3497099 ∧ σ1 = σ) := by
  refine Kl.of (by decide) (Nat.le_of_ble_eq_true rfl) 0 (fun Γ C Rt => ?_)
  show AW ids ad ca Γ 0 [some (.int 102), some (.int 111), some (.int 114), some (.int 99), some (.int 101), some (.int 0), some (.int 0)] [] σ
  refine a_lconst C dX12_word_0 (v := 0) rfl ?_
  refine a_iload_n C dX12_word_1 (i := 0) rfl rfl ?_
  refine a_callSl C (i_app1 hid (by decide)) ms_X12_appends ml_RX12_165 rfl rfl (Nat.le_of_ble_eq_true rfl) (Nat.le_of_ble_eq_true rfl) (Nat.le_of_ble_eq_true rfl) dX12_word_2 (fun r1 σ2 q3 => ?_)
  obtain ⟨rfl, q3⟩ := q3
  rw [q3]
  refine a_iload_n C dX12_word_5 (i := 1) rfl rfl ?_
  refine a_callSl C (i_app1 hid (by decide)) ms_X12_appends ml_RX12_165 rfl rfl (Nat.le_of_ble_eq_true rfl) (Nat.le_of_ble_eq_true rfl) (Nat.le_of_ble_eq_true rfl) dX12_word_6 (fun r4 σ5 q6 => ?_)
  obtain ⟨rfl, q6⟩ := q6
  rw [q6]
  refine a_iload_n C dX12_word_9 (i := 2) rfl rfl ?_
  refine a_callSl C (i_app1 hid (by decide)) ms_X12_appends ml_RX12_165 rfl rfl (Nat.le_of_ble_eq_true rfl) (Nat.le_of_ble_eq_true rfl) (Nat.le_of_ble_eq_true rfl) dX12_word_10 (fun r7 σ8 q9 => ?_)
  obtain ⟨rfl, q9⟩ := q9
  rw [q9]
  refine a_iload_n C dX12_word_13 (i := 3) rfl rfl ?_
  refine a_callSl C (i_app1 hid (by decide)) ms_X12_appends ml_RX12_165 rfl rfl (Nat.le_of_ble_eq_true rfl) (Nat.le_of_ble_eq_true rfl) (Nat.le_of_ble_eq_true rfl) dX12_word_14 (fun r10 σ11 q12 => ?_)
  obtain ⟨rfl, q12⟩ := q12
  rw [q12]
  refine a_iload C dX12_word_17 rfl ?_
  refine a_callSl C (i_app1 hid (by decide)) ms_X12_appends ml_RX12_165 rfl rfl (Nat.le_of_ble_eq_true rfl) (Nat.le_of_ble_eq_true rfl) (Nat.le_of_ble_eq_true rfl) dX12_word_19 (fun r13 σ14 q15 => ?_)
  obtain ⟨rfl, q15⟩ := q15
  rw [q15]
  refine a_iload C dX12_word_22 rfl ?_
  refine a_callSl C (i_app0 hid) ms_X12_appends ml_RX12_165 rfl rfl (Nat.le_of_ble_eq_true rfl) (Nat.le_of_ble_eq_true rfl) (Nat.le_of_ble_eq_true rfl) dX12_word_24 (fun r16 σ17 q18 => ?_)
  obtain ⟨rfl, q18⟩ := q18
  rw [q18]
  refine a_iload C dX12_word_27 rfl ?_
  refine a_callSl C (i_app0 hid) ms_X12_appends ml_RX12_165 rfl rfl (Nat.le_of_ble_eq_true rfl) (Nat.le_of_ble_eq_true rfl) (Nat.le_of_ble_eq_true rfl) dX12_word_29 (fun r19 σ20 q21 => ?_)
  obtain ⟨rfl, q21⟩ := q21
  rw [q21]
  exact a_lret Rt dX12_word_32 (⟨rfl, rfl⟩)
set_option maxHeartbeats 4000000 in
set_option maxRecDepth 100000 in
theorem i_word_5 {l : Launch} {D : va_G} {ids : List Nat} {ad : Nat → Nat} {ca : Nat → ClassId} {σ : HS} (hid : ∀ i, 236 ≤ i ∧ i < 277 → i ∈ ids) : Kl l D ids ad ca yX12_word cX12_word 7 1 22 [.int 112, .int 97, .int 121, .int 115, .int 0, .int 0, .int 0] σ (fun r σ1 => r = 316351 ∧ σ1 = σ) := by
  refine Kl.of (by decide) (Nat.le_of_ble_eq_true rfl) 0 (fun Γ C Rt => ?_)
  show AW ids ad ca Γ 0 [some (.int 112), some (.int 97), some (.int 121), some (.int 115), some (.int 0), some (.int 0), some (.int 0)] [] σ
  refine a_lconst C dX12_word_0 (v := 0) rfl ?_
  refine a_iload_n C dX12_word_1 (i := 0) rfl rfl ?_
  refine a_callSl C (i_app1 hid (by decide)) ms_X12_appends ml_RX12_165 rfl rfl (Nat.le_of_ble_eq_true rfl) (Nat.le_of_ble_eq_true rfl) (Nat.le_of_ble_eq_true rfl) dX12_word_2 (fun r1 σ2 q3 => ?_)
  obtain ⟨rfl, q3⟩ := q3
  rw [q3]
  refine a_iload_n C dX12_word_5 (i := 1) rfl rfl ?_
  refine a_callSl C (i_app1 hid (by decide)) ms_X12_appends ml_RX12_165 rfl rfl (Nat.le_of_ble_eq_true rfl) (Nat.le_of_ble_eq_true rfl) (Nat.le_of_ble_eq_true rfl) dX12_word_6 (fun r4 σ5 q6 => ?_)
  obtain ⟨rfl, q6⟩ := q6
  rw [q6]
  refine a_iload_n C dX12_word_9 (i := 2) rfl rfl ?_
  refine a_callSl C (i_app1 hid (by decide)) ms_X12_appends ml_RX12_165 rfl rfl (Nat.le_of_ble_eq_true rfl) (Nat.le_of_ble_eq_true rfl) (Nat.le_of_ble_eq_true rfl) dX12_word_10 (fun r7 σ8 q9 => ?_)
  obtain ⟨rfl, q9⟩ := q9
  rw [q9]
  refine a_iload_n C dX12_word_13 (i := 3) rfl rfl ?_
  refine a_callSl C (i_app1 hid (by decide)) ms_X12_appends ml_RX12_165 rfl rfl (Nat.le_of_ble_eq_true rfl) (Nat.le_of_ble_eq_true rfl) (Nat.le_of_ble_eq_true rfl) dX12_word_14 (fun r10 σ11 q12 => ?_)
  obtain ⟨rfl, q12⟩ := q12
  rw [q12]
  refine a_iload C dX12_word_17 rfl ?_
  refine a_callSl C (i_app0 hid) ms_X12_appends ml_RX12_165 rfl rfl (Nat.le_of_ble_eq_true rfl) (Nat.le_of_ble_eq_true rfl) (Nat.le_of_ble_eq_true rfl) dX12_word_19 (fun r13 σ14 q15 => ?_)
  obtain ⟨rfl, q15⟩ := q15
  rw [q15]
  refine a_iload C dX12_word_22 rfl ?_
  refine a_callSl C (i_app0 hid) ms_X12_appends ml_RX12_165 rfl rfl (Nat.le_of_ble_eq_true rfl) (Nat.le_of_ble_eq_true rfl) (Nat.le_of_ble_eq_true rfl) dX12_word_24 (fun r16 σ17 q18 => ?_)
  obtain ⟨rfl, q18⟩ := q18
  rw [q18]
  refine a_iload C dX12_word_27 rfl ?_
  refine a_callSl C (i_app0 hid) ms_X12_appends ml_RX12_165 rfl rfl (Nat.le_of_ble_eq_true rfl) (Nat.le_of_ble_eq_true rfl) (Nat.le_of_ble_eq_true rfl) dX12_word_29 (fun r19 σ20 q21 => ?_)
  obtain ⟨rfl, q21⟩ := q21
  rw [q21]
  exact a_lret Rt dX12_word_32 (⟨rfl, rfl⟩)
set_option maxHeartbeats 4000000 in
set_option maxRecDepth 100000 in
theorem i_word_6 {l : Launch} {D : va_G} {ids : List Nat} {ad : Nat → Nat} {ca : Nat → ClassId} {σ : HS} (hid : ∀ i, 236 ≤ i ∧ i < 277 → i ∈ ids) : Kl l D ids ad ca yX12_word cX12_word 7 1 22 [.int 114, .int 101, .int 115, .int 116, .int 115, .int 0, .int 0] σ (fun r σ1 => r = 9678763 ∧ σ1 = σ) := by
  refine Kl.of (by decide) (Nat.le_of_ble_eq_true rfl) 0 (fun Γ C Rt => ?_)
  show AW ids ad ca Γ 0 [some (.int 114), some (.int 101), some (.int 115), some (.int 116), some (.int 115), some (.int 0), some (.int 0)] [] σ
  refine a_lconst C dX12_word_0 (v := 0) rfl ?_
  refine a_iload_n C dX12_word_1 (i := 0) rfl rfl ?_
  refine a_callSl C (i_app1 hid (by decide)) ms_X12_appends ml_RX12_165 rfl rfl (Nat.le_of_ble_eq_true rfl) (Nat.le_of_ble_eq_true rfl) (Nat.le_of_ble_eq_true rfl) dX12_word_2 (fun r1 σ2 q3 => ?_)
  obtain ⟨rfl, q3⟩ := q3
  rw [q3]
  refine a_iload_n C dX12_word_5 (i := 1) rfl rfl ?_
  refine a_callSl C (i_app1 hid (by decide)) ms_X12_appends ml_RX12_165 rfl rfl (Nat.le_of_ble_eq_true rfl) (Nat.le_of_ble_eq_true rfl) (Nat.le_of_ble_eq_true rfl) dX12_word_6 (fun r4 σ5 q6 => ?_)
  obtain ⟨rfl, q6⟩ := q6
  rw [q6]
  refine a_iload_n C dX12_word_9 (i := 2) rfl rfl ?_
  refine a_callSl C (i_app1 hid (by decide)) ms_X12_appends ml_RX12_165 rfl rfl (Nat.le_of_ble_eq_true rfl) (Nat.le_of_ble_eq_true rfl) (Nat.le_of_ble_eq_true rfl) dX12_word_10 (fun r7 σ8 q9 => ?_)
  obtain ⟨rfl, q9⟩ := q9
  rw [q9]
  refine a_iload_n C dX12_word_13 (i := 3) rfl rfl ?_
  refine a_callSl C (i_app1 hid (by decide)) ms_X12_appends ml_RX12_165 rfl rfl (Nat.le_of_ble_eq_true rfl) (Nat.le_of_ble_eq_true rfl) (Nat.le_of_ble_eq_true rfl) dX12_word_14 (fun r10 σ11 q12 => ?_)
  obtain ⟨rfl, q12⟩ := q12
  rw [q12]
  refine a_iload C dX12_word_17 rfl ?_
  refine a_callSl C (i_app1 hid (by decide)) ms_X12_appends ml_RX12_165 rfl rfl (Nat.le_of_ble_eq_true rfl) (Nat.le_of_ble_eq_true rfl) (Nat.le_of_ble_eq_true rfl) dX12_word_19 (fun r13 σ14 q15 => ?_)
  obtain ⟨rfl, q15⟩ := q15
  rw [q15]
  refine a_iload C dX12_word_22 rfl ?_
  refine a_callSl C (i_app0 hid) ms_X12_appends ml_RX12_165 rfl rfl (Nat.le_of_ble_eq_true rfl) (Nat.le_of_ble_eq_true rfl) (Nat.le_of_ble_eq_true rfl) dX12_word_24 (fun r16 σ17 q18 => ?_)
  obtain ⟨rfl, q18⟩ := q18
  rw [q18]
  refine a_iload C dX12_word_27 rfl ?_
  refine a_callSl C (i_app0 hid) ms_X12_appends ml_RX12_165 rfl rfl (Nat.le_of_ble_eq_true rfl) (Nat.le_of_ble_eq_true rfl) (Nat.le_of_ble_eq_true rfl) dX12_word_29 (fun r19 σ20 q21 => ?_)
  obtain ⟨rfl, q21⟩ := q21
  rw [q21]
  exact a_lret Rt dX12_word_32 (⟨rfl, rfl⟩)
set_option maxHeartbeats 4000000 in
set_option maxRecDepth 100000 in
theorem i_word_7 {l : Launch} {D : va_G} {ids : List Nat} {ad : Nat → Nat} {ca : Nat → ClassId} {σ : HS} (hid : ∀ i, 236 ≤ i ∧ i < 277 → i ∈ ids) : Kl l D ids ad ca yX12_word cX12_word 7 1 22 [.int 115, .int 101, .int 101, .int 100, .int 0, .int 0, .int 0] σ (fun r σ1 => r = 377761 ∧ σ1 = σ) := by
  refine Kl.of (by decide) (Nat.le_of_ble_eq_true rfl) 0 (fun Γ C Rt => ?_)
  show AW ids ad ca Γ 0 [some (.int 115), some (.int 101), some (.int 101), some (.int 100), some (.int 0), some (.int 0), some (.int 0)] [] σ
  refine a_lconst C dX12_word_0 (v := 0) rfl ?_
  refine a_iload_n C dX12_word_1 (i := 0) rfl rfl ?_
  refine a_callSl C (i_app1 hid (by decide)) ms_X12_appends ml_RX12_165 rfl rfl (Nat.le_of_ble_eq_true rfl) (Nat.le_of_ble_eq_true rfl) (Nat.le_of_ble_eq_true rfl) dX12_word_2 (fun r1 σ2 q3 => ?_)
  obtain ⟨rfl, q3⟩ := q3
  rw [q3]
  refine a_iload_n C dX12_word_5 (i := 1) rfl rfl ?_
  refine a_callSl C (i_app1 hid (by decide)) ms_X12_appends ml_RX12_165 rfl rfl (Nat.le_of_ble_eq_true rfl) (Nat.le_of_ble_eq_true rfl) (Nat.le_of_ble_eq_true rfl) dX12_word_6 (fun r4 σ5 q6 => ?_)
  obtain ⟨rfl, q6⟩ := q6
  rw [q6]
  refine a_iload_n C dX12_word_9 (i := 2) rfl rfl ?_
  refine a_callSl C (i_app1 hid (by decide)) ms_X12_appends ml_RX12_165 rfl rfl (Nat.le_of_ble_eq_true rfl) (Nat.le_of_ble_eq_true rfl) (Nat.le_of_ble_eq_true rfl) dX12_word_10 (fun r7 σ8 q9 => ?_)
  obtain ⟨rfl, q9⟩ := q9
  rw [q9]
  refine a_iload_n C dX12_word_13 (i := 3) rfl rfl ?_
  refine a_callSl C (i_app1 hid (by decide)) ms_X12_appends ml_RX12_165 rfl rfl (Nat.le_of_ble_eq_true rfl) (Nat.le_of_ble_eq_true rfl) (Nat.le_of_ble_eq_true rfl) dX12_word_14 (fun r10 σ11 q12 => ?_)
  obtain ⟨rfl, q12⟩ := q12
  rw [q12]
  refine a_iload C dX12_word_17 rfl ?_
  refine a_callSl C (i_app0 hid) ms_X12_appends ml_RX12_165 rfl rfl (Nat.le_of_ble_eq_true rfl) (Nat.le_of_ble_eq_true rfl) (Nat.le_of_ble_eq_true rfl) dX12_word_19 (fun r13 σ14 q15 => ?_)
  obtain ⟨rfl, q15⟩ := q15
  rw [q15]
  refine a_iload C dX12_word_22 rfl ?_
  refine a_callSl C (i_app0 hid) ms_X12_appends ml_RX12_165 rfl rfl (Nat.le_of_ble_eq_true rfl) (Nat.le_of_ble_eq_true rfl) (Nat.le_of_ble_eq_true rfl) dX12_word_24 (fun r16 σ17 q18 => ?_)
  obtain ⟨rfl, q18⟩ := q18
  rw [q18]
  refine a_iload C dX12_word_27 rfl ?_
  refine a_callSl C (i_app0 hid) ms_X12_appends ml_RX12_165 rfl rfl (Nat.le_of_ble_eq_true rfl) (Nat.le_of_ble_eq_true rfl) (Nat.le_of_ble_eq_true rfl) dX12_word_29 (fun r19 σ20 q21 => ?_)
  obtain ⟨rfl, q21⟩ := q21
  rw [q21]
  exact a_lret Rt dX12_word_32 (⟨rfl, rfl⟩)
set_option maxHeartbeats 4000000 in
set_option maxRecDepth 100000 in
theorem i_word_8 {l : Launch} {D : va_G} {ids : List Nat} {ad : Nat → Nat} {ca : Nat → ClassId} {σ : HS} (hid : ∀ i, 236 ≤ i ∧ i < 277 → i ∈ ids) : Kl l D ids ad ca yX12_word cX12_word 7 1 22 [.int 105, .int 102, .int 0, .int 0, .int 0, .int 0, .int 0] σ (fun r σ1 => r = 249 ∧ σ1 = σ) := by
  refine Kl.of (by decide) (Nat.le_of_ble_eq_true rfl) 0 (fun Γ C Rt => ?_)
  show AW ids ad ca Γ 0 [some (.int 105), some (.int 102), some (.int 0), some (.int 0), some (.int 0), some (.int 0), some (.int 0)] [] σ
  refine a_lconst C dX12_word_0 (v := 0) rfl ?_
  refine a_iload_n C dX12_word_1 (i := 0) rfl rfl ?_
  refine a_callSl C (i_app1 hid (by decide)) ms_X12_appends ml_RX12_165 rfl rfl (Nat.le_of_ble_eq_true rfl) (Nat.le_of_ble_eq_true rfl) (Nat.le_of_ble_eq_true rfl) dX12_word_2 (fun r1 σ2 q3 => ?_)
  obtain ⟨rfl, q3⟩ := q3
  rw [q3]
  refine a_iload_n C dX12_word_5 (i := 1) rfl rfl ?_
  refine a_callSl C (i_app1 hid (by decide)) ms_X12_appends ml_RX12_165 rfl rfl (Nat.le_of_ble_eq_true rfl) (Nat.le_of_ble_eq_true rfl) (Nat.le_of_ble_eq_true rfl) dX12_word_6 (fun r4 σ5 q6 => ?_)
  obtain ⟨rfl, q6⟩ := q6
  rw [q6]
  refine a_iload_n C dX12_word_9 (i := 2) rfl rfl ?_
  refine a_callSl C (i_app0 hid) ms_X12_appends ml_RX12_165 rfl rfl (Nat.le_of_ble_eq_true rfl) (Nat.le_of_ble_eq_true rfl) (Nat.le_of_ble_eq_true rfl) dX12_word_10 (fun r7 σ8 q9 => ?_)
  obtain ⟨rfl, q9⟩ := q9
  rw [q9]
  refine a_iload_n C dX12_word_13 (i := 3) rfl rfl ?_
  refine a_callSl C (i_app0 hid) ms_X12_appends ml_RX12_165 rfl rfl (Nat.le_of_ble_eq_true rfl) (Nat.le_of_ble_eq_true rfl) (Nat.le_of_ble_eq_true rfl) dX12_word_14 (fun r10 σ11 q12 => ?_)
  obtain ⟨rfl, q12⟩ := q12
  rw [q12]
  refine a_iload C dX12_word_17 rfl ?_
  refine a_callSl C (i_app0 hid) ms_X12_appends ml_RX12_165 rfl rfl (Nat.le_of_ble_eq_true rfl) (Nat.le_of_ble_eq_true rfl) (Nat.le_of_ble_eq_true rfl) dX12_word_19 (fun r13 σ14 q15 => ?_)
  obtain ⟨rfl, q15⟩ := q15
  rw [q15]
  refine a_iload C dX12_word_22 rfl ?_
  refine a_callSl C (i_app0 hid) ms_X12_appends ml_RX12_165 rfl rfl (Nat.le_of_ble_eq_true rfl) (Nat.le_of_ble_eq_true rfl) (Nat.le_of_ble_eq_true rfl) dX12_word_24 (fun r16 σ17 q18 => ?_)
  obtain ⟨rfl, q18⟩ := q18
  rw [q18]
  refine a_iload C dX12_word_27 rfl ?_
  refine a_callSl C (i_app0 hid) ms_X12_appends ml_RX12_165 rfl rfl (Nat.le_of_ble_eq_true rfl) (Nat.le_of_ble_eq_true rfl) (Nat.le_of_ble_eq_true rfl) dX12_word_29 (fun r19 σ20 q21 => ?_)
  obtain ⟨rfl, q21⟩ := q21
  rw [q21]
  exact a_lret Rt dX12_word_32 (⟨rfl, rfl⟩)
set_option maxHeartbeats 4000000 in
set_option maxRecDepth 100000 in
theorem i_word_9 {l : Launch} {D : va_G} {ids : List Nat} {ad : Nat → Nat} {ca : Nat → ClassId} {σ : HS} (hid : ∀ i, 236 ≤ i ∧ i < 277 → i ∈ ids) : Kl l D ids ad ca yX12_word cX12_word 7 1 22 [.int 116, .int 104, .int 101, .int 110, .int 0, .int 0, .int 0] σ (fun r σ1 => r = 399641 ∧ σ1 = σ) := by
  refine Kl.of (by decide) (Nat.le_of_ble_eq_true rfl) 0 (fun Γ C Rt => ?_)
  show AW ids ad ca Γ 0 [some (.int 116), some (.int 104), some (.int 101), some (.int 110), some (.int 0), some (.int 0), some (.int 0)] [] σ
  refine a_lconst C dX12_word_0 (v := 0) rfl ?_
  refine a_iload_n C dX12_word_1 (i := 0) rfl rfl ?_
  refine a_callSl C (i_app1 hid (by decide)) ms_X12_appends ml_RX12_165 rfl rfl (Nat.le_of_ble_eq_true rfl) (Nat.le_of_ble_eq_true rfl) (Nat.le_of_ble_eq_true rfl) dX12_word_2 (fun r1 σ2 q3 => ?_)
  obtain ⟨rfl, q3⟩ := q3
  rw [q3]
  refine a_iload_n C dX12_word_5 (i := 1) rfl rfl ?_
  refine a_callSl C (i_app1 hid (by decide)) ms_X12_appends ml_RX12_165 rfl rfl (Nat.le_of_ble_eq_true rfl) (Nat.le_of_ble_eq_true rfl) (Nat.le_of_ble_eq_true rfl) dX12_word_6 (fun r4 σ5 q6 => ?_)
  obtain ⟨rfl, q6⟩ := q6
  rw [q6]
  refine a_iload_n C dX12_word_9 (i := 2) rfl rfl ?_
  refine a_callSl C (i_app1 hid (by decide)) ms_X12_appends ml_RX12_165 rfl rfl (Nat.le_of_ble_eq_true rfl) (Nat.le_of_ble_eq_true rfl) (Nat.le_of_ble_eq_true rfl) dX12_word_10 (fun r7 σ8 q9 => ?_)
  obtain ⟨rfl, q9⟩ := q9
  rw [q9]
  refine a_iload_n C dX12_word_13 (i := 3) rfl rfl ?_
  refine a_callSl C (i_app1 hid (by decide)) ms_X12_appends ml_RX12_165 rfl rfl (Nat.le_of_ble_eq_true rfl) (Nat.le_of_ble_eq_true rfl) (Nat.le_of_ble_eq_true rfl) dX12_word_14 (fun r10 σ11 q12 => ?_)
  obtain ⟨rfl, q12⟩ := q12
  rw [q12]
  refine a_iload C dX12_word_17 rfl ?_
  refine a_callSl C (i_app0 hid) ms_X12_appends ml_RX12_165 rfl rfl (Nat.le_of_ble_eq_true rfl) (Nat.le_of_ble_eq_true rfl) (Nat.le_of_ble_eq_true rfl) dX12_word_19 (fun r13 σ14 q15 => ?_)
  obtain ⟨rfl, q15⟩ := q15
  rw [q15]
  refine a_iload C dX12_word_22 rfl ?_
  refine a_callSl C (i_app0 hid) ms_X12_appends ml_RX12_165 rfl rfl (Nat.le_of_ble_eq_true rfl) (Nat.le_of_ble_eq_true rfl) (Nat.le_of_ble_eq_true rfl) dX12_word_24 (fun r16 σ17 q18 => ?_)
  obtain ⟨rfl, q18⟩ := q18
  rw [q18]
  refine a_iload C dX12_word_27 rfl ?_
  refine a_callSl C (i_app0 hid) ms_X12_appends ml_RX12_165 rfl rfl (Nat.le_of_ble_eq_true rfl) (Nat.le_of_ble_eq_true rfl) (Nat.le_of_ble_eq_true rfl) dX12_word_29 (fun r19 σ20 q21 => ?_)
  obtain ⟨rfl, q21⟩ := q21
  rw [q21]
  exact a_lret Rt dX12_word_32 (⟨rfl, rfl⟩)
set_option maxHeartbeats 4000000 in
set_option maxRecDepth 100000 in
theorem i_word_10 {l : Launch} {D : va_G} {ids : List Nat} {ad : Nat → Nat} {ca : Nat → ClassId} {σ : HS} (hid : ∀ i, 236 ≤ i ∧ i < 277 → i ∈ ids) : Kl l D ids ad ca yX12_word cX12_word 7 1 22 [.int 101, .int 108, .int 115, .int 101, .int 0, .int 0, .int 0] σ (fun r σ1 => r = 107681 ∧ σ1 = σ) := by
  refine Kl.of (by decide) (Nat.le_of_ble_eq_true rfl) 0 (fun Γ C Rt => ?_)
  show AW ids ad ca Γ 0 [some (.int 101), some (.int 108), some (.int 115), some (.int 101), some (.int 0), some (.int 0), some (.int 0)] [] σ
  refine a_lconst C dX12_word_0 (v := 0) rfl ?_
  refine a_iload_n C dX12_word_1 (i := 0) rfl rfl ?_
  refine a_callSl C (i_app1 hid (by decide)) ms_X12_appends ml_RX12_165 rfl rfl (Nat.le_of_ble_eq_true rfl) (Nat.le_of_ble_eq_true rfl) (Nat.le_of_ble_eq_true rfl) dX12_word_2 (fun r1 σ2 q3 => ?_)
  obtain ⟨rfl, q3⟩ := q3
  rw [q3]
  refine a_iload_n C dX12_word_5 (i := 1) rfl rfl ?_
  refine a_callSl C (i_app1 hid (by decide)) ms_X12_appends ml_RX12_165 rfl rfl (Nat.le_of_ble_eq_true rfl) (Nat.le_of_ble_eq_true rfl) (Nat.le_of_ble_eq_true rfl) dX12_word_6 (fun r4 σ5 q6 => ?_)
  obtain ⟨rfl, q6⟩ := q6
  rw [q6]
  refine a_iload_n C dX12_word_9 (i := 2) rfl rfl ?_
  refine a_callSl C (i_app1 hid (by decide)) ms_X12_appends ml_RX12_165 rfl rfl (Nat.le_of_ble_eq_true rfl) (Nat.le_of_ble_eq_true rfl) (Nat.le_of_ble_eq_true rfl) dX12_word_10 (fun r7 σ8 q9 => ?_)
  obtain ⟨rfl, q9⟩ := q9
  rw [q9]
  refine a_iload_n C dX12_word_13 (i := 3) rfl rfl ?_
  refine a_callSl C (i_app1 hid (by decide)) ms_X12_appends ml_RX12_165 rfl rfl (Nat.le_of_ble_eq_true rfl) (Nat.le_of_ble_eq_true rfl) (Nat.le_of_ble_eq_true rfl) dX12_word_14 (fun r10 σ11 q12 => ?_)
  obtain ⟨rfl, q12⟩ := q12
  rw [q12]
  refine a_iload C dX12_word_17 rfl ?_
  refine a_callSl C (i_app0 hid) ms_X12_appends ml_RX12_165 rfl rfl (Nat.le_of_ble_eq_true rfl) (Nat.le_of_ble_eq_true rfl) (Nat.le_of_ble_eq_true rfl) dX12_word_19 (fun r13 σ14 q15 => ?_)
  obtain ⟨rfl, q15⟩ := q15
  rw [q15]
  refine a_iload C dX12_word_22 rfl ?_
  refine a_callSl C (i_app0 hid) ms_X12_appends ml_RX12_165 rfl rfl (Nat.le_of_ble_eq_true rfl) (Nat.le_of_ble_eq_true rfl) (Nat.le_of_ble_eq_true rfl) dX12_word_24 (fun r16 σ17 q18 => ?_)
  obtain ⟨rfl, q18⟩ := q18
  rw [q18]
  refine a_iload C dX12_word_27 rfl ?_
  refine a_callSl C (i_app0 hid) ms_X12_appends ml_RX12_165 rfl rfl (Nat.le_of_ble_eq_true rfl) (Nat.le_of_ble_eq_true rfl) (Nat.le_of_ble_eq_true rfl) dX12_word_29 (fun r19 σ20 q21 => ?_)
  obtain ⟨rfl, q21⟩ := q21
  rw [q21]
  exact a_lret Rt dX12_word_32 (⟨rfl, rfl⟩)
set_option maxHeartbeats 4000000 in
set_option maxRecDepth 100000 in
theorem i_word_11 {l : Launch} {D : va_G} {ids : List Nat} {ad : Nat → Nat} {ca : Nat → ClassId} {σ : HS} (hid : ∀ i, 236 ≤ i ∧ i < 277 → i ∈ ids) : Kl l D ids ad ca yX12_word cX12_word 7 1 22 [.int 119, .int 101, .int 105, .int 103, .int 104, .int 116, .int 0] σ (fun r σ1 => r = 332864552 ∧ σ1 = σ) := by
  refine Kl.of (by decide) (Nat.le_of_ble_eq_true rfl) 0 (fun Γ C Rt => ?_)
  show AW ids ad ca Γ 0 [some (.int 119), some (.int 101), some (.int 105), some (.int 103), some (.int 104), some (.int 116), some (.int 0)] [] σ
  refine a_lconst C dX12_word_0 (v := 0) rfl ?_
  refine a_iload_n C dX12_word_1 (i := 0) rfl rfl ?_
  refine a_callSl C (i_app1 hid (by decide)) ms_X12_appends ml_RX12_165 rfl rfl (Nat.le_of_ble_eq_true rfl) (Nat.le_of_ble_eq_true rfl) (Nat.le_of_ble_eq_true rfl) dX12_word_2 (fun r1 σ2 q3 => ?_)
  obtain ⟨rfl, q3⟩ := q3
  rw [q3]
  refine a_iload_n C dX12_word_5 (i := 1) rfl rfl ?_
  refine a_callSl C (i_app1 hid (by decide)) ms_X12_appends ml_RX12_165 rfl rfl (Nat.le_of_ble_eq_true rfl) (Nat.le_of_ble_eq_true rfl) (Nat.le_of_ble_eq_true rfl) dX12_word_6 (fun r4 σ5 q6 => ?_)
  obtain ⟨rfl, q6⟩ := q6
  rw [q6]
  refine a_iload_n C dX12_word_9 (i := 2) rfl rfl ?_
  refine a_callSl C (i_app1 hid (by decide)) ms_X12_appends ml_RX12_165 rfl rfl (Nat.le_of_ble_eq_true rfl) (Nat.le_of_ble_eq_true rfl) (Nat.le_of_ble_eq_true rfl) dX12_word_10 (fun r7 σ8 q9 => ?_)
  obtain ⟨rfl, q9⟩ := q9
  rw [q9]
  refine a_iload_n C dX12_word_13 (i := 3) rfl rfl ?_
  refine a_callSl C (i_app1 hid (by decide)) ms_X12_appends ml_RX12_165 rfl rfl (Nat.le_of_ble_eq_true rfl) (Nat.le_of_ble_eq_true rfl) (Nat.le_of_ble_eq_true rfl) dX12_word_14 (fun r10 σ11 q12 => ?_)
  obtain ⟨rfl, q12⟩ := q12
  rw [q12]
  refine a_iload C dX12_word_17 rfl ?_
  refine a_callSl C (i_app1 hid (by decide)) ms_X12_appends ml_RX12_165 rfl rfl (Nat.le_of_ble_eq_true rfl) (Nat.le_of_ble_eq_true rfl) (Nat.le_of_ble_eq_true rfl) dX12_word_19 (fun r13 σ14 q15 => ?_)
  obtain ⟨rfl, q15⟩ := q15
  rw [q15]
  refine a_iload C dX12_word_22 rfl ?_
  refine a_callSl C (i_app1 hid (by decide)) ms_X12_appends ml_RX12_165 rfl rfl (Nat.le_of_ble_eq_true rfl) (Nat.le_of_ble_eq_true rfl) (Nat.le_of_ble_eq_true rfl) dX12_word_24 (fun r16 σ17 q18 => ?_)
  obtain ⟨rfl, q18⟩ := q18
  rw [q18]
  refine a_iload C dX12_word_27 rfl ?_
  refine a_callSl C (i_app0 hid) ms_X12_appends ml_RX12_165 rfl rfl (Nat.le_of_ble_eq_true rfl) (Nat.le_of_ble_eq_true rfl) (Nat.le_of_ble_eq_true rfl) dX12_word_29 (fun r19 σ20 q21 => ?_)
  obtain ⟨rfl, q21⟩ := q21
  rw [q21]
  exact a_lret Rt dX12_word_32 (⟨rfl, rfl⟩)
set_option maxHeartbeats 4000000 in
set_option maxRecDepth 100000 in
theorem i_word_12 {l : Launch} {D : va_G} {ids : List Nat} {ad : Nat → Nat} {ca : Nat → ClassId} {σ : HS} (hid : ∀ i, 236 ≤ i ∧ i < 277 → i ∈ ids) : Kl l D ids ad ca yX12_word cX12_word 7 1 22 [.int 101, .int 100, .int 103, .int 101, .int 0, .int 0, .int 0] σ (fun r σ1 => r = 101525 ∧ σ1 = σ) := by
  refine Kl.of (by decide) (Nat.le_of_ble_eq_true rfl) 0 (fun Γ C Rt => ?_)
  show AW ids ad ca Γ 0 [some (.int 101), some (.int 100), some (.int 103), some (.int 101), some (.int 0), some (.int 0), some (.int 0)] [] σ
  refine a_lconst C dX12_word_0 (v := 0) rfl ?_
  refine a_iload_n C dX12_word_1 (i := 0) rfl rfl ?_
  refine a_callSl C (i_app1 hid (by decide)) ms_X12_appends ml_RX12_165 rfl rfl (Nat.le_of_ble_eq_true rfl) (Nat.le_of_ble_eq_true rfl) (Nat.le_of_ble_eq_true rfl) dX12_word_2 (fun r1 σ2 q3 => ?_)
  obtain ⟨rfl, q3⟩ := q3
  rw [q3]
  refine a_iload_n C dX12_word_5 (i := 1) rfl rfl ?_
  refine a_callSl C (i_app1 hid (by decide)) ms_X12_appends ml_RX12_165 rfl rfl (Nat.le_of_ble_eq_true rfl) (Nat.le_of_ble_eq_true rfl) (Nat.le_of_ble_eq_true rfl) dX12_word_6 (fun r4 σ5 q6 => ?_)
  obtain ⟨rfl, q6⟩ := q6
  rw [q6]
  refine a_iload_n C dX12_word_9 (i := 2) rfl rfl ?_
  refine a_callSl C (i_app1 hid (by decide)) ms_X12_appends ml_RX12_165 rfl rfl (Nat.le_of_ble_eq_true rfl) (Nat.le_of_ble_eq_true rfl) (Nat.le_of_ble_eq_true rfl) dX12_word_10 (fun r7 σ8 q9 => ?_)
  obtain ⟨rfl, q9⟩ := q9
  rw [q9]
  refine a_iload_n C dX12_word_13 (i := 3) rfl rfl ?_
  refine a_callSl C (i_app1 hid (by decide)) ms_X12_appends ml_RX12_165 rfl rfl (Nat.le_of_ble_eq_true rfl) (Nat.le_of_ble_eq_true rfl) (Nat.le_of_ble_eq_true rfl) dX12_word_14 (fun r10 σ11 q12 => ?_)
  obtain ⟨rfl, q12⟩ := q12
  rw [q12]
  refine a_iload C dX12_word_17 rfl ?_
  refine a_callSl C (i_app0 hid) ms_X12_appends ml_RX12_165 rfl rfl (Nat.le_of_ble_eq_true rfl) (Nat.le_of_ble_eq_true rfl) (Nat.le_of_ble_eq_true rfl) dX12_word_19 (fun r13 σ14 q15 => ?_)
  obtain ⟨rfl, q15⟩ := q15
  rw [q15]
  refine a_iload C dX12_word_22 rfl ?_
  refine a_callSl C (i_app0 hid) ms_X12_appends ml_RX12_165 rfl rfl (Nat.le_of_ble_eq_true rfl) (Nat.le_of_ble_eq_true rfl) (Nat.le_of_ble_eq_true rfl) dX12_word_24 (fun r16 σ17 q18 => ?_)
  obtain ⟨rfl, q18⟩ := q18
  rw [q18]
  refine a_iload C dX12_word_27 rfl ?_
  refine a_callSl C (i_app0 hid) ms_X12_appends ml_RX12_165 rfl rfl (Nat.le_of_ble_eq_true rfl) (Nat.le_of_ble_eq_true rfl) (Nat.le_of_ble_eq_true rfl) dX12_word_29 (fun r19 σ20 q21 => ?_)
  obtain ⟨rfl, q21⟩ := q21
  rw [q21]
  exact a_lret Rt dX12_word_32 (⟨rfl, rfl⟩)
set_option maxHeartbeats 4000000 in
set_option maxRecDepth 100000 in
theorem i_word_13 {l : Launch} {D : va_G} {ids : List Nat} {ad : Nat → Nat} {ca : Nat → ClassId} {σ : HS} (hid : ∀ i, 236 ≤ i ∧ i < 277 → i ∈ ids) : Kl l D ids ad ca yX12_word cX12_word 7 1 22 [.int 104, .int 101, .int 105, .int 103, .int 104, .int 116, .int 0] σ (fun r σ1 => r = 117630947 ∧ σ1 = σ) := by
  refine Kl.of (by decide) (Nat.le_of_ble_eq_true rfl) 0 (fun Γ C Rt => ?_)
  show AW ids ad ca Γ 0 [some (.int 104), some (.int 101), some (.int 105), some (.int 103), some (.int 104), some (.int 116), some (.int 0)] [] σ
  refine a_lconst C dX12_word_0 (v := 0) rfl ?_
  refine a_iload_n C dX12_word_1 (i := 0) rfl rfl ?_
  refine a_callSl C (i_app1 hid (by decide)) ms_X12_appends ml_RX12_165 rfl rfl (Nat.le_of_ble_eq_true rfl) (Nat.le_of_ble_eq_true rfl) (Nat.le_of_ble_eq_true rfl) dX12_word_2 (fun r1 σ2 q3 => ?_)
  obtain ⟨rfl, q3⟩ := q3
  rw [q3]
  refine a_iload_n C dX12_word_5 (i := 1) rfl rfl ?_
  refine a_callSl C (i_app1 hid (by decide)) ms_X12_appends ml_RX12_165 rfl rfl (Nat.le_of_ble_eq_true rfl) (Nat.le_of_ble_eq_true rfl) (Nat.le_of_ble_eq_true rfl) dX12_word_6 (fun r4 σ5 q6 => ?_)
  obtain ⟨rfl, q6⟩ := q6
  rw [q6]
  refine a_iload_n C dX12_word_9 (i := 2) rfl rfl ?_
  refine a_callSl C (i_app1 hid (by decide)) ms_X12_appends ml_RX12_165 rfl rfl (Nat.le_of_ble_eq_true rfl) (Nat.le_of_ble_eq_true rfl) (Nat.le_of_ble_eq_true rfl) dX12_word_10 (fun r7 σ8 q9 => ?_)
  obtain ⟨rfl, q9⟩ := q9
  rw [q9]
  refine a_iload_n C dX12_word_13 (i := 3) rfl rfl ?_
  refine a_callSl C (i_app1 hid (by decide)) ms_X12_appends ml_RX12_165 rfl rfl (Nat.le_of_ble_eq_true rfl) (Nat.le_of_ble_eq_true rfl) (Nat.le_of_ble_eq_true rfl) dX12_word_14 (fun r10 σ11 q12 => ?_)
  obtain ⟨rfl, q12⟩ := q12
  rw [q12]
  refine a_iload C dX12_word_17 rfl ?_
  refine a_callSl C (i_app1 hid (by decide)) ms_X12_appends ml_RX12_165 rfl rfl (Nat.le_of_ble_eq_true rfl) (Nat.le_of_ble_eq_true rfl) (Nat.le_of_ble_eq_true rfl) dX12_word_19 (fun r13 σ14 q15 => ?_)
  obtain ⟨rfl, q15⟩ := q15
  rw [q15]
  refine a_iload C dX12_word_22 rfl ?_
  refine a_callSl C (i_app1 hid (by decide)) ms_X12_appends ml_RX12_165 rfl rfl (Nat.le_of_ble_eq_true rfl) (Nat.le_of_ble_eq_true rfl) (Nat.le_of_ble_eq_true rfl) dX12_word_24 (fun r16 σ17 q18 => ?_)
  obtain ⟨rfl, q18⟩ := q18
  rw [q18]
  refine a_iload C dX12_word_27 rfl ?_
  refine a_callSl C (i_app0 hid) ms_X12_appends ml_RX12_165 rfl rfl (Nat.le_of_ble_eq_true rfl) (Nat.le_of_ble_eq_true rfl) (Nat.le_of_ble_eq_true rfl) dX12_word_29 (fun r19 σ20 q21 => ?_)
  obtain ⟨rfl, q21⟩ := q21
  rw [q21]
  exact a_lret Rt dX12_word_32 (⟨rfl, rfl⟩)
set_option maxHeartbeats 4000000 in
set_option maxRecDepth 100000 in
theorem i_word_14 {l : Launch} {D : va_G} {ids : List Nat} {ad : Nat → Nat} {ca : Nat → ClassId} {σ : HS} (hid : ∀ i, 236 ≤ i ∧ i < 277 → i ∈ ids) : Kl l D ids ad ca yX12_word cX12_word 7 1 22 [.int 98, .int 101, .int 97, .int 116, .int 0, .int 0, .int 0] σ (fun r σ1 => r = 43058 ∧ σ1 = σ) := by
  refine Kl.of (by decide) (Nat.le_of_ble_eq_true rfl) 0 (fun Γ C Rt => ?_)
  show AW ids ad ca Γ 0 [some (.int 98), some (.int 101), some (.int 97), some (.int 116), some (.int 0), some (.int 0), some (.int 0)] [] σ
  refine a_lconst C dX12_word_0 (v := 0) rfl ?_
  refine a_iload_n C dX12_word_1 (i := 0) rfl rfl ?_
  refine a_callSl C (i_app1 hid (by decide)) ms_X12_appends ml_RX12_165 rfl rfl (Nat.le_of_ble_eq_true rfl) (Nat.le_of_ble_eq_true rfl) (Nat.le_of_ble_eq_true rfl) dX12_word_2 (fun r1 σ2 q3 => ?_)
  obtain ⟨rfl, q3⟩ := q3
  rw [q3]
  refine a_iload_n C dX12_word_5 (i := 1) rfl rfl ?_
  refine a_callSl C (i_app1 hid (by decide)) ms_X12_appends ml_RX12_165 rfl rfl (Nat.le_of_ble_eq_true rfl) (Nat.le_of_ble_eq_true rfl) (Nat.le_of_ble_eq_true rfl) dX12_word_6 (fun r4 σ5 q6 => ?_)
  obtain ⟨rfl, q6⟩ := q6
  rw [q6]
  refine a_iload_n C dX12_word_9 (i := 2) rfl rfl ?_
  refine a_callSl C (i_app1 hid (by decide)) ms_X12_appends ml_RX12_165 rfl rfl (Nat.le_of_ble_eq_true rfl) (Nat.le_of_ble_eq_true rfl) (Nat.le_of_ble_eq_true rfl) dX12_word_10 (fun r7 σ8 q9 => ?_)
  obtain ⟨rfl, q9⟩ := q9
  rw [q9]
  refine a_iload_n C dX12_word_13 (i := 3) rfl rfl ?_
  refine a_callSl C (i_app1 hid (by decide)) ms_X12_appends ml_RX12_165 rfl rfl (Nat.le_of_ble_eq_true rfl) (Nat.le_of_ble_eq_true rfl) (Nat.le_of_ble_eq_true rfl) dX12_word_14 (fun r10 σ11 q12 => ?_)
  obtain ⟨rfl, q12⟩ := q12
  rw [q12]
  refine a_iload C dX12_word_17 rfl ?_
  refine a_callSl C (i_app0 hid) ms_X12_appends ml_RX12_165 rfl rfl (Nat.le_of_ble_eq_true rfl) (Nat.le_of_ble_eq_true rfl) (Nat.le_of_ble_eq_true rfl) dX12_word_19 (fun r13 σ14 q15 => ?_)
  obtain ⟨rfl, q15⟩ := q15
  rw [q15]
  refine a_iload C dX12_word_22 rfl ?_
  refine a_callSl C (i_app0 hid) ms_X12_appends ml_RX12_165 rfl rfl (Nat.le_of_ble_eq_true rfl) (Nat.le_of_ble_eq_true rfl) (Nat.le_of_ble_eq_true rfl) dX12_word_24 (fun r16 σ17 q18 => ?_)
  obtain ⟨rfl, q18⟩ := q18
  rw [q18]
  refine a_iload C dX12_word_27 rfl ?_
  refine a_callSl C (i_app0 hid) ms_X12_appends ml_RX12_165 rfl rfl (Nat.le_of_ble_eq_true rfl) (Nat.le_of_ble_eq_true rfl) (Nat.le_of_ble_eq_true rfl) dX12_word_29 (fun r19 σ20 q21 => ?_)
  obtain ⟨rfl, q21⟩ := q21
  rw [q21]
  exact a_lret Rt dX12_word_32 (⟨rfl, rfl⟩)
set_option maxHeartbeats 4000000 in
set_option maxRecDepth 100000 in
theorem i_word_15 {l : Launch} {D : va_G} {ids : List Nat} {ad : Nat → Nat} {ca : Nat → ClassId} {σ : HS} (hid : ∀ i, 236 ≤ i ∧ i < 277 → i ∈ ids) : Kl l D ids ad ca yX12_word cX12_word 7 1 22 [.int 116, .int 105, .int 114, .int 101, .int 100, .int 0, .int 0] σ (fun r σ1 => r = 10819228 ∧ σ1 = σ) := by
  refine Kl.of (by decide) (Nat.le_of_ble_eq_true rfl) 0 (fun Γ C Rt => ?_)
  show AW ids ad ca Γ 0 [some (.int 116), some (.int 105), some (.int 114), some (.int 101), some (.int 100), some (.int 0), some (.int 0)] [] σ
  refine a_lconst C dX12_word_0 (v := 0) rfl ?_
  refine a_iload_n C dX12_word_1 (i := 0) rfl rfl ?_
  refine a_callSl C (i_app1 hid (by decide)) ms_X12_appends ml_RX12_165 rfl rfl (Nat.le_of_ble_eq_true rfl) (Nat.le_of_ble_eq_true rfl) (Nat.le_of_ble_eq_true rfl) dX12_word_2 (fun r1 σ2 q3 => ?_)
  obtain ⟨rfl, q3⟩ := q3
  rw [q3]
  refine a_iload_n C dX12_word_5 (i := 1) rfl rfl ?_
  refine a_callSl C (i_app1 hid (by decide)) ms_X12_appends ml_RX12_165 rfl rfl (Nat.le_of_ble_eq_true rfl) (Nat.le_of_ble_eq_true rfl) (Nat.le_of_ble_eq_true rfl) dX12_word_6 (fun r4 σ5 q6 => ?_)
  obtain ⟨rfl, q6⟩ := q6
  rw [q6]
  refine a_iload_n C dX12_word_9 (i := 2) rfl rfl ?_
  refine a_callSl C (i_app1 hid (by decide)) ms_X12_appends ml_RX12_165 rfl rfl (Nat.le_of_ble_eq_true rfl) (Nat.le_of_ble_eq_true rfl) (Nat.le_of_ble_eq_true rfl) dX12_word_10 (fun r7 σ8 q9 => ?_)
  obtain ⟨rfl, q9⟩ := q9
  rw [q9]
  refine a_iload_n C dX12_word_13 (i := 3) rfl rfl ?_
  refine a_callSl C (i_app1 hid (by decide)) ms_X12_appends ml_RX12_165 rfl rfl (Nat.le_of_ble_eq_true rfl) (Nat.le_of_ble_eq_true rfl) (Nat.le_of_ble_eq_true rfl) dX12_word_14 (fun r10 σ11 q12 => ?_)
  obtain ⟨rfl, q12⟩ := q12
  rw [q12]
  refine a_iload C dX12_word_17 rfl ?_
  refine a_callSl C (i_app1 hid (by decide)) ms_X12_appends ml_RX12_165 rfl rfl (Nat.le_of_ble_eq_true rfl) (Nat.le_of_ble_eq_true rfl) (Nat.le_of_ble_eq_true rfl) dX12_word_19 (fun r13 σ14 q15 => ?_)
  obtain ⟨rfl, q15⟩ := q15
  rw [q15]
  refine a_iload C dX12_word_22 rfl ?_
  refine a_callSl C (i_app0 hid) ms_X12_appends ml_RX12_165 rfl rfl (Nat.le_of_ble_eq_true rfl) (Nat.le_of_ble_eq_true rfl) (Nat.le_of_ble_eq_true rfl) dX12_word_24 (fun r16 σ17 q18 => ?_)
  obtain ⟨rfl, q18⟩ := q18
  rw [q18]
  refine a_iload C dX12_word_27 rfl ?_
  refine a_callSl C (i_app0 hid) ms_X12_appends ml_RX12_165 rfl rfl (Nat.le_of_ble_eq_true rfl) (Nat.le_of_ble_eq_true rfl) (Nat.le_of_ble_eq_true rfl) dX12_word_29 (fun r19 σ20 q21 => ?_)
  obtain ⟨rfl, q21⟩ := q21
  rw [q21]
  exact a_lret Rt dX12_word_32 (⟨rfl, rfl⟩)
set_option maxHeartbeats 4000000 in
set_option maxRecDepth 100000 in
theorem i_word_16 {l : Launch} {D : va_G} {ids : List Nat} {ad : Nat → Nat} {ca : Nat → ClassId} {σ : HS} (hid : ∀ i, 236 ≤ i ∧ i < 277 → i ∈ ids) : Kl l D ids ad ca yX12_word cX12_word 7 1 22 [.int 117, .int 112, .int 0, .int 0, .int 0, .int 0, .int 0] σ (fun r σ1 => r = 583 ∧ σ1 = σ) := by
  refine Kl.of (by decide) (Nat.le_of_ble_eq_true rfl) 0 (fun Γ C Rt => ?_)
  show AW ids ad ca Γ 0 [some (.int 117), some (.int 112), some (.int 0), some (.int 0), some (.int 0), some (.int 0), some (.int 0)] [] σ
  refine a_lconst C dX12_word_0 (v := 0) rfl ?_
  refine a_iload_n C dX12_word_1 (i := 0) rfl rfl ?_
  refine a_callSl C (i_app1 hid (by decide)) ms_X12_appends ml_RX12_165 rfl rfl (Nat.le_of_ble_eq_true rfl) (Nat.le_of_ble_eq_true rfl) (Nat.le_of_ble_eq_true rfl) dX12_word_2 (fun r1 σ2 q3 => ?_)
  obtain ⟨rfl, q3⟩ := q3
  rw [q3]
  refine a_iload_n C dX12_word_5 (i := 1) rfl rfl ?_
  refine a_callSl C (i_app1 hid (by decide)) ms_X12_appends ml_RX12_165 rfl rfl (Nat.le_of_ble_eq_true rfl) (Nat.le_of_ble_eq_true rfl) (Nat.le_of_ble_eq_true rfl) dX12_word_6 (fun r4 σ5 q6 => ?_)
  obtain ⟨rfl, q6⟩ := q6
  rw [q6]
  refine a_iload_n C dX12_word_9 (i := 2) rfl rfl ?_
  refine a_callSl C (i_app0 hid) ms_X12_appends ml_RX12_165 rfl rfl (Nat.le_of_ble_eq_true rfl) (Nat.le_of_ble_eq_true rfl) (Nat.le_of_ble_eq_true rfl) dX12_word_10 (fun r7 σ8 q9 => ?_)
  obtain ⟨rfl, q9⟩ := q9
  rw [q9]
  refine a_iload_n C dX12_word_13 (i := 3) rfl rfl ?_
  refine a_callSl C (i_app0 hid) ms_X12_appends ml_RX12_165 rfl rfl (Nat.le_of_ble_eq_true rfl) (Nat.le_of_ble_eq_true rfl) (Nat.le_of_ble_eq_true rfl) dX12_word_14 (fun r10 σ11 q12 => ?_)
  obtain ⟨rfl, q12⟩ := q12
  rw [q12]
  refine a_iload C dX12_word_17 rfl ?_
  refine a_callSl C (i_app0 hid) ms_X12_appends ml_RX12_165 rfl rfl (Nat.le_of_ble_eq_true rfl) (Nat.le_of_ble_eq_true rfl) (Nat.le_of_ble_eq_true rfl) dX12_word_19 (fun r13 σ14 q15 => ?_)
  obtain ⟨rfl, q15⟩ := q15
  rw [q15]
  refine a_iload C dX12_word_22 rfl ?_
  refine a_callSl C (i_app0 hid) ms_X12_appends ml_RX12_165 rfl rfl (Nat.le_of_ble_eq_true rfl) (Nat.le_of_ble_eq_true rfl) (Nat.le_of_ble_eq_true rfl) dX12_word_24 (fun r16 σ17 q18 => ?_)
  obtain ⟨rfl, q18⟩ := q18
  rw [q18]
  refine a_iload C dX12_word_27 rfl ?_
  refine a_callSl C (i_app0 hid) ms_X12_appends ml_RX12_165 rfl rfl (Nat.le_of_ble_eq_true rfl) (Nat.le_of_ble_eq_true rfl) (Nat.le_of_ble_eq_true rfl) dX12_word_29 (fun r19 σ20 q21 => ?_)
  obtain ⟨rfl, q21⟩ := q21
  rw [q21]
  exact a_lret Rt dX12_word_32 (⟨rfl, rfl⟩)
set_option maxHeartbeats 4000000 in
set_option maxRecDepth 100000 in
theorem i_word_17 {l : Launch} {D : va_G} {ids : List Nat} {ad : Nat → Nat} {ca : Nat → ClassId} {σ : HS} (hid : ∀ i, 236 ≤ i ∧ i < 277 → i ∈ ids) : Kl l D ids ad ca yX12_word cX12_word 7 1 22 [.int 119, .int 104, .int 105, .int 99, .int 104, .int 0, .int 0] σ (fun r σ1 => r = 12387257 ∧ σ1 = σ) := by
  refine Kl.of (by decide) (Nat.le_of_ble_eq_true rfl) 0 (fun Γ C Rt => ?_)
  show AW ids ad ca Γ 0 [some (.int 119), some (.int 104), some (.int 105), some (.int 99), some (.int 104), some (.int 0), some (.int 0)] [] σ
  refine a_lconst C dX12_word_0 (v := 0) rfl ?_
  refine a_iload_n C dX12_word_1 (i := 0) rfl rfl ?_
  refine a_callSl C (i_app1 hid (by decide)) ms_X12_appends ml_RX12_165 rfl rfl (Nat.le_of_ble_eq_true rfl) (Nat.le_of_ble_eq_true rfl) (Nat.le_of_ble_eq_true rfl) dX12_word_2 (fun r1 σ2 q3 => ?_)
  obtain ⟨rfl, q3⟩ := q3
  rw [q3]
  refine a_iload_n C dX12_word_5 (i := 1) rfl rfl ?_
  refine a_callSl C (i_app1 hid (by decide)) ms_X12_appends ml_RX12_165 rfl rfl (Nat.le_of_ble_eq_true rfl) (Nat.le_of_ble_eq_true rfl) (Nat.le_of_ble_eq_true rfl) dX12_word_6 (fun r4 σ5 q6 => ?_)
  obtain ⟨rfl, q6⟩ := q6
  rw [q6]
  refine a_iload_n C dX12_word_9 (i := 2) rfl rfl ?_
  refine a_callSl C (i_app1 hid (by decide)) ms_X12_appends ml_RX12_165 rfl rfl (Nat.le_of_ble_eq_true rfl) (Nat.le_of_ble_eq_true rfl) (Nat.le_of_ble_eq_true rfl) dX12_word_10 (fun r7 σ8 q9 => ?_)
  obtain ⟨rfl, q9⟩ := q9
  rw [q9]
  refine a_iload_n C dX12_word_13 (i := 3) rfl rfl ?_
  refine a_callSl C (i_app1 hid (by decide)) ms_X12_appends ml_RX12_165 rfl rfl (Nat.le_of_ble_eq_true rfl) (Nat.le_of_ble_eq_true rfl) (Nat.le_of_ble_eq_true rfl) dX12_word_14 (fun r10 σ11 q12 => ?_)
  obtain ⟨rfl, q12⟩ := q12
  rw [q12]
  refine a_iload C dX12_word_17 rfl ?_
  refine a_callSl C (i_app1 hid (by decide)) ms_X12_appends ml_RX12_165 rfl rfl (Nat.le_of_ble_eq_true rfl) (Nat.le_of_ble_eq_true rfl) (Nat.le_of_ble_eq_true rfl) dX12_word_19 (fun r13 σ14 q15 => ?_)
  obtain ⟨rfl, q15⟩ := q15
  rw [q15]
  refine a_iload C dX12_word_22 rfl ?_
  refine a_callSl C (i_app0 hid) ms_X12_appends ml_RX12_165 rfl rfl (Nat.le_of_ble_eq_true rfl) (Nat.le_of_ble_eq_true rfl) (Nat.le_of_ble_eq_true rfl) dX12_word_24 (fun r16 σ17 q18 => ?_)
  obtain ⟨rfl, q18⟩ := q18
  rw [q18]
  refine a_iload C dX12_word_27 rfl ?_
  refine a_callSl C (i_app0 hid) ms_X12_appends ml_RX12_165 rfl rfl (Nat.le_of_ble_eq_true rfl) (Nat.le_of_ble_eq_true rfl) (Nat.le_of_ble_eq_true rfl) dX12_word_29 (fun r19 σ20 q21 => ?_)
  obtain ⟨rfl, q21⟩ := q21
  rw [q21]
  exact a_lret Rt dX12_word_32 (⟨rfl, rfl⟩)
set_option maxHeartbeats 4000000 in
set_option maxRecDepth 100000 in
theorem i_word_18 {l : Launch} {D : va_G} {ids : List Nat} {ad : Nat → Nat} {ca : Nat → ClassId} {σ : HS} (hid : ∀ i, 236 ≤ i ∧ i < 277 → i ∈ ids) : Kl l D ids ad ca yX12_word cX12_word 7 1 22 [.int 99, .int 97, .int 117, .int 103, .int 104, .int 116, .int 0] σ (fun r σ1 => r = 43996844 ∧ σ1 = σ) := by
  refine Kl.of (by decide) (Nat.le_of_ble_eq_true rfl) 0 (fun Γ C Rt => ?_)
  show AW ids ad ca Γ 0 [some (.int 99), some (.int 97), some (.int 117), some (.int 103), some (.int 104), some (.int 116), some (.int 0)] [] σ
  refine a_lconst C dX12_word_0 (v := 0) rfl ?_
  refine a_iload_n C dX12_word_1 (i := 0) rfl rfl ?_
  refine a_callSl C (i_app1 hid (by decide)) ms_X12_appends ml_RX12_165 rfl rfl (Nat.le_of_ble_eq_true rfl) (Nat.le_of_ble_eq_true rfl) (Nat.le_of_ble_eq_true rfl) dX12_word_2 (fun r1 σ2 q3 => ?_)
  obtain ⟨rfl, q3⟩ := q3
  rw [q3]
  refine a_iload_n C dX12_word_5 (i := 1) rfl rfl ?_
  refine a_callSl C (i_app1 hid (by decide)) ms_X12_appends ml_RX12_165 rfl rfl (Nat.le_of_ble_eq_true rfl) (Nat.le_of_ble_eq_true rfl) (Nat.le_of_ble_eq_true rfl) dX12_word_6 (fun r4 σ5 q6 => ?_)
  obtain ⟨rfl, q6⟩ := q6
  rw [q6]
  refine a_iload_n C dX12_word_9 (i := 2) rfl rfl ?_
  refine a_callSl C (i_app1 hid (by decide)) ms_X12_appends ml_RX12_165 rfl rfl (Nat.le_of_ble_eq_true rfl) (Nat.le_of_ble_eq_true rfl) (Nat.le_of_ble_eq_true rfl) dX12_word_10 (fun r7 σ8 q9 => ?_)
  obtain ⟨rfl, q9⟩ := q9
  rw [q9]
  refine a_iload_n C dX12_word_13 (i := 3) rfl rfl ?_
  refine a_callSl C (i_app1 hid (by decide)) ms_X12_appends ml_RX12_165 rfl rfl (Nat.le_of_ble_eq_true rfl) (Nat.le_of_ble_eq_true rfl) (Nat.le_of_ble_eq_true rfl) dX12_word_14 (fun r10 σ11 q12 => ?_)
  obtain ⟨rfl, q12⟩ := q12
  rw [q12]
  refine a_iload C dX12_word_17 rfl ?_
  refine a_callSl C (i_app1 hid (by decide)) ms_X12_appends ml_RX12_165 rfl rfl (Nat.le_of_ble_eq_true rfl) (Nat.le_of_ble_eq_true rfl) (Nat.le_of_ble_eq_true rfl) dX12_word_19 (fun r13 σ14 q15 => ?_)
  obtain ⟨rfl, q15⟩ := q15
  rw [q15]
  refine a_iload C dX12_word_22 rfl ?_
  refine a_callSl C (i_app1 hid (by decide)) ms_X12_appends ml_RX12_165 rfl rfl (Nat.le_of_ble_eq_true rfl) (Nat.le_of_ble_eq_true rfl) (Nat.le_of_ble_eq_true rfl) dX12_word_24 (fun r16 σ17 q18 => ?_)
  obtain ⟨rfl, q18⟩ := q18
  rw [q18]
  refine a_iload C dX12_word_27 rfl ?_
  refine a_callSl C (i_app0 hid) ms_X12_appends ml_RX12_165 rfl rfl (Nat.le_of_ble_eq_true rfl) (Nat.le_of_ble_eq_true rfl) (Nat.le_of_ble_eq_true rfl) dX12_word_29 (fun r19 σ20 q21 => ?_)
  obtain ⟨rfl, q21⟩ := q21
  rw [q21]
  exact a_lret Rt dX12_word_32 (⟨rfl, rfl⟩)
set_option maxHeartbeats 4000000 in
set_option maxRecDepth 100000 in
theorem i_word_19 {l : Launch} {D : va_G} {ids : List Nat} {ad : Nat → Nat} {ca : Nat → ClassId} {σ : HS} (hid : ∀ i, 236 ≤ i ∧ i < 277 → i ∈ ids) : Kl l D ids ad ca yX12_word cX12_word 7 1 22 [.int 104, .int 97, .int 110, .int 100, .int 0, .int 0, .int 0] σ (fun r σ1 => r = 158575 ∧ σ1 = σ) := by
  refine Kl.of (by decide) (Nat.le_of_ble_eq_true rfl) 0 (fun Γ C Rt => ?_)
  show AW ids ad ca Γ 0 [some (.int 104), some (.int 97), some (.int 110), some (.int 100), some (.int 0), some (.int 0), some (.int 0)] [] σ
  refine a_lconst C dX12_word_0 (v := 0) rfl ?_
  refine a_iload_n C dX12_word_1 (i := 0) rfl rfl ?_
  refine a_callSl C (i_app1 hid (by decide)) ms_X12_appends ml_RX12_165 rfl rfl (Nat.le_of_ble_eq_true rfl) (Nat.le_of_ble_eq_true rfl) (Nat.le_of_ble_eq_true rfl) dX12_word_2 (fun r1 σ2 q3 => ?_)
  obtain ⟨rfl, q3⟩ := q3
  rw [q3]
  refine a_iload_n C dX12_word_5 (i := 1) rfl rfl ?_
  refine a_callSl C (i_app1 hid (by decide)) ms_X12_appends ml_RX12_165 rfl rfl (Nat.le_of_ble_eq_true rfl) (Nat.le_of_ble_eq_true rfl) (Nat.le_of_ble_eq_true rfl) dX12_word_6 (fun r4 σ5 q6 => ?_)
  obtain ⟨rfl, q6⟩ := q6
  rw [q6]
  refine a_iload_n C dX12_word_9 (i := 2) rfl rfl ?_
  refine a_callSl C (i_app1 hid (by decide)) ms_X12_appends ml_RX12_165 rfl rfl (Nat.le_of_ble_eq_true rfl) (Nat.le_of_ble_eq_true rfl) (Nat.le_of_ble_eq_true rfl) dX12_word_10 (fun r7 σ8 q9 => ?_)
  obtain ⟨rfl, q9⟩ := q9
  rw [q9]
  refine a_iload_n C dX12_word_13 (i := 3) rfl rfl ?_
  refine a_callSl C (i_app1 hid (by decide)) ms_X12_appends ml_RX12_165 rfl rfl (Nat.le_of_ble_eq_true rfl) (Nat.le_of_ble_eq_true rfl) (Nat.le_of_ble_eq_true rfl) dX12_word_14 (fun r10 σ11 q12 => ?_)
  obtain ⟨rfl, q12⟩ := q12
  rw [q12]
  refine a_iload C dX12_word_17 rfl ?_
  refine a_callSl C (i_app0 hid) ms_X12_appends ml_RX12_165 rfl rfl (Nat.le_of_ble_eq_true rfl) (Nat.le_of_ble_eq_true rfl) (Nat.le_of_ble_eq_true rfl) dX12_word_19 (fun r13 σ14 q15 => ?_)
  obtain ⟨rfl, q15⟩ := q15
  rw [q15]
  refine a_iload C dX12_word_22 rfl ?_
  refine a_callSl C (i_app0 hid) ms_X12_appends ml_RX12_165 rfl rfl (Nat.le_of_ble_eq_true rfl) (Nat.le_of_ble_eq_true rfl) (Nat.le_of_ble_eq_true rfl) dX12_word_24 (fun r16 σ17 q18 => ?_)
  obtain ⟨rfl, q18⟩ := q18
  rw [q18]
  refine a_iload C dX12_word_27 rfl ?_
  refine a_callSl C (i_app0 hid) ms_X12_appends ml_RX12_165 rfl rfl (Nat.le_of_ble_eq_true rfl) (Nat.le_of_ble_eq_true rfl) (Nat.le_of_ble_eq_true rfl) dX12_word_29 (fun r19 σ20 q21 => ?_)
  obtain ⟨rfl, q21⟩ := q21
  rw [q21]
  exact a_lret Rt dX12_word_32 (⟨rfl, rfl⟩)
set_option maxHeartbeats 4000000 in
set_option maxRecDepth 100000 in
theorem i_plain {l : Launch} {D : va_G} {ids : List Nat} {ad : Nat → Nat} {ca : Nat → ClassId} {σ : HS} (hid : ∀ i, 236 ≤ i ∧ i < 277 → i ∈ ids) : Kv l D ids ad ca yX12_plain cX12_plain 3 0 0 [.ref (ad 236), .int 0] σ (fun σ1 => σ1 = (hI (hI (hI (hI (hI (hI (hI (hI (hI (hI (hI (hI σ 245 0 0) 249 0 0) 252 0 1) 253 0 0) 254 0 0) 255 0 0) 254 1 0) 255 1 0) 254 2 0) 255 2 0) 254 3 0) 255 3 0)) := by
  refine Kv.of (by decide) (Nat.le_of_ble_eq_true rfl) 1 (fun Γ C Rt => ?_)
  show AW ids ad ca Γ 0 [some (.ref (ad 236)), some (.int 0), none] [] σ
  refine a_aload_n C dX12_plain_0 (i := 0) rfl rfl ?_
  refine a_get C fl_RX12_43 (i := 236) kd_236 (hid 236 (by decide)) (v := .ref (ad 245)) rfl dX12_plain_1 ?_
  refine a_iload_n C dX12_plain_4 (i := 1) rfl rfl ?_
  refine a_iconst C dX12_plain_5 (v := 0) rfl ?_
  refine a_iast C (i := 245) 0 kd_245 (hid 245 (by decide)) (by decide) rfl (by rw [al_245]; decide) dX12_plain_6 ?_
  refine a_aload_n C dX12_plain_7 (i := 0) rfl rfl ?_
  refine a_get C fl_RX12_55 (i := 236) kd_236 (hid 236 (by decide)) (v := .ref (ad 249)) rfl dX12_plain_8 ?_
  refine a_iload_n C dX12_plain_11 (i := 1) rfl rfl ?_
  refine a_iconst C dX12_plain_12 (v := 0) rfl ?_
  refine a_iast C (i := 249) 0 kd_249 (hid 249 (by decide)) (by decide) rfl (by rw [al_249]; decide) dX12_plain_13 ?_
  refine a_aload_n C dX12_plain_14 (i := 0) rfl rfl ?_
  refine a_get C fl_RX12_64 (i := 236) kd_236 (hid 236 (by decide)) (v := .ref (ad 252)) rfl dX12_plain_15 ?_
  refine a_iload_n C dX12_plain_18 (i := 1) rfl rfl ?_
  refine a_iconst C dX12_plain_19 (v := 1) rfl ?_
  refine a_iast C (i := 252) 0 kd_252 (hid 252 (by decide)) (by decide) rfl (by rw [al_252]; decide) dX12_plain_20 ?_
  refine a_aload_n C dX12_plain_21 (i := 0) rfl rfl ?_
  refine a_get C fl_RX12_67 (i := 236) kd_236 (hid 236 (by decide)) (v := .ref (ad 253)) rfl dX12_plain_22 ?_
  refine a_iload_n C dX12_plain_25 (i := 1) rfl rfl ?_
  refine a_iconst C dX12_plain_26 (v := 0) rfl ?_
  refine a_iast C (i := 253) 0 kd_253 (hid 253 (by decide)) (by decide) rfl (by rw [al_253]; decide) dX12_plain_27 ?_
  refine a_iconst C dX12_plain_28 (v := 0) rfl ?_
  refine a_istore_n C dX12_plain_29 (i := 2) rfl (by decide) rfl (vs1 := [some (.ref (ad 236)), some (.int 0), some (.int 0)]) rfl ?_
  refine a_iload_n C dX12_plain_30 (i := 2) rfl rfl ?_
  refine a_iconst C dX12_plain_31 (v := 4) rfl ?_
  refine a_ic_ge C dX12_plain_32 (tgt := 63) rfl (fun h => absurd h (by decide)) (fun _ => ?_)
  refine a_aload_n C dX12_plain_35 (i := 0) rfl rfl ?_
  refine a_get C fl_RX12_70 (i := 236) kd_236 (hid 236 (by decide)) (v := .ref (ad 254)) rfl dX12_plain_36 ?_
  refine a_iconst C dX12_plain_39 (v := 4) rfl ?_
  refine a_iload_n C dX12_plain_40 (i := 1) rfl rfl ?_
  refine a_imul C dX12_plain_41 ?_
  refine a_iload_n C dX12_plain_42 (i := 2) rfl rfl ?_
  refine a_iadd C dX12_plain_43 ?_
  refine a_iconst C dX12_plain_44 (v := 0) rfl ?_
  refine a_iast C (i := 254) 0 kd_254 (hid 254 (by decide)) (by decide) rfl (by rw [al_254]; decide) dX12_plain_45 ?_
  refine a_aload_n C dX12_plain_46 (i := 0) rfl rfl ?_
  refine a_get C fl_RX12_73 (i := 236) kd_236 (hid 236 (by decide)) (v := .ref (ad 255)) rfl dX12_plain_47 ?_
  refine a_iconst C dX12_plain_50 (v := 4) rfl ?_
  refine a_iload_n C dX12_plain_51 (i := 1) rfl rfl ?_
  refine a_imul C dX12_plain_52 ?_
  refine a_iload_n C dX12_plain_53 (i := 2) rfl rfl ?_
  refine a_iadd C dX12_plain_54 ?_
  refine a_iconst C dX12_plain_55 (v := 0) rfl ?_
  refine a_iast C (i := 255) 0 kd_255 (hid 255 (by decide)) (by decide) rfl (by rw [al_255]; decide) dX12_plain_56 ?_
  refine a_iinc C dX12_plain_57 rfl (v := 1) rfl (by decide) rfl (vs1 := [some (.ref (ad 236)), some (.int 0), some (.int 1)]) rfl ?_
  refine a_goto C dX12_plain_60 (tgt := 30) rfl ?_
  refine a_iload_n C dX12_plain_30 (i := 2) rfl rfl ?_
  refine a_iconst C dX12_plain_31 (v := 4) rfl ?_
  refine a_ic_ge C dX12_plain_32 (tgt := 63) rfl (fun h => absurd h (by decide)) (fun _ => ?_)
  refine a_aload_n C dX12_plain_35 (i := 0) rfl rfl ?_
  refine a_get C fl_RX12_70 (i := 236) kd_236 (hid 236 (by decide)) (v := .ref (ad 254)) rfl dX12_plain_36 ?_
  refine a_iconst C dX12_plain_39 (v := 4) rfl ?_
  refine a_iload_n C dX12_plain_40 (i := 1) rfl rfl ?_
  refine a_imul C dX12_plain_41 ?_
  refine a_iload_n C dX12_plain_42 (i := 2) rfl rfl ?_
  refine a_iadd C dX12_plain_43 ?_
  refine a_iconst C dX12_plain_44 (v := 0) rfl ?_
  refine a_iast C (i := 254) 1 kd_254 (hid 254 (by decide)) (by decide) rfl (by rw [al_254]; decide) dX12_plain_45 ?_
  refine a_aload_n C dX12_plain_46 (i := 0) rfl rfl ?_
  refine a_get C fl_RX12_73 (i := 236) kd_236 (hid 236 (by decide)) (v := .ref (ad 255)) rfl dX12_plain_47 ?_
  refine a_iconst C dX12_plain_50 (v := 4) rfl ?_
  refine a_iload_n C dX12_plain_51 (i := 1) rfl rfl ?_
  refine a_imul C dX12_plain_52 ?_
  refine a_iload_n C dX12_plain_53 (i := 2) rfl rfl ?_
  refine a_iadd C dX12_plain_54 ?_
  refine a_iconst C dX12_plain_55 (v := 0) rfl ?_
  refine a_iast C (i := 255) 1 kd_255 (hid 255 (by decide)) (by decide) rfl (by rw [al_255]; decide) dX12_plain_56 ?_
  refine a_iinc C dX12_plain_57 rfl (v := 2) rfl (by decide) rfl (vs1 := [some (.ref (ad 236)), some (.int 0), some (.int 2)]) rfl ?_
  refine a_goto C dX12_plain_60 (tgt := 30) rfl ?_
  refine a_iload_n C dX12_plain_30 (i := 2) rfl rfl ?_
  refine a_iconst C dX12_plain_31 (v := 4) rfl ?_
  refine a_ic_ge C dX12_plain_32 (tgt := 63) rfl (fun h => absurd h (by decide)) (fun _ => ?_)
  refine a_aload_n C dX12_plain_35 (i := 0) rfl rfl ?_
  refine a_get C fl_RX12_70 (i := 236) kd_236 (hid 236 (by decide)) (v := .ref (ad 254)) rfl dX12_plain_36 ?_
  refine a_iconst C dX12_plain_39 (v := 4) rfl ?_
  refine a_iload_n C dX12_plain_40 (i := 1) rfl rfl ?_
  refine a_imul C dX12_plain_41 ?_
  refine a_iload_n C dX12_plain_42 (i := 2) rfl rfl ?_
  refine a_iadd C dX12_plain_43 ?_
  refine a_iconst C dX12_plain_44 (v := 0) rfl ?_
  refine a_iast C (i := 254) 2 kd_254 (hid 254 (by decide)) (by decide) rfl (by rw [al_254]; decide) dX12_plain_45 ?_
  refine a_aload_n C dX12_plain_46 (i := 0) rfl rfl ?_
  refine a_get C fl_RX12_73 (i := 236) kd_236 (hid 236 (by decide)) (v := .ref (ad 255)) rfl dX12_plain_47 ?_
  refine a_iconst C dX12_plain_50 (v := 4) rfl ?_
  refine a_iload_n C dX12_plain_51 (i := 1) rfl rfl ?_
  refine a_imul C dX12_plain_52 ?_
  refine a_iload_n C dX12_plain_53 (i := 2) rfl rfl ?_
  refine a_iadd C dX12_plain_54 ?_
  refine a_iconst C dX12_plain_55 (v := 0) rfl ?_
  refine a_iast C (i := 255) 2 kd_255 (hid 255 (by decide)) (by decide) rfl (by rw [al_255]; decide) dX12_plain_56 ?_
  refine a_iinc C dX12_plain_57 rfl (v := 3) rfl (by decide) rfl (vs1 := [some (.ref (ad 236)), some (.int 0), some (.int 3)]) rfl ?_
  refine a_goto C dX12_plain_60 (tgt := 30) rfl ?_
  refine a_iload_n C dX12_plain_30 (i := 2) rfl rfl ?_
  refine a_iconst C dX12_plain_31 (v := 4) rfl ?_
  refine a_ic_ge C dX12_plain_32 (tgt := 63) rfl (fun h => absurd h (by decide)) (fun _ => ?_)
  refine a_aload_n C dX12_plain_35 (i := 0) rfl rfl ?_
  refine a_get C fl_RX12_70 (i := 236) kd_236 (hid 236 (by decide)) (v := .ref (ad 254)) rfl dX12_plain_36 ?_
  refine a_iconst C dX12_plain_39 (v := 4) rfl ?_
  refine a_iload_n C dX12_plain_40 (i := 1) rfl rfl ?_
  refine a_imul C dX12_plain_41 ?_
  refine a_iload_n C dX12_plain_42 (i := 2) rfl rfl ?_
  refine a_iadd C dX12_plain_43 ?_
  refine a_iconst C dX12_plain_44 (v := 0) rfl ?_
  refine a_iast C (i := 254) 3 kd_254 (hid 254 (by decide)) (by decide) rfl (by rw [al_254]; decide) dX12_plain_45 ?_
  refine a_aload_n C dX12_plain_46 (i := 0) rfl rfl ?_
  refine a_get C fl_RX12_73 (i := 236) kd_236 (hid 236 (by decide)) (v := .ref (ad 255)) rfl dX12_plain_47 ?_
  refine a_iconst C dX12_plain_50 (v := 4) rfl ?_
  refine a_iload_n C dX12_plain_51 (i := 1) rfl rfl ?_
  refine a_imul C dX12_plain_52 ?_
  refine a_iload_n C dX12_plain_53 (i := 2) rfl rfl ?_
  refine a_iadd C dX12_plain_54 ?_
  refine a_iconst C dX12_plain_55 (v := 0) rfl ?_
  refine a_iast C (i := 255) 3 kd_255 (hid 255 (by decide)) (by decide) rfl (by rw [al_255]; decide) dX12_plain_56 ?_
  refine a_iinc C dX12_plain_57 rfl (v := 4) rfl (by decide) rfl (vs1 := [some (.ref (ad 236)), some (.int 0), some (.int 4)]) rfl ?_
  refine a_goto C dX12_plain_60 (tgt := 30) rfl ?_
  refine a_iload_n C dX12_plain_30 (i := 2) rfl rfl ?_
  refine a_iconst C dX12_plain_31 (v := 4) rfl ?_
  refine a_ic_ge C dX12_plain_32 (tgt := 63) rfl (fun _ => ?_) (fun h => absurd h (by decide))
  exact a_vret Rt dX12_plain_63 (rfl)
set_option maxHeartbeats 4000000 in
set_option maxRecDepth 100000 in
theorem i_begins {l : Launch} {D : va_G} {ids : List Nat} {ad : Nat → Nat} {ca : Nat → ClassId} {σ : HS} (hid : ∀ i, 236 ≤ i ∧ i < 277 → i ∈ ids) (h_236_18 : σ.1 236 18 = 0) (h_245_0 : σ.1 245 0 = 0) (h_249_0 : σ.1 249 0 = 0) (h_253_0 : σ.1 253 0 = 0) : Kv l D ids ad ca yX12_begins cX12_begins 2 0 0 [.ref (ad 236)] σ (fun σ1 => σ1 = (hI (hI (hI (hI (hI (hI (hI (hI (hI (hI (hI (hI (hI (hI (hI (hI (hI (hI (hI (hI (hI (hI (hI (hI (hI (hI (hI (hI (hI (hI (hI (hI (hI σ 267 0 0) 267 1 0) 267 2 0) 267 3 0) 267 4 0) 267 5 0) 267 6 0) 267 7 0) 267 8 0) 267 9 0) 267 10 0) 267 11 0) 267 12 0) 267 13 0) 267 14 0) 267 15 0) 267 16 0) 267 17 0) 267 18 0) 267 19 0) 267 20 0) 267 21 0) 267 22 0) 267 23 0) 267 24 0) 267 25 0) 267 26 0) 267 27 0) 267 28 0) 267 26 (-2)) 267 28 (-1)) 236 49 0) 236 50 0)) := by
  refine Kv.of (by decide) (Nat.le_of_ble_eq_true rfl) 1 (fun Γ C Rt => ?_)
  show AW ids ad ca Γ 0 [some (.ref (ad 236)), none] [] σ
  refine a_iconst C dX12_begins_0 (v := 0) rfl ?_
  refine a_istore_n C dX12_begins_1 (i := 1) rfl (by decide) rfl (vs1 := [some (.ref (ad 236)), some (.int 0)]) rfl ?_
  refine a_iload_n C dX12_begins_2 (i := 1) rfl rfl ?_
  refine a_bipush C dX12_begins_3 (v := 29) rfl ?_
  refine a_ic_ge C dX12_begins_5 (tgt := 21) rfl (fun h => absurd h (by decide)) (fun _ => ?_)
  refine a_aload_n C dX12_begins_8 (i := 0) rfl rfl ?_
  refine a_get C fl_RX12_110 (i := 236) kd_236 (hid 236 (by decide)) (v := .ref (ad 267)) rfl dX12_begins_9 ?_
  refine a_iload_n C dX12_begins_12 (i := 1) rfl rfl ?_
  refine a_iconst C dX12_begins_13 (v := 0) rfl ?_
  refine a_iast C (i := 267) 0 kd_267 (hid 267 (by decide)) (by decide) rfl (by rw [al_267]; decide) dX12_begins_14 ?_
  refine a_iinc C dX12_begins_15 rfl (v := 1) rfl (by decide) rfl (vs1 := [some (.ref (ad 236)), some (.int 1)]) rfl ?_
  refine a_goto C dX12_begins_18 (tgt := 2) rfl ?_
  refine a_iload_n C dX12_begins_2 (i := 1) rfl rfl ?_
  refine a_bipush C dX12_begins_3 (v := 29) rfl ?_
  refine a_ic_ge C dX12_begins_5 (tgt := 21) rfl (fun h => absurd h (by decide)) (fun _ => ?_)
  refine a_aload_n C dX12_begins_8 (i := 0) rfl rfl ?_
  refine a_get C fl_RX12_110 (i := 236) kd_236 (hid 236 (by decide)) (v := .ref (ad 267)) rfl dX12_begins_9 ?_
  refine a_iload_n C dX12_begins_12 (i := 1) rfl rfl ?_
  refine a_iconst C dX12_begins_13 (v := 0) rfl ?_
  refine a_iast C (i := 267) 1 kd_267 (hid 267 (by decide)) (by decide) rfl (by rw [al_267]; decide) dX12_begins_14 ?_
  refine a_iinc C dX12_begins_15 rfl (v := 2) rfl (by decide) rfl (vs1 := [some (.ref (ad 236)), some (.int 2)]) rfl ?_
  refine a_goto C dX12_begins_18 (tgt := 2) rfl ?_
  refine a_iload_n C dX12_begins_2 (i := 1) rfl rfl ?_
  refine a_bipush C dX12_begins_3 (v := 29) rfl ?_
  refine a_ic_ge C dX12_begins_5 (tgt := 21) rfl (fun h => absurd h (by decide)) (fun _ => ?_)
  refine a_aload_n C dX12_begins_8 (i := 0) rfl rfl ?_
  refine a_get C fl_RX12_110 (i := 236) kd_236 (hid 236 (by decide)) (v := .ref (ad 267)) rfl dX12_begins_9 ?_
  refine a_iload_n C dX12_begins_12 (i := 1) rfl rfl ?_
  refine a_iconst C dX12_begins_13 (v := 0) rfl ?_
  refine a_iast C (i := 267) 2 kd_267 (hid 267 (by decide)) (by decide) rfl (by rw [al_267]; decide) dX12_begins_14 ?_
  refine a_iinc C dX12_begins_15 rfl (v := 3) rfl (by decide) rfl (vs1 := [some (.ref (ad 236)), some (.int 3)]) rfl ?_
  refine a_goto C dX12_begins_18 (tgt := 2) rfl ?_
  refine a_iload_n C dX12_begins_2 (i := 1) rfl rfl ?_
  refine a_bipush C dX12_begins_3 (v := 29) rfl ?_
  refine a_ic_ge C dX12_begins_5 (tgt := 21) rfl (fun h => absurd h (by decide)) (fun _ => ?_)
  refine a_aload_n C dX12_begins_8 (i := 0) rfl rfl ?_
  refine a_get C fl_RX12_110 (i := 236) kd_236 (hid 236 (by decide)) (v := .ref (ad 267)) rfl dX12_begins_9 ?_
  refine a_iload_n C dX12_begins_12 (i := 1) rfl rfl ?_
  refine a_iconst C dX12_begins_13 (v := 0) rfl ?_
  refine a_iast C (i := 267) 3 kd_267 (hid 267 (by decide)) (by decide) rfl (by rw [al_267]; decide) dX12_begins_14 ?_
  refine a_iinc C dX12_begins_15 rfl (v := 4) rfl (by decide) rfl (vs1 := [some (.ref (ad 236)), some (.int 4)]) rfl ?_
  refine a_goto C dX12_begins_18 (tgt := 2) rfl ?_
  refine a_iload_n C dX12_begins_2 (i := 1) rfl rfl ?_
  refine a_bipush C dX12_begins_3 (v := 29) rfl ?_
  refine a_ic_ge C dX12_begins_5 (tgt := 21) rfl (fun h => absurd h (by decide)) (fun _ => ?_)
  refine a_aload_n C dX12_begins_8 (i := 0) rfl rfl ?_
  refine a_get C fl_RX12_110 (i := 236) kd_236 (hid 236 (by decide)) (v := .ref (ad 267)) rfl dX12_begins_9 ?_
  refine a_iload_n C dX12_begins_12 (i := 1) rfl rfl ?_
  refine a_iconst C dX12_begins_13 (v := 0) rfl ?_
  refine a_iast C (i := 267) 4 kd_267 (hid 267 (by decide)) (by decide) rfl (by rw [al_267]; decide) dX12_begins_14 ?_
  refine a_iinc C dX12_begins_15 rfl (v := 5) rfl (by decide) rfl (vs1 := [some (.ref (ad 236)), some (.int 5)]) rfl ?_
  refine a_goto C dX12_begins_18 (tgt := 2) rfl ?_
  refine a_iload_n C dX12_begins_2 (i := 1) rfl rfl ?_
  refine a_bipush C dX12_begins_3 (v := 29) rfl ?_
  refine a_ic_ge C dX12_begins_5 (tgt := 21) rfl (fun h => absurd h (by decide)) (fun _ => ?_)
  refine a_aload_n C dX12_begins_8 (i := 0) rfl rfl ?_
  refine a_get C fl_RX12_110 (i := 236) kd_236 (hid 236 (by decide)) (v := .ref (ad 267)) rfl dX12_begins_9 ?_
  refine a_iload_n C dX12_begins_12 (i := 1) rfl rfl ?_
  refine a_iconst C dX12_begins_13 (v := 0) rfl ?_
  refine a_iast C (i := 267) 5 kd_267 (hid 267 (by decide)) (by decide) rfl (by rw [al_267]; decide) dX12_begins_14 ?_
  refine a_iinc C dX12_begins_15 rfl (v := 6) rfl (by decide) rfl (vs1 := [some (.ref (ad 236)), some (.int 6)]) rfl ?_
  refine a_goto C dX12_begins_18 (tgt := 2) rfl ?_
  refine a_iload_n C dX12_begins_2 (i := 1) rfl rfl ?_
  refine a_bipush C dX12_begins_3 (v := 29) rfl ?_
  refine a_ic_ge C dX12_begins_5 (tgt := 21) rfl (fun h => absurd h (by decide)) (fun _ => ?_)
  refine a_aload_n C dX12_begins_8 (i := 0) rfl rfl ?_
  refine a_get C fl_RX12_110 (i := 236) kd_236 (hid 236 (by decide)) (v := .ref (ad 267)) rfl dX12_begins_9 ?_
  refine a_iload_n C dX12_begins_12 (i := 1) rfl rfl ?_
  refine a_iconst C dX12_begins_13 (v := 0) rfl ?_
  refine a_iast C (i := 267) 6 kd_267 (hid 267 (by decide)) (by decide) rfl (by rw [al_267]; decide) dX12_begins_14 ?_
  refine a_iinc C dX12_begins_15 rfl (v := 7) rfl (by decide) rfl (vs1 := [some (.ref (ad 236)), some (.int 7)]) rfl ?_
  refine a_goto C dX12_begins_18 (tgt := 2) rfl ?_
  refine a_iload_n C dX12_begins_2 (i := 1) rfl rfl ?_
  refine a_bipush C dX12_begins_3 (v := 29) rfl ?_
  refine a_ic_ge C dX12_begins_5 (tgt := 21) rfl (fun h => absurd h (by decide)) (fun _ => ?_)
  refine a_aload_n C dX12_begins_8 (i := 0) rfl rfl ?_
  refine a_get C fl_RX12_110 (i := 236) kd_236 (hid 236 (by decide)) (v := .ref (ad 267)) rfl dX12_begins_9 ?_
  refine a_iload_n C dX12_begins_12 (i := 1) rfl rfl ?_
  refine a_iconst C dX12_begins_13 (v := 0) rfl ?_
  refine a_iast C (i := 267) 7 kd_267 (hid 267 (by decide)) (by decide) rfl (by rw [al_267]; decide) dX12_begins_14 ?_
  refine a_iinc C dX12_begins_15 rfl (v := 8) rfl (by decide) rfl (vs1 := [some (.ref (ad 236)), some (.int 8)]) rfl ?_
  refine a_goto C dX12_begins_18 (tgt := 2) rfl ?_
  refine a_iload_n C dX12_begins_2 (i := 1) rfl rfl ?_
  refine a_bipush C dX12_begins_3 (v := 29) rfl ?_
  refine a_ic_ge C dX12_begins_5 (tgt := 21) rfl (fun h => absurd h (by decide)) (fun _ => ?_)
  refine a_aload_n C dX12_begins_8 (i := 0) rfl rfl ?_
  refine a_get C fl_RX12_110 (i := 236) kd_236 (hid 236 (by decide)) (v := .ref (ad 267)) rfl dX12_begins_9 ?_
  refine a_iload_n C dX12_begins_12 (i := 1) rfl rfl ?_
  refine a_iconst C dX12_begins_13 (v := 0) rfl ?_
  refine a_iast C (i := 267) 8 kd_267 (hid 267 (by decide)) (by decide) rfl (by rw [al_267]; decide) dX12_begins_14 ?_
  refine a_iinc C dX12_begins_15 rfl (v := 9) rfl (by decide) rfl (vs1 := [some (.ref (ad 236)), some (.int 9)]) rfl ?_
  refine a_goto C dX12_begins_18 (tgt := 2) rfl ?_
  refine a_iload_n C dX12_begins_2 (i := 1) rfl rfl ?_
  refine a_bipush C dX12_begins_3 (v := 29) rfl ?_
  refine a_ic_ge C dX12_begins_5 (tgt := 21) rfl (fun h => absurd h (by decide)) (fun _ => ?_)
  refine a_aload_n C dX12_begins_8 (i := 0) rfl rfl ?_
  refine a_get C fl_RX12_110 (i := 236) kd_236 (hid 236 (by decide)) (v := .ref (ad 267)) rfl dX12_begins_9 ?_
  refine a_iload_n C dX12_begins_12 (i := 1) rfl rfl ?_
  refine a_iconst C dX12_begins_13 (v := 0) rfl ?_
  refine a_iast C (i := 267) 9 kd_267 (hid 267 (by decide)) (by decide) rfl (by rw [al_267]; decide) dX12_begins_14 ?_
  refine a_iinc C dX12_begins_15 rfl (v := 10) rfl (by decide) rfl (vs1 := [some (.ref (ad 236)), some (.int 10)]) rfl ?_
  refine a_goto C dX12_begins_18 (tgt := 2) rfl ?_
  refine a_iload_n C dX12_begins_2 (i := 1) rfl rfl ?_
  refine a_bipush C dX12_begins_3 (v := 29) rfl ?_
  refine a_ic_ge C dX12_begins_5 (tgt := 21) rfl (fun h => absurd h (by decide)) (fun _ => ?_)
  refine a_aload_n C dX12_begins_8 (i := 0) rfl rfl ?_
  refine a_get C fl_RX12_110 (i := 236) kd_236 (hid 236 (by decide)) (v := .ref (ad 267)) rfl dX12_begins_9 ?_
  refine a_iload_n C dX12_begins_12 (i := 1) rfl rfl ?_
  refine a_iconst C dX12_begins_13 (v := 0) rfl ?_
  refine a_iast C (i := 267) 10 kd_267 (hid 267 (by decide)) (by decide) rfl (by rw [al_267]; decide) dX12_begins_14 ?_
  refine a_iinc C dX12_begins_15 rfl (v := 11) rfl (by decide) rfl (vs1 := [some (.ref (ad 236)), some (.int 11)]) rfl ?_
  refine a_goto C dX12_begins_18 (tgt := 2) rfl ?_
  refine a_iload_n C dX12_begins_2 (i := 1) rfl rfl ?_
  refine a_bipush C dX12_begins_3 (v := 29) rfl ?_
  refine a_ic_ge C dX12_begins_5 (tgt := 21) rfl (fun h => absurd h (by decide)) (fun _ => ?_)
  refine a_aload_n C dX12_begins_8 (i := 0) rfl rfl ?_
  refine a_get C fl_RX12_110 (i := 236) kd_236 (hid 236 (by decide)) (v := .ref (ad 267)) rfl dX12_begins_9 ?_
  refine a_iload_n C dX12_begins_12 (i := 1) rfl rfl ?_
  refine a_iconst C dX12_begins_13 (v := 0) rfl ?_
  refine a_iast C (i := 267) 11 kd_267 (hid 267 (by decide)) (by decide) rfl (by rw [al_267]; decide) dX12_begins_14 ?_
  refine a_iinc C dX12_begins_15 rfl (v := 12) rfl (by decide) rfl (vs1 := [some (.ref (ad 236)), some (.int 12)]) rfl ?_
  refine a_goto C dX12_begins_18 (tgt := 2) rfl ?_
  refine a_iload_n C dX12_begins_2 (i := 1) rfl rfl ?_
  refine a_bipush C dX12_begins_3 (v := 29) rfl ?_
  refine a_ic_ge C dX12_begins_5 (tgt := 21) rfl (fun h => absurd h (by decide)) (fun _ => ?_)
  refine a_aload_n C dX12_begins_8 (i := 0) rfl rfl ?_
  refine a_get C fl_RX12_110 (i := 236) kd_236 (hid 236 (by decide)) (v := .ref (ad 267)) rfl dX12_begins_9 ?_
  refine a_iload_n C dX12_begins_12 (i := 1) rfl rfl ?_
  refine a_iconst C dX12_begins_13 (v := 0) rfl ?_
  refine a_iast C (i := 267) 12 kd_267 (hid 267 (by decide)) (by decide) rfl (by rw [al_267]; decide) dX12_begins_14 ?_
  refine a_iinc C dX12_begins_15 rfl (v := 13) rfl (by decide) rfl (vs1 := [some (.ref (ad 236)), some (.int 13)]) rfl ?_
  refine a_goto C dX12_begins_18 (tgt := 2) rfl ?_
  refine a_iload_n C dX12_begins_2 (i := 1) rfl rfl ?_
  refine a_bipush C dX12_begins_3 (v := 29) rfl ?_
  refine a_ic_ge C dX12_begins_5 (tgt := 21) rfl (fun h => absurd h (by decide)) (fun _ => ?_)
  refine a_aload_n C dX12_begins_8 (i := 0) rfl rfl ?_
  refine a_get C fl_RX12_110 (i := 236) kd_236 (hid 236 (by decide)) (v := .ref (ad 267)) rfl dX12_begins_9 ?_
  refine a_iload_n C dX12_begins_12 (i := 1) rfl rfl ?_
  refine a_iconst C dX12_begins_13 (v := 0) rfl ?_
  refine a_iast C (i := 267) 13 kd_267 (hid 267 (by decide)) (by decide) rfl (by rw [al_267]; decide) dX12_begins_14 ?_
  refine a_iinc C dX12_begins_15 rfl (v := 14) rfl (by decide) rfl (vs1 := [some (.ref (ad 236)), some (.int 14)]) rfl ?_
  refine a_goto C dX12_begins_18 (tgt := 2) rfl ?_
  refine a_iload_n C dX12_begins_2 (i := 1) rfl rfl ?_
  refine a_bipush C dX12_begins_3 (v := 29) rfl ?_
  refine a_ic_ge C dX12_begins_5 (tgt := 21) rfl (fun h => absurd h (by decide)) (fun _ => ?_)
  refine a_aload_n C dX12_begins_8 (i := 0) rfl rfl ?_
  refine a_get C fl_RX12_110 (i := 236) kd_236 (hid 236 (by decide)) (v := .ref (ad 267)) rfl dX12_begins_9 ?_
  refine a_iload_n C dX12_begins_12 (i := 1) rfl rfl ?_
  refine a_iconst C dX12_begins_13 (v := 0) rfl ?_
  refine a_iast C (i := 267) 14 kd_267 (hid 267 (by decide)) (by decide) rfl (by rw [al_267]; decide) dX12_begins_14 ?_
  refine a_iinc C dX12_begins_15 rfl (v := 15) rfl (by decide) rfl (vs1 := [some (.ref (ad 236)), some (.int 15)]) rfl ?_
  refine a_goto C dX12_begins_18 (tgt := 2) rfl ?_
  refine a_iload_n C dX12_begins_2 (i := 1) rfl rfl ?_
  refine a_bipush C dX12_begins_3 (v := 29) rfl ?_
  refine a_ic_ge C dX12_begins_5 (tgt := 21) rfl (fun h => absurd h (by decide)) (fun _ => ?_)
  refine a_aload_n C dX12_begins_8 (i := 0) rfl rfl ?_
  refine a_get C fl_RX12_110 (i := 236) kd_236 (hid 236 (by decide)) (v := .ref (ad 267)) rfl dX12_begins_9 ?_
  refine a_iload_n C dX12_begins_12 (i := 1) rfl rfl ?_
  refine a_iconst C dX12_begins_13 (v := 0) rfl ?_
  refine a_iast C (i := 267) 15 kd_267 (hid 267 (by decide)) (by decide) rfl (by rw [al_267]; decide) dX12_begins_14 ?_
  refine a_iinc C dX12_begins_15 rfl (v := 16) rfl (by decide) rfl (vs1 := [some (.ref (ad 236)), some (.int 16)]) rfl ?_
  refine a_goto C dX12_begins_18 (tgt := 2) rfl ?_
  refine a_iload_n C dX12_begins_2 (i := 1) rfl rfl ?_
  refine a_bipush C dX12_begins_3 (v := 29) rfl ?_
  refine a_ic_ge C dX12_begins_5 (tgt := 21) rfl (fun h => absurd h (by decide)) (fun _ => ?_)
  refine a_aload_n C dX12_begins_8 (i := 0) rfl rfl ?_
  refine a_get C fl_RX12_110 (i := 236) kd_236 (hid 236 (by decide)) (v := .ref (ad 267)) rfl dX12_begins_9 ?_
  refine a_iload_n C dX12_begins_12 (i := 1) rfl rfl ?_
  refine a_iconst C dX12_begins_13 (v := 0) rfl ?_
  refine a_iast C (i := 267) 16 kd_267 (hid 267 (by decide)) (by decide) rfl (by rw [al_267]; decide) dX12_begins_14 ?_
  refine a_iinc C dX12_begins_15 rfl (v := 17) rfl (by decide) rfl (vs1 := [some (.ref (ad 236)), some (.int 17)]) rfl ?_
  refine a_goto C dX12_begins_18 (tgt := 2) rfl ?_
  refine a_iload_n C dX12_begins_2 (i := 1) rfl rfl ?_
  refine a_bipush C dX12_begins_3 (v := 29) rfl ?_
  refine a_ic_ge C dX12_begins_5 (tgt := 21) rfl (fun h => absurd h (by decide)) (fun _ => ?_)
  refine a_aload_n C dX12_begins_8 (i := 0) rfl rfl ?_
  refine a_get C fl_RX12_110 (i := 236) kd_236 (hid 236 (by decide)) (v := .ref (ad 267)) rfl dX12_begins_9 ?_
  refine a_iload_n C dX12_begins_12 (i := 1) rfl rfl ?_
  refine a_iconst C dX12_begins_13 (v := 0) rfl ?_
  refine a_iast C (i := 267) 17 kd_267 (hid 267 (by decide)) (by decide) rfl (by rw [al_267]; decide) dX12_begins_14 ?_
  refine a_iinc C dX12_begins_15 rfl (v := 18) rfl (by decide) rfl (vs1 := [some (.ref (ad 236)), some (.int 18)]) rfl ?_
  refine a_goto C dX12_begins_18 (tgt := 2) rfl ?_
  refine a_iload_n C dX12_begins_2 (i := 1) rfl rfl ?_
  refine a_bipush C dX12_begins_3 (v := 29) rfl ?_
  refine a_ic_ge C dX12_begins_5 (tgt := 21) rfl (fun h => absurd h (by decide)) (fun _ => ?_)
  refine a_aload_n C dX12_begins_8 (i := 0) rfl rfl ?_
  refine a_get C fl_RX12_110 (i := 236) kd_236 (hid 236 (by decide)) (v := .ref (ad 267)) rfl dX12_begins_9 ?_
  refine a_iload_n C dX12_begins_12 (i := 1) rfl rfl ?_
  refine a_iconst C dX12_begins_13 (v := 0) rfl ?_
  refine a_iast C (i := 267) 18 kd_267 (hid 267 (by decide)) (by decide) rfl (by rw [al_267]; decide) dX12_begins_14 ?_
  refine a_iinc C dX12_begins_15 rfl (v := 19) rfl (by decide) rfl (vs1 := [some (.ref (ad 236)), some (.int 19)]) rfl ?_
  refine a_goto C dX12_begins_18 (tgt := 2) rfl ?_
  refine a_iload_n C dX12_begins_2 (i := 1) rfl rfl ?_
  refine a_bipush C dX12_begins_3 (v := 29) rfl ?_
  refine a_ic_ge C dX12_begins_5 (tgt := 21) rfl (fun h => absurd h (by decide)) (fun _ => ?_)
  refine a_aload_n C dX12_begins_8 (i := 0) rfl rfl ?_
  refine a_get C fl_RX12_110 (i := 236) kd_236 (hid 236 (by decide)) (v := .ref (ad 267)) rfl dX12_begins_9 ?_
  refine a_iload_n C dX12_begins_12 (i := 1) rfl rfl ?_
  refine a_iconst C dX12_begins_13 (v := 0) rfl ?_
  refine a_iast C (i := 267) 19 kd_267 (hid 267 (by decide)) (by decide) rfl (by rw [al_267]; decide) dX12_begins_14 ?_
  refine a_iinc C dX12_begins_15 rfl (v := 20) rfl (by decide) rfl (vs1 := [some (.ref (ad 236)), some (.int 20)]) rfl ?_
  refine a_goto C dX12_begins_18 (tgt := 2) rfl ?_
  refine a_iload_n C dX12_begins_2 (i := 1) rfl rfl ?_
  refine a_bipush C dX12_begins_3 (v := 29) rfl ?_
  refine a_ic_ge C dX12_begins_5 (tgt := 21) rfl (fun h => absurd h (by decide)) (fun _ => ?_)
  refine a_aload_n C dX12_begins_8 (i := 0) rfl rfl ?_
  refine a_get C fl_RX12_110 (i := 236) kd_236 (hid 236 (by decide)) (v := .ref (ad 267)) rfl dX12_begins_9 ?_
  refine a_iload_n C dX12_begins_12 (i := 1) rfl rfl ?_
  refine a_iconst C dX12_begins_13 (v := 0) rfl ?_
  refine a_iast C (i := 267) 20 kd_267 (hid 267 (by decide)) (by decide) rfl (by rw [al_267]; decide) dX12_begins_14 ?_
  refine a_iinc C dX12_begins_15 rfl (v := 21) rfl (by decide) rfl (vs1 := [some (.ref (ad 236)), some (.int 21)]) rfl ?_
  refine a_goto C dX12_begins_18 (tgt := 2) rfl ?_
  refine a_iload_n C dX12_begins_2 (i := 1) rfl rfl ?_
  refine a_bipush C dX12_begins_3 (v := 29) rfl ?_
  refine a_ic_ge C dX12_begins_5 (tgt := 21) rfl (fun h => absurd h (by decide)) (fun _ => ?_)
  refine a_aload_n C dX12_begins_8 (i := 0) rfl rfl ?_
  refine a_get C fl_RX12_110 (i := 236) kd_236 (hid 236 (by decide)) (v := .ref (ad 267)) rfl dX12_begins_9 ?_
  refine a_iload_n C dX12_begins_12 (i := 1) rfl rfl ?_
  refine a_iconst C dX12_begins_13 (v := 0) rfl ?_
  refine a_iast C (i := 267) 21 kd_267 (hid 267 (by decide)) (by decide) rfl (by rw [al_267]; decide) dX12_begins_14 ?_
  refine a_iinc C dX12_begins_15 rfl (v := 22) rfl (by decide) rfl (vs1 := [some (.ref (ad 236)), some (.int 22)]) rfl ?_
  refine a_goto C dX12_begins_18 (tgt := 2) rfl ?_
  refine a_iload_n C dX12_begins_2 (i := 1) rfl rfl ?_
  refine a_bipush C dX12_begins_3 (v := 29) rfl ?_
  refine a_ic_ge C dX12_begins_5 (tgt := 21) rfl (fun h => absurd h (by decide)) (fun _ => ?_)
  refine a_aload_n C dX12_begins_8 (i := 0) rfl rfl ?_
  refine a_get C fl_RX12_110 (i := 236) kd_236 (hid 236 (by decide)) (v := .ref (ad 267)) rfl dX12_begins_9 ?_
  refine a_iload_n C dX12_begins_12 (i := 1) rfl rfl ?_
  refine a_iconst C dX12_begins_13 (v := 0) rfl ?_
  refine a_iast C (i := 267) 22 kd_267 (hid 267 (by decide)) (by decide) rfl (by rw [al_267]; decide) dX12_begins_14 ?_
  refine a_iinc C dX12_begins_15 rfl (v := 23) rfl (by decide) rfl (vs1 := [some (.ref (ad 236)), some (.int 23)]) rfl ?_
  refine a_goto C dX12_begins_18 (tgt := 2) rfl ?_
  refine a_iload_n C dX12_begins_2 (i := 1) rfl rfl ?_
  refine a_bipush C dX12_begins_3 (v := 29) rfl ?_
  refine a_ic_ge C dX12_begins_5 (tgt := 21) rfl (fun h => absurd h (by decide)) (fun _ => ?_)
  refine a_aload_n C dX12_begins_8 (i := 0) rfl rfl ?_
  refine a_get C fl_RX12_110 (i := 236) kd_236 (hid 236 (by decide)) (v := .ref (ad 267)) rfl dX12_begins_9 ?_
  refine a_iload_n C dX12_begins_12 (i := 1) rfl rfl ?_
  refine a_iconst C dX12_begins_13 (v := 0) rfl ?_
  refine a_iast C (i := 267) 23 kd_267 (hid 267 (by decide)) (by decide) rfl (by rw [al_267]; decide) dX12_begins_14 ?_
  refine a_iinc C dX12_begins_15 rfl (v := 24) rfl (by decide) rfl (vs1 := [some (.ref (ad 236)), some (.int 24)]) rfl ?_
  refine a_goto C dX12_begins_18 (tgt := 2) rfl ?_
  refine a_iload_n C dX12_begins_2 (i := 1) rfl rfl ?_
  refine a_bipush C dX12_begins_3 (v := 29) rfl ?_
  refine a_ic_ge C dX12_begins_5 (tgt := 21) rfl (fun h => absurd h (by decide)) (fun _ => ?_)
  refine a_aload_n C dX12_begins_8 (i := 0) rfl rfl ?_
  refine a_get C fl_RX12_110 (i := 236) kd_236 (hid 236 (by decide)) (v := .ref (ad 267)) rfl dX12_begins_9 ?_
  refine a_iload_n C dX12_begins_12 (i := 1) rfl rfl ?_
  refine a_iconst C dX12_begins_13 (v := 0) rfl ?_
  refine a_iast C (i := 267) 24 kd_267 (hid 267 (by decide)) (by decide) rfl (by rw [al_267]; decide) dX12_begins_14 ?_
  refine a_iinc C dX12_begins_15 rfl (v := 25) rfl (by decide) rfl (vs1 := [some (.ref (ad 236)), some (.int 25)]) rfl ?_
  refine a_goto C dX12_begins_18 (tgt := 2) rfl ?_
  refine a_iload_n C dX12_begins_2 (i := 1) rfl rfl ?_
  refine a_bipush C dX12_begins_3 (v := 29) rfl ?_
  refine a_ic_ge C dX12_begins_5 (tgt := 21) rfl (fun h => absurd h (by decide)) (fun _ => ?_)
  refine a_aload_n C dX12_begins_8 (i := 0) rfl rfl ?_
  refine a_get C fl_RX12_110 (i := 236) kd_236 (hid 236 (by decide)) (v := .ref (ad 267)) rfl dX12_begins_9 ?_
  refine a_iload_n C dX12_begins_12 (i := 1) rfl rfl ?_
  refine a_iconst C dX12_begins_13 (v := 0) rfl ?_
  refine a_iast C (i := 267) 25 kd_267 (hid 267 (by decide)) (by decide) rfl (by rw [al_267]; decide) dX12_begins_14 ?_
  refine a_iinc C dX12_begins_15 rfl (v := 26) rfl (by decide) rfl (vs1 := [some (.ref (ad 236)), some (.int 26)]) rfl ?_
  refine a_goto C dX12_begins_18 (tgt := 2) rfl ?_
  refine a_iload_n C dX12_begins_2 (i := 1) rfl rfl ?_
  refine a_bipush C dX12_begins_3 (v := 29) rfl ?_
  refine a_ic_ge C dX12_begins_5 (tgt := 21) rfl (fun h => absurd h (by decide)) (fun _ => ?_)
  refine a_aload_n C dX12_begins_8 (i := 0) rfl rfl ?_
  refine a_get C fl_RX12_110 (i := 236) kd_236 (hid 236 (by decide)) (v := .ref (ad 267)) rfl dX12_begins_9 ?_
  refine a_iload_n C dX12_begins_12 (i := 1) rfl rfl ?_
  refine a_iconst C dX12_begins_13 (v := 0) rfl ?_
  refine a_iast C (i := 267) 26 kd_267 (hid 267 (by decide)) (by decide) rfl (by rw [al_267]; decide) dX12_begins_14 ?_
  refine a_iinc C dX12_begins_15 rfl (v := 27) rfl (by decide) rfl (vs1 := [some (.ref (ad 236)), some (.int 27)]) rfl ?_
  refine a_goto C dX12_begins_18 (tgt := 2) rfl ?_
  refine a_iload_n C dX12_begins_2 (i := 1) rfl rfl ?_
  refine a_bipush C dX12_begins_3 (v := 29) rfl ?_
  refine a_ic_ge C dX12_begins_5 (tgt := 21) rfl (fun h => absurd h (by decide)) (fun _ => ?_)
  refine a_aload_n C dX12_begins_8 (i := 0) rfl rfl ?_
  refine a_get C fl_RX12_110 (i := 236) kd_236 (hid 236 (by decide)) (v := .ref (ad 267)) rfl dX12_begins_9 ?_
  refine a_iload_n C dX12_begins_12 (i := 1) rfl rfl ?_
  refine a_iconst C dX12_begins_13 (v := 0) rfl ?_
  refine a_iast C (i := 267) 27 kd_267 (hid 267 (by decide)) (by decide) rfl (by rw [al_267]; decide) dX12_begins_14 ?_
  refine a_iinc C dX12_begins_15 rfl (v := 28) rfl (by decide) rfl (vs1 := [some (.ref (ad 236)), some (.int 28)]) rfl ?_
  refine a_goto C dX12_begins_18 (tgt := 2) rfl ?_
  refine a_iload_n C dX12_begins_2 (i := 1) rfl rfl ?_
  refine a_bipush C dX12_begins_3 (v := 29) rfl ?_
  refine a_ic_ge C dX12_begins_5 (tgt := 21) rfl (fun h => absurd h (by decide)) (fun _ => ?_)
  refine a_aload_n C dX12_begins_8 (i := 0) rfl rfl ?_
  refine a_get C fl_RX12_110 (i := 236) kd_236 (hid 236 (by decide)) (v := .ref (ad 267)) rfl dX12_begins_9 ?_
  refine a_iload_n C dX12_begins_12 (i := 1) rfl rfl ?_
  refine a_iconst C dX12_begins_13 (v := 0) rfl ?_
  refine a_iast C (i := 267) 28 kd_267 (hid 267 (by decide)) (by decide) rfl (by rw [al_267]; decide) dX12_begins_14 ?_
  refine a_iinc C dX12_begins_15 rfl (v := 29) rfl (by decide) rfl (vs1 := [some (.ref (ad 236)), some (.int 29)]) rfl ?_
  refine a_goto C dX12_begins_18 (tgt := 2) rfl ?_
  refine a_iload_n C dX12_begins_2 (i := 1) rfl rfl ?_
  refine a_bipush C dX12_begins_3 (v := 29) rfl ?_
  refine a_ic_ge C dX12_begins_5 (tgt := 21) rfl (fun _ => ?_) (fun h => absurd h (by decide))
  refine a_iconst C dX12_begins_21 (v := 0) rfl ?_
  refine a_istore_n C dX12_begins_22 (i := 1) rfl (by decide) rfl (vs1 := [some (.ref (ad 236)), some (.int 0)]) rfl ?_
  refine a_iload_n C dX12_begins_23 (i := 1) rfl rfl ?_
  refine a_aload_n C dX12_begins_24 (i := 0) rfl rfl ?_
  refine a_get C fl_RX12_43 (i := 236) kd_236 (hid 236 (by decide)) (v := .ref (ad 245)) rfl dX12_begins_25 ?_
  refine a_aload_n C dX12_begins_28 (i := 0) rfl rfl ?_
  refine a_get C fl_RX12_221 (i := 236) kd_236 (hid 236 (by decide)) (v := .int 0) (congrArg (fun z => some (Value.int z)) h_236_18) dX12_begins_29 ?_
  refine a_iald C (i := 245) 0 kd_245 (hid 245 (by decide)) (by decide) rfl (by rw [al_245]; decide) dX12_begins_32 (v := 0) h_245_0 ?_
  refine a_ic_ge C dX12_begins_33 (tgt := 65) rfl (fun _ => ?_) (fun h => absurd h (by decide))
  refine a_aload_n C dX12_begins_65 (i := 0) rfl rfl ?_
  refine a_get C fl_RX12_110 (i := 236) kd_236 (hid 236 (by decide)) (v := .ref (ad 267)) rfl dX12_begins_66 ?_
  refine a_bipush C dX12_begins_69 (v := 26) rfl ?_
  refine a_aload_n C dX12_begins_71 (i := 0) rfl rfl ?_
  refine a_get C fl_RX12_55 (i := 236) kd_236 (hid 236 (by decide)) (v := .ref (ad 249)) rfl dX12_begins_72 ?_
  refine a_aload_n C dX12_begins_75 (i := 0) rfl rfl ?_
  refine a_get C fl_RX12_221 (i := 236) kd_236 (hid 236 (by decide)) (v := .int 0) (congrArg (fun z => some (Value.int z)) h_236_18) dX12_begins_76 ?_
  refine a_iald C (i := 249) 0 kd_249 (hid 249 (by decide)) (by decide) rfl (by rw [al_249]; decide) dX12_begins_79 (v := 0) h_249_0 ?_
  refine a_if_le C dX12_begins_80 (tgt := 87) rfl (fun _ => ?_) (fun h => absurd h (by decide))
  refine a_bipush C dX12_begins_87 (v := (-2)) rfl ?_
  refine a_iast C (i := 267) 26 kd_267 (hid 267 (by decide)) (by decide) rfl (by rw [al_267]; decide) dX12_begins_89 ?_
  refine a_aload_n C dX12_begins_90 (i := 0) rfl rfl ?_
  refine a_get C fl_RX12_110 (i := 236) kd_236 (hid 236 (by decide)) (v := .ref (ad 267)) rfl dX12_begins_91 ?_
  refine a_bipush C dX12_begins_94 (v := 28) rfl ?_
  refine a_iconst C dX12_begins_96 (v := (-1)) rfl ?_
  refine a_iast C (i := 267) 28 kd_267 (hid 267 (by decide)) (by decide) rfl (by rw [al_267]; decide) dX12_begins_97 ?_
  refine a_aload_n C dX12_begins_98 (i := 0) rfl rfl ?_
  refine a_aload_n C dX12_begins_99 (i := 0) rfl rfl ?_
  refine a_get C fl_RX12_67 (i := 236) kd_236 (hid 236 (by decide)) (v := .ref (ad 253)) rfl dX12_begins_100 ?_
  refine a_aload_n C dX12_begins_103 (i := 0) rfl rfl ?_
  refine a_get C fl_RX12_221 (i := 236) kd_236 (hid 236 (by decide)) (v := .int 0) (congrArg (fun z => some (Value.int z)) h_236_18) dX12_begins_104 ?_
  refine a_iald C (i := 253) 0 kd_253 (hid 253 (by decide)) (by decide) rfl (by rw [al_253]; decide) dX12_begins_107 (v := 0) h_253_0 ?_
  refine a_put C fp_RX12_305 (i := 236) kd_236 (hid 236 (by decide)) rfl rfl dX12_begins_108 ?_
  refine a_aload_n C dX12_begins_111 (i := 0) rfl rfl ?_
  refine a_iconst C dX12_begins_112 (v := 0) rfl ?_
  refine a_put C fp_RX12_308 (i := 236) kd_236 (hid 236 (by decide)) rfl rfl dX12_begins_113 ?_
  exact a_vret Rt dX12_begins_116 (rfl)
set_option maxHeartbeats 4000000 in
set_option maxRecDepth 100000 in
theorem i_keepsRow {l : Launch} {D : va_G} {ids : List Nat} {ad : Nat → Nat} {ca : Nat → ClassId} {σ : HS} (hid : ∀ i, 236 ≤ i ∧ i < 277 → i ∈ ids) (h_267_0 : σ.1 267 0 = 0) (h_267_1 : σ.1 267 1 = 0) (h_267_2 : σ.1 267 2 = 0) (h_267_3 : σ.1 267 3 = 0) (h_267_4 : σ.1 267 4 = 0) (h_267_5 : σ.1 267 5 = 0) (h_267_6 : σ.1 267 6 = 0) (h_267_7 : σ.1 267 7 = 0) (h_267_8 : σ.1 267 8 = 0) (h_267_9 : σ.1 267 9 = 0) (h_267_10 : σ.1 267 10 = 0) (h_267_11 : σ.1 267 11 = 0) (h_267_12 : σ.1 267 12 = 0) (h_267_13 : σ.1 267 13 = 0) (h_267_14 : σ.1 267 14 = 0) (h_267_15 : σ.1 267 15 = 0) (h_267_16 : σ.1 267 16 = 0) (h_267_17 : σ.1 267 17 = 0) (h_267_18 : σ.1 267 18 = 0) (h_267_19 : σ.1 267 19 = 0) (h_267_20 : σ.1 267 20 = 0) (h_267_21 : σ.1 267 21 = 0) (h_267_22 : σ.1 267 22 = 0) (h_267_23 : σ.1 267 23 = 0) (h_267_24 : σ.1 267 24 = 0) (h_267_25 : σ.1 267 25 = 0) (h_267_26 : σ.1 267 26 = (-2)) (h_267_27 : σ.1 267 27 = 0) (h_267_28 : σ.1 267 28 = (-1)) : Kv l D ids ad ca yX12_keepsRow cX12_keepsRow 2 0 0 [.ref (ad 236)] σ (fun σ1 => σ1 = (hI (hI (hI (hI (hI (hI (hI (hI (hI (hI (hI (hI (hI (hI (hI (hI (hI (hI (hI (hI (hI (hI (hI (hI (hI (hI (hI (hI (hI σ 266 0 0) 266 1 0) 266 2 0) 266 3 0) 266 4 0) 266 5 0) 266 6 0) 266 7 0) 266 8 0) 266 9 0) 266 10 0) 266 11 0) 266 12 0) 266 13 0) 266 14 0) 266 15 0) 266 16 0) 266 17 0) 266 18 0) 266 19 0) 266 20 0) 266 21 0) 266 22 0) 266 23 0) 266 24 0) 266 25 0) 266 26 (-2)) 266 27 0) 266 28 (-1))) := by
  refine Kv.of (by decide) (Nat.le_of_ble_eq_true rfl) 1 (fun Γ C Rt => ?_)
  show AW ids ad ca Γ 0 [some (.ref (ad 236)), none] [] σ
  refine a_iconst C dX12_keepsRow_0 (v := 0) rfl ?_
  refine a_istore_n C dX12_keepsRow_1 (i := 1) rfl (by decide) rfl (vs1 := [some (.ref (ad 236)), some (.int 0)]) rfl ?_
  refine a_iload_n C dX12_keepsRow_2 (i := 1) rfl rfl ?_
  refine a_bipush C dX12_keepsRow_3 (v := 29) rfl ?_
  refine a_ic_ge C dX12_keepsRow_5 (tgt := 26) rfl (fun h => absurd h (by decide)) (fun _ => ?_)
  refine a_aload_n C dX12_keepsRow_8 (i := 0) rfl rfl ?_
  refine a_get C fl_RX12_107 (i := 236) kd_236 (hid 236 (by decide)) (v := .ref (ad 266)) rfl dX12_keepsRow_9 ?_
  refine a_iload_n C dX12_keepsRow_12 (i := 1) rfl rfl ?_
  refine a_aload_n C dX12_keepsRow_13 (i := 0) rfl rfl ?_
  refine a_get C fl_RX12_110 (i := 236) kd_236 (hid 236 (by decide)) (v := .ref (ad 267)) rfl dX12_keepsRow_14 ?_
  refine a_iload_n C dX12_keepsRow_17 (i := 1) rfl rfl ?_
  refine a_iald C (i := 267) 0 kd_267 (hid 267 (by decide)) (by decide) rfl (by rw [al_267]; decide) dX12_keepsRow_18 (v := 0) h_267_0 ?_
  refine a_iast C (i := 266) 0 kd_266 (hid 266 (by decide)) (by decide) rfl (by rw [al_266]; decide) dX12_keepsRow_19 ?_
  refine a_iinc C dX12_keepsRow_20 rfl (v := 1) rfl (by decide) rfl (vs1 := [some (.ref (ad 236)), some (.int 1)]) rfl ?_
  refine a_goto C dX12_keepsRow_23 (tgt := 2) rfl ?_
  refine a_iload_n C dX12_keepsRow_2 (i := 1) rfl rfl ?_
  refine a_bipush C dX12_keepsRow_3 (v := 29) rfl ?_
  refine a_ic_ge C dX12_keepsRow_5 (tgt := 26) rfl (fun h => absurd h (by decide)) (fun _ => ?_)
  refine a_aload_n C dX12_keepsRow_8 (i := 0) rfl rfl ?_
  refine a_get C fl_RX12_107 (i := 236) kd_236 (hid 236 (by decide)) (v := .ref (ad 266)) rfl dX12_keepsRow_9 ?_
  refine a_iload_n C dX12_keepsRow_12 (i := 1) rfl rfl ?_
  refine a_aload_n C dX12_keepsRow_13 (i := 0) rfl rfl ?_
  refine a_get C fl_RX12_110 (i := 236) kd_236 (hid 236 (by decide)) (v := .ref (ad 267)) rfl dX12_keepsRow_14 ?_
  refine a_iload_n C dX12_keepsRow_17 (i := 1) rfl rfl ?_
  refine a_iald C (i := 267) 1 kd_267 (hid 267 (by decide)) (by decide) rfl (by rw [al_267]; decide) dX12_keepsRow_18 (v := 0) h_267_1 ?_
  refine a_iast C (i := 266) 1 kd_266 (hid 266 (by decide)) (by decide) rfl (by rw [al_266]; decide) dX12_keepsRow_19 ?_
  refine a_iinc C dX12_keepsRow_20 rfl (v := 2) rfl (by decide) rfl (vs1 := [some (.ref (ad 236)), some (.int 2)]) rfl ?_
  refine a_goto C dX12_keepsRow_23 (tgt := 2) rfl ?_
  refine a_iload_n C dX12_keepsRow_2 (i := 1) rfl rfl ?_
  refine a_bipush C dX12_keepsRow_3 (v := 29) rfl ?_
  refine a_ic_ge C dX12_keepsRow_5 (tgt := 26) rfl (fun h => absurd h (by decide)) (fun _ => ?_)
  refine a_aload_n C dX12_keepsRow_8 (i := 0) rfl rfl ?_
  refine a_get C fl_RX12_107 (i := 236) kd_236 (hid 236 (by decide)) (v := .ref (ad 266)) rfl dX12_keepsRow_9 ?_
  refine a_iload_n C dX12_keepsRow_12 (i := 1) rfl rfl ?_
  refine a_aload_n C dX12_keepsRow_13 (i := 0) rfl rfl ?_
  refine a_get C fl_RX12_110 (i := 236) kd_236 (hid 236 (by decide)) (v := .ref (ad 267)) rfl dX12_keepsRow_14 ?_
  refine a_iload_n C dX12_keepsRow_17 (i := 1) rfl rfl ?_
  refine a_iald C (i := 267) 2 kd_267 (hid 267 (by decide)) (by decide) rfl (by rw [al_267]; decide) dX12_keepsRow_18 (v := 0) h_267_2 ?_
  refine a_iast C (i := 266) 2 kd_266 (hid 266 (by decide)) (by decide) rfl (by rw [al_266]; decide) dX12_keepsRow_19 ?_
  refine a_iinc C dX12_keepsRow_20 rfl (v := 3) rfl (by decide) rfl (vs1 := [some (.ref (ad 236)), some (.int 3)]) rfl ?_
  refine a_goto C dX12_keepsRow_23 (tgt := 2) rfl ?_
  refine a_iload_n C dX12_keepsRow_2 (i := 1) rfl rfl ?_
  refine a_bipush C dX12_keepsRow_3 (v := 29) rfl ?_
  refine a_ic_ge C dX12_keepsRow_5 (tgt := 26) rfl (fun h => absurd h (by decide)) (fun _ => ?_)
  refine a_aload_n C dX12_keepsRow_8 (i := 0) rfl rfl ?_
  refine a_get C fl_RX12_107 (i := 236) kd_236 (hid 236 (by decide)) (v := .ref (ad 266)) rfl dX12_keepsRow_9 ?_
  refine a_iload_n C dX12_keepsRow_12 (i := 1) rfl rfl ?_
  refine a_aload_n C dX12_keepsRow_13 (i := 0) rfl rfl ?_
  refine a_get C fl_RX12_110 (i := 236) kd_236 (hid 236 (by decide)) (v := .ref (ad 267)) rfl dX12_keepsRow_14 ?_
  refine a_iload_n C dX12_keepsRow_17 (i := 1) rfl rfl ?_
  refine a_iald C (i := 267) 3 kd_267 (hid 267 (by decide)) (by decide) rfl (by rw [al_267]; decide) dX12_keepsRow_18 (v := 0) h_267_3 ?_
  refine a_iast C (i := 266) 3 kd_266 (hid 266 (by decide)) (by decide) rfl (by rw [al_266]; decide) dX12_keepsRow_19 ?_
  refine a_iinc C dX12_keepsRow_20 rfl (v := 4) rfl (by decide) rfl (vs1 := [some (.ref (ad 236)), some (.int 4)]) rfl ?_
  refine a_goto C dX12_keepsRow_23 (tgt := 2) rfl ?_
  refine a_iload_n C dX12_keepsRow_2 (i := 1) rfl rfl ?_
  refine a_bipush C dX12_keepsRow_3 (v := 29) rfl ?_
  refine a_ic_ge C dX12_keepsRow_5 (tgt := 26) rfl (fun h => absurd h (by decide)) (fun _ => ?_)
  refine a_aload_n C dX12_keepsRow_8 (i := 0) rfl rfl ?_
  refine a_get C fl_RX12_107 (i := 236) kd_236 (hid 236 (by decide)) (v := .ref (ad 266)) rfl dX12_keepsRow_9 ?_
  refine a_iload_n C dX12_keepsRow_12 (i := 1) rfl rfl ?_
  refine a_aload_n C dX12_keepsRow_13 (i := 0) rfl rfl ?_
  refine a_get C fl_RX12_110 (i := 236) kd_236 (hid 236 (by decide)) (v := .ref (ad 267)) rfl dX12_keepsRow_14 ?_
  refine a_iload_n C dX12_keepsRow_17 (i := 1) rfl rfl ?_
  refine a_iald C (i := 267) 4 kd_267 (hid 267 (by decide)) (by decide) rfl (by rw [al_267]; decide) dX12_keepsRow_18 (v := 0) h_267_4 ?_
  refine a_iast C (i := 266) 4 kd_266 (hid 266 (by decide)) (by decide) rfl (by rw [al_266]; decide) dX12_keepsRow_19 ?_
  refine a_iinc C dX12_keepsRow_20 rfl (v := 5) rfl (by decide) rfl (vs1 := [some (.ref (ad 236)), some (.int 5)]) rfl ?_
  refine a_goto C dX12_keepsRow_23 (tgt := 2) rfl ?_
  refine a_iload_n C dX12_keepsRow_2 (i := 1) rfl rfl ?_
  refine a_bipush C dX12_keepsRow_3 (v := 29) rfl ?_
  refine a_ic_ge C dX12_keepsRow_5 (tgt := 26) rfl (fun h => absurd h (by decide)) (fun _ => ?_)
  refine a_aload_n C dX12_keepsRow_8 (i := 0) rfl rfl ?_
  refine a_get C fl_RX12_107 (i := 236) kd_236 (hid 236 (by decide)) (v := .ref (ad 266)) rfl dX12_keepsRow_9 ?_
  refine a_iload_n C dX12_keepsRow_12 (i := 1) rfl rfl ?_
  refine a_aload_n C dX12_keepsRow_13 (i := 0) rfl rfl ?_
  refine a_get C fl_RX12_110 (i := 236) kd_236 (hid 236 (by decide)) (v := .ref (ad 267)) rfl dX12_keepsRow_14 ?_
  refine a_iload_n C dX12_keepsRow_17 (i := 1) rfl rfl ?_
  refine a_iald C (i := 267) 5 kd_267 (hid 267 (by decide)) (by decide) rfl (by rw [al_267]; decide) dX12_keepsRow_18 (v := 0) h_267_5 ?_
  refine a_iast C (i := 266) 5 kd_266 (hid 266 (by decide)) (by decide) rfl (by rw [al_266]; decide) dX12_keepsRow_19 ?_
  refine a_iinc C dX12_keepsRow_20 rfl (v := 6) rfl (by decide) rfl (vs1 := [some (.ref (ad 236)), some (.int 6)]) rfl ?_
  refine a_goto C dX12_keepsRow_23 (tgt := 2) rfl ?_
  refine a_iload_n C dX12_keepsRow_2 (i := 1) rfl rfl ?_
  refine a_bipush C dX12_keepsRow_3 (v := 29) rfl ?_
  refine a_ic_ge C dX12_keepsRow_5 (tgt := 26) rfl (fun h => absurd h (by decide)) (fun _ => ?_)
  refine a_aload_n C dX12_keepsRow_8 (i := 0) rfl rfl ?_
  refine a_get C fl_RX12_107 (i := 236) kd_236 (hid 236 (by decide)) (v := .ref (ad 266)) rfl dX12_keepsRow_9 ?_
  refine a_iload_n C dX12_keepsRow_12 (i := 1) rfl rfl ?_
  refine a_aload_n C dX12_keepsRow_13 (i := 0) rfl rfl ?_
  refine a_get C fl_RX12_110 (i := 236) kd_236 (hid 236 (by decide)) (v := .ref (ad 267)) rfl dX12_keepsRow_14 ?_
  refine a_iload_n C dX12_keepsRow_17 (i := 1) rfl rfl ?_
  refine a_iald C (i := 267) 6 kd_267 (hid 267 (by decide)) (by decide) rfl (by rw [al_267]; decide) dX12_keepsRow_18 (v := 0) h_267_6 ?_
  refine a_iast C (i := 266) 6 kd_266 (hid 266 (by decide)) (by decide) rfl (by rw [al_266]; decide) dX12_keepsRow_19 ?_
  refine a_iinc C dX12_keepsRow_20 rfl (v := 7) rfl (by decide) rfl (vs1 := [some (.ref (ad 236)), some (.int 7)]) rfl ?_
  refine a_goto C dX12_keepsRow_23 (tgt := 2) rfl ?_
  refine a_iload_n C dX12_keepsRow_2 (i := 1) rfl rfl ?_
  refine a_bipush C dX12_keepsRow_3 (v := 29) rfl ?_
  refine a_ic_ge C dX12_keepsRow_5 (tgt := 26) rfl (fun h => absurd h (by decide)) (fun _ => ?_)
  refine a_aload_n C dX12_keepsRow_8 (i := 0) rfl rfl ?_
  refine a_get C fl_RX12_107 (i := 236) kd_236 (hid 236 (by decide)) (v := .ref (ad 266)) rfl dX12_keepsRow_9 ?_
  refine a_iload_n C dX12_keepsRow_12 (i := 1) rfl rfl ?_
  refine a_aload_n C dX12_keepsRow_13 (i := 0) rfl rfl ?_
  refine a_get C fl_RX12_110 (i := 236) kd_236 (hid 236 (by decide)) (v := .ref (ad 267)) rfl dX12_keepsRow_14 ?_
  refine a_iload_n C dX12_keepsRow_17 (i := 1) rfl rfl ?_
  refine a_iald C (i := 267) 7 kd_267 (hid 267 (by decide)) (by decide) rfl (by rw [al_267]; decide) dX12_keepsRow_18 (v := 0) h_267_7 ?_
  refine a_iast C (i := 266) 7 kd_266 (hid 266 (by decide)) (by decide) rfl (by rw [al_266]; decide) dX12_keepsRow_19 ?_
  refine a_iinc C dX12_keepsRow_20 rfl (v := 8) rfl (by decide) rfl (vs1 := [some (.ref (ad 236)), some (.int 8)]) rfl ?_
  refine a_goto C dX12_keepsRow_23 (tgt := 2) rfl ?_
  refine a_iload_n C dX12_keepsRow_2 (i := 1) rfl rfl ?_
  refine a_bipush C dX12_keepsRow_3 (v := 29) rfl ?_
  refine a_ic_ge C dX12_keepsRow_5 (tgt := 26) rfl (fun h => absurd h (by decide)) (fun _ => ?_)
  refine a_aload_n C dX12_keepsRow_8 (i := 0) rfl rfl ?_
  refine a_get C fl_RX12_107 (i := 236) kd_236 (hid 236 (by decide)) (v := .ref (ad 266)) rfl dX12_keepsRow_9 ?_
  refine a_iload_n C dX12_keepsRow_12 (i := 1) rfl rfl ?_
  refine a_aload_n C dX12_keepsRow_13 (i := 0) rfl rfl ?_
  refine a_get C fl_RX12_110 (i := 236) kd_236 (hid 236 (by decide)) (v := .ref (ad 267)) rfl dX12_keepsRow_14 ?_
  refine a_iload_n C dX12_keepsRow_17 (i := 1) rfl rfl ?_
  refine a_iald C (i := 267) 8 kd_267 (hid 267 (by decide)) (by decide) rfl (by rw [al_267]; decide) dX12_keepsRow_18 (v := 0) h_267_8 ?_
  refine a_iast C (i := 266) 8 kd_266 (hid 266 (by decide)) (by decide) rfl (by rw [al_266]; decide) dX12_keepsRow_19 ?_
  refine a_iinc C dX12_keepsRow_20 rfl (v := 9) rfl (by decide) rfl (vs1 := [some (.ref (ad 236)), some (.int 9)]) rfl ?_
  refine a_goto C dX12_keepsRow_23 (tgt := 2) rfl ?_
  refine a_iload_n C dX12_keepsRow_2 (i := 1) rfl rfl ?_
  refine a_bipush C dX12_keepsRow_3 (v := 29) rfl ?_
  refine a_ic_ge C dX12_keepsRow_5 (tgt := 26) rfl (fun h => absurd h (by decide)) (fun _ => ?_)
  refine a_aload_n C dX12_keepsRow_8 (i := 0) rfl rfl ?_
  refine a_get C fl_RX12_107 (i := 236) kd_236 (hid 236 (by decide)) (v := .ref (ad 266)) rfl dX12_keepsRow_9 ?_
  refine a_iload_n C dX12_keepsRow_12 (i := 1) rfl rfl ?_
  refine a_aload_n C dX12_keepsRow_13 (i := 0) rfl rfl ?_
  refine a_get C fl_RX12_110 (i := 236) kd_236 (hid 236 (by decide)) (v := .ref (ad 267)) rfl dX12_keepsRow_14 ?_
  refine a_iload_n C dX12_keepsRow_17 (i := 1) rfl rfl ?_
  refine a_iald C (i := 267) 9 kd_267 (hid 267 (by decide)) (by decide) rfl (by rw [al_267]; decide) dX12_keepsRow_18 (v := 0) h_267_9 ?_
  refine a_iast C (i := 266) 9 kd_266 (hid 266 (by decide)) (by decide) rfl (by rw [al_266]; decide) dX12_keepsRow_19 ?_
  refine a_iinc C dX12_keepsRow_20 rfl (v := 10) rfl (by decide) rfl (vs1 := [some (.ref (ad 236)), some (.int 10)]) rfl ?_
  refine a_goto C dX12_keepsRow_23 (tgt := 2) rfl ?_
  refine a_iload_n C dX12_keepsRow_2 (i := 1) rfl rfl ?_
  refine a_bipush C dX12_keepsRow_3 (v := 29) rfl ?_
  refine a_ic_ge C dX12_keepsRow_5 (tgt := 26) rfl (fun h => absurd h (by decide)) (fun _ => ?_)
  refine a_aload_n C dX12_keepsRow_8 (i := 0) rfl rfl ?_
  refine a_get C fl_RX12_107 (i := 236) kd_236 (hid 236 (by decide)) (v := .ref (ad 266)) rfl dX12_keepsRow_9 ?_
  refine a_iload_n C dX12_keepsRow_12 (i := 1) rfl rfl ?_
  refine a_aload_n C dX12_keepsRow_13 (i := 0) rfl rfl ?_
  refine a_get C fl_RX12_110 (i := 236) kd_236 (hid 236 (by decide)) (v := .ref (ad 267)) rfl dX12_keepsRow_14 ?_
  refine a_iload_n C dX12_keepsRow_17 (i := 1) rfl rfl ?_
  refine a_iald C (i := 267) 10 kd_267 (hid 267 (by decide)) (by decide) rfl (by rw [al_267]; decide) dX12_keepsRow_18 (v := 0) h_267_10 ?_
  refine a_iast C (i := 266) 10 kd_266 (hid 266 (by decide)) (by decide) rfl (by rw [al_266]; decide) dX12_keepsRow_19 ?_
  refine a_iinc C dX12_keepsRow_20 rfl (v := 11) rfl (by decide) rfl (vs1 := [some (.ref (ad 236)), some (.int 11)]) rfl ?_
  refine a_goto C dX12_keepsRow_23 (tgt := 2) rfl ?_
  refine a_iload_n C dX12_keepsRow_2 (i := 1) rfl rfl ?_
  refine a_bipush C dX12_keepsRow_3 (v := 29) rfl ?_
  refine a_ic_ge C dX12_keepsRow_5 (tgt := 26) rfl (fun h => absurd h (by decide)) (fun _ => ?_)
  refine a_aload_n C dX12_keepsRow_8 (i := 0) rfl rfl ?_
  refine a_get C fl_RX12_107 (i := 236) kd_236 (hid 236 (by decide)) (v := .ref (ad 266)) rfl dX12_keepsRow_9 ?_
  refine a_iload_n C dX12_keepsRow_12 (i := 1) rfl rfl ?_
  refine a_aload_n C dX12_keepsRow_13 (i := 0) rfl rfl ?_
  refine a_get C fl_RX12_110 (i := 236) kd_236 (hid 236 (by decide)) (v := .ref (ad 267)) rfl dX12_keepsRow_14 ?_
  refine a_iload_n C dX12_keepsRow_17 (i := 1) rfl rfl ?_
  refine a_iald C (i := 267) 11 kd_267 (hid 267 (by decide)) (by decide) rfl (by rw [al_267]; decide) dX12_keepsRow_18 (v := 0) h_267_11 ?_
  refine a_iast C (i := 266) 11 kd_266 (hid 266 (by decide)) (by decide) rfl (by rw [al_266]; decide) dX12_keepsRow_19 ?_
  refine a_iinc C dX12_keepsRow_20 rfl (v := 12) rfl (by decide) rfl (vs1 := [some (.ref (ad 236)), some (.int 12)]) rfl ?_
  refine a_goto C dX12_keepsRow_23 (tgt := 2) rfl ?_
  refine a_iload_n C dX12_keepsRow_2 (i := 1) rfl rfl ?_
  refine a_bipush C dX12_keepsRow_3 (v := 29) rfl ?_
  refine a_ic_ge C dX12_keepsRow_5 (tgt := 26) rfl (fun h => absurd h (by decide)) (fun _ => ?_)
  refine a_aload_n C dX12_keepsRow_8 (i := 0) rfl rfl ?_
  refine a_get C fl_RX12_107 (i := 236) kd_236 (hid 236 (by decide)) (v := .ref (ad 266)) rfl dX12_keepsRow_9 ?_
  refine a_iload_n C dX12_keepsRow_12 (i := 1) rfl rfl ?_
  refine a_aload_n C dX12_keepsRow_13 (i := 0) rfl rfl ?_
  refine a_get C fl_RX12_110 (i := 236) kd_236 (hid 236 (by decide)) (v := .ref (ad 267)) rfl dX12_keepsRow_14 ?_
  refine a_iload_n C dX12_keepsRow_17 (i := 1) rfl rfl ?_
  refine a_iald C (i := 267) 12 kd_267 (hid 267 (by decide)) (by decide) rfl (by rw [al_267]; decide) dX12_keepsRow_18 (v := 0) h_267_12 ?_
  refine a_iast C (i := 266) 12 kd_266 (hid 266 (by decide)) (by decide) rfl (by rw [al_266]; decide) dX12_keepsRow_19 ?_
  refine a_iinc C dX12_keepsRow_20 rfl (v := 13) rfl (by decide) rfl (vs1 := [some (.ref (ad 236)), some (.int 13)]) rfl ?_
  refine a_goto C dX12_keepsRow_23 (tgt := 2) rfl ?_
  refine a_iload_n C dX12_keepsRow_2 (i := 1) rfl rfl ?_
  refine a_bipush C dX12_keepsRow_3 (v := 29) rfl ?_
  refine a_ic_ge C dX12_keepsRow_5 (tgt := 26) rfl (fun h => absurd h (by decide)) (fun _ => ?_)
  refine a_aload_n C dX12_keepsRow_8 (i := 0) rfl rfl ?_
  refine a_get C fl_RX12_107 (i := 236) kd_236 (hid 236 (by decide)) (v := .ref (ad 266)) rfl dX12_keepsRow_9 ?_
  refine a_iload_n C dX12_keepsRow_12 (i := 1) rfl rfl ?_
  refine a_aload_n C dX12_keepsRow_13 (i := 0) rfl rfl ?_
  refine a_get C fl_RX12_110 (i := 236) kd_236 (hid 236 (by decide)) (v := .ref (ad 267)) rfl dX12_keepsRow_14 ?_
  refine a_iload_n C dX12_keepsRow_17 (i := 1) rfl rfl ?_
  refine a_iald C (i := 267) 13 kd_267 (hid 267 (by decide)) (by decide) rfl (by rw [al_267]; decide) dX12_keepsRow_18 (v := 0) h_267_13 ?_
  refine a_iast C (i := 266) 13 kd_266 (hid 266 (by decide)) (by decide) rfl (by rw [al_266]; decide) dX12_keepsRow_19 ?_
  refine a_iinc C dX12_keepsRow_20 rfl (v := 14) rfl (by decide) rfl (vs1 := [some (.ref (ad 236)), some (.int 14)]) rfl ?_
  refine a_goto C dX12_keepsRow_23 (tgt := 2) rfl ?_
  refine a_iload_n C dX12_keepsRow_2 (i := 1) rfl rfl ?_
  refine a_bipush C dX12_keepsRow_3 (v := 29) rfl ?_
  refine a_ic_ge C dX12_keepsRow_5 (tgt := 26) rfl (fun h => absurd h (by decide)) (fun _ => ?_)
  refine a_aload_n C dX12_keepsRow_8 (i := 0) rfl rfl ?_
  refine a_get C fl_RX12_107 (i := 236) kd_236 (hid 236 (by decide)) (v := .ref (ad 266)) rfl dX12_keepsRow_9 ?_
  refine a_iload_n C dX12_keepsRow_12 (i := 1) rfl rfl ?_
  refine a_aload_n C dX12_keepsRow_13 (i := 0) rfl rfl ?_
  refine a_get C fl_RX12_110 (i := 236) kd_236 (hid 236 (by decide)) (v := .ref (ad 267)) rfl dX12_keepsRow_14 ?_
  refine a_iload_n C dX12_keepsRow_17 (i := 1) rfl rfl ?_
  refine a_iald C (i := 267) 14 kd_267 (hid 267 (by decide)) (by decide) rfl (by rw [al_267]; decide) dX12_keepsRow_18 (v := 0) h_267_14 ?_
  refine a_iast C (i := 266) 14 kd_266 (hid 266 (by decide)) (by decide) rfl (by rw [al_266]; decide) dX12_keepsRow_19 ?_
  refine a_iinc C dX12_keepsRow_20 rfl (v := 15) rfl (by decide) rfl (vs1 := [some (.ref (ad 236)), some (.int 15)]) rfl ?_
  refine a_goto C dX12_keepsRow_23 (tgt := 2) rfl ?_
  refine a_iload_n C dX12_keepsRow_2 (i := 1) rfl rfl ?_
  refine a_bipush C dX12_keepsRow_3 (v := 29) rfl ?_
  refine a_ic_ge C dX12_keepsRow_5 (tgt := 26) rfl (fun h => absurd h (by decide)) (fun _ => ?_)
  refine a_aload_n C dX12_keepsRow_8 (i := 0) rfl rfl ?_
  refine a_get C fl_RX12_107 (i := 236) kd_236 (hid 236 (by decide)) (v := .ref (ad 266)) rfl dX12_keepsRow_9 ?_
  refine a_iload_n C dX12_keepsRow_12 (i := 1) rfl rfl ?_
  refine a_aload_n C dX12_keepsRow_13 (i := 0) rfl rfl ?_
  refine a_get C fl_RX12_110 (i := 236) kd_236 (hid 236 (by decide)) (v := .ref (ad 267)) rfl dX12_keepsRow_14 ?_
  refine a_iload_n C dX12_keepsRow_17 (i := 1) rfl rfl ?_
  refine a_iald C (i := 267) 15 kd_267 (hid 267 (by decide)) (by decide) rfl (by rw [al_267]; decide) dX12_keepsRow_18 (v := 0) h_267_15 ?_
  refine a_iast C (i := 266) 15 kd_266 (hid 266 (by decide)) (by decide) rfl (by rw [al_266]; decide) dX12_keepsRow_19 ?_
  refine a_iinc C dX12_keepsRow_20 rfl (v := 16) rfl (by decide) rfl (vs1 := [some (.ref (ad 236)), some (.int 16)]) rfl ?_
  refine a_goto C dX12_keepsRow_23 (tgt := 2) rfl ?_
  refine a_iload_n C dX12_keepsRow_2 (i := 1) rfl rfl ?_
  refine a_bipush C dX12_keepsRow_3 (v := 29) rfl ?_
  refine a_ic_ge C dX12_keepsRow_5 (tgt := 26) rfl (fun h => absurd h (by decide)) (fun _ => ?_)
  refine a_aload_n C dX12_keepsRow_8 (i := 0) rfl rfl ?_
  refine a_get C fl_RX12_107 (i := 236) kd_236 (hid 236 (by decide)) (v := .ref (ad 266)) rfl dX12_keepsRow_9 ?_
  refine a_iload_n C dX12_keepsRow_12 (i := 1) rfl rfl ?_
  refine a_aload_n C dX12_keepsRow_13 (i := 0) rfl rfl ?_
  refine a_get C fl_RX12_110 (i := 236) kd_236 (hid 236 (by decide)) (v := .ref (ad 267)) rfl dX12_keepsRow_14 ?_
  refine a_iload_n C dX12_keepsRow_17 (i := 1) rfl rfl ?_
  refine a_iald C (i := 267) 16 kd_267 (hid 267 (by decide)) (by decide) rfl (by rw [al_267]; decide) dX12_keepsRow_18 (v := 0) h_267_16 ?_
  refine a_iast C (i := 266) 16 kd_266 (hid 266 (by decide)) (by decide) rfl (by rw [al_266]; decide) dX12_keepsRow_19 ?_
  refine a_iinc C dX12_keepsRow_20 rfl (v := 17) rfl (by decide) rfl (vs1 := [some (.ref (ad 236)), some (.int 17)]) rfl ?_
  refine a_goto C dX12_keepsRow_23 (tgt := 2) rfl ?_
  refine a_iload_n C dX12_keepsRow_2 (i := 1) rfl rfl ?_
  refine a_bipush C dX12_keepsRow_3 (v := 29) rfl ?_
  refine a_ic_ge C dX12_keepsRow_5 (tgt := 26) rfl (fun h => absurd h (by decide)) (fun _ => ?_)
  refine a_aload_n C dX12_keepsRow_8 (i := 0) rfl rfl ?_
  refine a_get C fl_RX12_107 (i := 236) kd_236 (hid 236 (by decide)) (v := .ref (ad 266)) rfl dX12_keepsRow_9 ?_
  refine a_iload_n C dX12_keepsRow_12 (i := 1) rfl rfl ?_
  refine a_aload_n C dX12_keepsRow_13 (i := 0) rfl rfl ?_
  refine a_get C fl_RX12_110 (i := 236) kd_236 (hid 236 (by decide)) (v := .ref (ad 267)) rfl dX12_keepsRow_14 ?_
  refine a_iload_n C dX12_keepsRow_17 (i := 1) rfl rfl ?_
  refine a_iald C (i := 267) 17 kd_267 (hid 267 (by decide)) (by decide) rfl (by rw [al_267]; decide) dX12_keepsRow_18 (v := 0) h_267_17 ?_
  refine a_iast C (i := 266) 17 kd_266 (hid 266 (by decide)) (by decide) rfl (by rw [al_266]; decide) dX12_keepsRow_19 ?_
  refine a_iinc C dX12_keepsRow_20 rfl (v := 18) rfl (by decide) rfl (vs1 := [some (.ref (ad 236)), some (.int 18)]) rfl ?_
  refine a_goto C dX12_keepsRow_23 (tgt := 2) rfl ?_
  refine a_iload_n C dX12_keepsRow_2 (i := 1) rfl rfl ?_
  refine a_bipush C dX12_keepsRow_3 (v := 29) rfl ?_
  refine a_ic_ge C dX12_keepsRow_5 (tgt := 26) rfl (fun h => absurd h (by decide)) (fun _ => ?_)
  refine a_aload_n C dX12_keepsRow_8 (i := 0) rfl rfl ?_
  refine a_get C fl_RX12_107 (i := 236) kd_236 (hid 236 (by decide)) (v := .ref (ad 266)) rfl dX12_keepsRow_9 ?_
  refine a_iload_n C dX12_keepsRow_12 (i := 1) rfl rfl ?_
  refine a_aload_n C dX12_keepsRow_13 (i := 0) rfl rfl ?_
  refine a_get C fl_RX12_110 (i := 236) kd_236 (hid 236 (by decide)) (v := .ref (ad 267)) rfl dX12_keepsRow_14 ?_
  refine a_iload_n C dX12_keepsRow_17 (i := 1) rfl rfl ?_
  refine a_iald C (i := 267) 18 kd_267 (hid 267 (by decide)) (by decide) rfl (by rw [al_267]; decide) dX12_keepsRow_18 (v := 0) h_267_18 ?_
  refine a_iast C (i := 266) 18 kd_266 (hid 266 (by decide)) (by decide) rfl (by rw [al_266]; decide) dX12_keepsRow_19 ?_
  refine a_iinc C dX12_keepsRow_20 rfl (v := 19) rfl (by decide) rfl (vs1 := [some (.ref (ad 236)), some (.int 19)]) rfl ?_
  refine a_goto C dX12_keepsRow_23 (tgt := 2) rfl ?_
  refine a_iload_n C dX12_keepsRow_2 (i := 1) rfl rfl ?_
  refine a_bipush C dX12_keepsRow_3 (v := 29) rfl ?_
  refine a_ic_ge C dX12_keepsRow_5 (tgt := 26) rfl (fun h => absurd h (by decide)) (fun _ => ?_)
  refine a_aload_n C dX12_keepsRow_8 (i := 0) rfl rfl ?_
  refine a_get C fl_RX12_107 (i := 236) kd_236 (hid 236 (by decide)) (v := .ref (ad 266)) rfl dX12_keepsRow_9 ?_
  refine a_iload_n C dX12_keepsRow_12 (i := 1) rfl rfl ?_
  refine a_aload_n C dX12_keepsRow_13 (i := 0) rfl rfl ?_
  refine a_get C fl_RX12_110 (i := 236) kd_236 (hid 236 (by decide)) (v := .ref (ad 267)) rfl dX12_keepsRow_14 ?_
  refine a_iload_n C dX12_keepsRow_17 (i := 1) rfl rfl ?_
  refine a_iald C (i := 267) 19 kd_267 (hid 267 (by decide)) (by decide) rfl (by rw [al_267]; decide) dX12_keepsRow_18 (v := 0) h_267_19 ?_
  refine a_iast C (i := 266) 19 kd_266 (hid 266 (by decide)) (by decide) rfl (by rw [al_266]; decide) dX12_keepsRow_19 ?_
  refine a_iinc C dX12_keepsRow_20 rfl (v := 20) rfl (by decide) rfl (vs1 := [some (.ref (ad 236)), some (.int 20)]) rfl ?_
  refine a_goto C dX12_keepsRow_23 (tgt := 2) rfl ?_
  refine a_iload_n C dX12_keepsRow_2 (i := 1) rfl rfl ?_
  refine a_bipush C dX12_keepsRow_3 (v := 29) rfl ?_
  refine a_ic_ge C dX12_keepsRow_5 (tgt := 26) rfl (fun h => absurd h (by decide)) (fun _ => ?_)
  refine a_aload_n C dX12_keepsRow_8 (i := 0) rfl rfl ?_
  refine a_get C fl_RX12_107 (i := 236) kd_236 (hid 236 (by decide)) (v := .ref (ad 266)) rfl dX12_keepsRow_9 ?_
  refine a_iload_n C dX12_keepsRow_12 (i := 1) rfl rfl ?_
  refine a_aload_n C dX12_keepsRow_13 (i := 0) rfl rfl ?_
  refine a_get C fl_RX12_110 (i := 236) kd_236 (hid 236 (by decide)) (v := .ref (ad 267)) rfl dX12_keepsRow_14 ?_
  refine a_iload_n C dX12_keepsRow_17 (i := 1) rfl rfl ?_
  refine a_iald C (i := 267) 20 kd_267 (hid 267 (by decide)) (by decide) rfl (by rw [al_267]; decide) dX12_keepsRow_18 (v := 0) h_267_20 ?_
  refine a_iast C (i := 266) 20 kd_266 (hid 266 (by decide)) (by decide) rfl (by rw [al_266]; decide) dX12_keepsRow_19 ?_
  refine a_iinc C dX12_keepsRow_20 rfl (v := 21) rfl (by decide) rfl (vs1 := [some (.ref (ad 236)), some (.int 21)]) rfl ?_
  refine a_goto C dX12_keepsRow_23 (tgt := 2) rfl ?_
  refine a_iload_n C dX12_keepsRow_2 (i := 1) rfl rfl ?_
  refine a_bipush C dX12_keepsRow_3 (v := 29) rfl ?_
  refine a_ic_ge C dX12_keepsRow_5 (tgt := 26) rfl (fun h => absurd h (by decide)) (fun _ => ?_)
  refine a_aload_n C dX12_keepsRow_8 (i := 0) rfl rfl ?_
  refine a_get C fl_RX12_107 (i := 236) kd_236 (hid 236 (by decide)) (v := .ref (ad 266)) rfl dX12_keepsRow_9 ?_
  refine a_iload_n C dX12_keepsRow_12 (i := 1) rfl rfl ?_
  refine a_aload_n C dX12_keepsRow_13 (i := 0) rfl rfl ?_
  refine a_get C fl_RX12_110 (i := 236) kd_236 (hid 236 (by decide)) (v := .ref (ad 267)) rfl dX12_keepsRow_14 ?_
  refine a_iload_n C dX12_keepsRow_17 (i := 1) rfl rfl ?_
  refine a_iald C (i := 267) 21 kd_267 (hid 267 (by decide)) (by decide) rfl (by rw [al_267]; decide) dX12_keepsRow_18 (v := 0) h_267_21 ?_
  refine a_iast C (i := 266) 21 kd_266 (hid 266 (by decide)) (by decide) rfl (by rw [al_266]; decide) dX12_keepsRow_19 ?_
  refine a_iinc C dX12_keepsRow_20 rfl (v := 22) rfl (by decide) rfl (vs1 := [some (.ref (ad 236)), some (.int 22)]) rfl ?_
  refine a_goto C dX12_keepsRow_23 (tgt := 2) rfl ?_
  refine a_iload_n C dX12_keepsRow_2 (i := 1) rfl rfl ?_
  refine a_bipush C dX12_keepsRow_3 (v := 29) rfl ?_
  refine a_ic_ge C dX12_keepsRow_5 (tgt := 26) rfl (fun h => absurd h (by decide)) (fun _ => ?_)
  refine a_aload_n C dX12_keepsRow_8 (i := 0) rfl rfl ?_
  refine a_get C fl_RX12_107 (i := 236) kd_236 (hid 236 (by decide)) (v := .ref (ad 266)) rfl dX12_keepsRow_9 ?_
  refine a_iload_n C dX12_keepsRow_12 (i := 1) rfl rfl ?_
  refine a_aload_n C dX12_keepsRow_13 (i := 0) rfl rfl ?_
  refine a_get C fl_RX12_110 (i := 236) kd_236 (hid 236 (by decide)) (v := .ref (ad 267)) rfl dX12_keepsRow_14 ?_
  refine a_iload_n C dX12_keepsRow_17 (i := 1) rfl rfl ?_
  refine a_iald C (i := 267) 22 kd_267 (hid 267 (by decide)) (by decide) rfl (by rw [al_267]; decide) dX12_keepsRow_18 (v := 0) h_267_22 ?_
  refine a_iast C (i := 266) 22 kd_266 (hid 266 (by decide)) (by decide) rfl (by rw [al_266]; decide) dX12_keepsRow_19 ?_
  refine a_iinc C dX12_keepsRow_20 rfl (v := 23) rfl (by decide) rfl (vs1 := [some (.ref (ad 236)), some (.int 23)]) rfl ?_
  refine a_goto C dX12_keepsRow_23 (tgt := 2) rfl ?_
  refine a_iload_n C dX12_keepsRow_2 (i := 1) rfl rfl ?_
  refine a_bipush C dX12_keepsRow_3 (v := 29) rfl ?_
  refine a_ic_ge C dX12_keepsRow_5 (tgt := 26) rfl (fun h => absurd h (by decide)) (fun _ => ?_)
  refine a_aload_n C dX12_keepsRow_8 (i := 0) rfl rfl ?_
  refine a_get C fl_RX12_107 (i := 236) kd_236 (hid 236 (by decide)) (v := .ref (ad 266)) rfl dX12_keepsRow_9 ?_
  refine a_iload_n C dX12_keepsRow_12 (i := 1) rfl rfl ?_
  refine a_aload_n C dX12_keepsRow_13 (i := 0) rfl rfl ?_
  refine a_get C fl_RX12_110 (i := 236) kd_236 (hid 236 (by decide)) (v := .ref (ad 267)) rfl dX12_keepsRow_14 ?_
  refine a_iload_n C dX12_keepsRow_17 (i := 1) rfl rfl ?_
  refine a_iald C (i := 267) 23 kd_267 (hid 267 (by decide)) (by decide) rfl (by rw [al_267]; decide) dX12_keepsRow_18 (v := 0) h_267_23 ?_
  refine a_iast C (i := 266) 23 kd_266 (hid 266 (by decide)) (by decide) rfl (by rw [al_266]; decide) dX12_keepsRow_19 ?_
  refine a_iinc C dX12_keepsRow_20 rfl (v := 24) rfl (by decide) rfl (vs1 := [some (.ref (ad 236)), some (.int 24)]) rfl ?_
  refine a_goto C dX12_keepsRow_23 (tgt := 2) rfl ?_
  refine a_iload_n C dX12_keepsRow_2 (i := 1) rfl rfl ?_
  refine a_bipush C dX12_keepsRow_3 (v := 29) rfl ?_
  refine a_ic_ge C dX12_keepsRow_5 (tgt := 26) rfl (fun h => absurd h (by decide)) (fun _ => ?_)
  refine a_aload_n C dX12_keepsRow_8 (i := 0) rfl rfl ?_
  refine a_get C fl_RX12_107 (i := 236) kd_236 (hid 236 (by decide)) (v := .ref (ad 266)) rfl dX12_keepsRow_9 ?_
  refine a_iload_n C dX12_keepsRow_12 (i := 1) rfl rfl ?_
  refine a_aload_n C dX12_keepsRow_13 (i := 0) rfl rfl ?_
  refine a_get C fl_RX12_110 (i := 236) kd_236 (hid 236 (by decide)) (v := .ref (ad 267)) rfl dX12_keepsRow_14 ?_
  refine a_iload_n C dX12_keepsRow_17 (i := 1) rfl rfl ?_
  refine a_iald C (i := 267) 24 kd_267 (hid 267 (by decide)) (by decide) rfl (by rw [al_267]; decide) dX12_keepsRow_18 (v := 0) h_267_24 ?_
  refine a_iast C (i := 266) 24 kd_266 (hid 266 (by decide)) (by decide) rfl (by rw [al_266]; decide) dX12_keepsRow_19 ?_
  refine a_iinc C dX12_keepsRow_20 rfl (v := 25) rfl (by decide) rfl (vs1 := [some (.ref (ad 236)), some (.int 25)]) rfl ?_
  refine a_goto C dX12_keepsRow_23 (tgt := 2) rfl ?_
  refine a_iload_n C dX12_keepsRow_2 (i := 1) rfl rfl ?_
  refine a_bipush C dX12_keepsRow_3 (v := 29) rfl ?_
  refine a_ic_ge C dX12_keepsRow_5 (tgt := 26) rfl (fun h => absurd h (by decide)) (fun _ => ?_)
  refine a_aload_n C dX12_keepsRow_8 (i := 0) rfl rfl ?_
  refine a_get C fl_RX12_107 (i := 236) kd_236 (hid 236 (by decide)) (v := .ref (ad 266)) rfl dX12_keepsRow_9 ?_
  refine a_iload_n C dX12_keepsRow_12 (i := 1) rfl rfl ?_
  refine a_aload_n C dX12_keepsRow_13 (i := 0) rfl rfl ?_
  refine a_get C fl_RX12_110 (i := 236) kd_236 (hid 236 (by decide)) (v := .ref (ad 267)) rfl dX12_keepsRow_14 ?_
  refine a_iload_n C dX12_keepsRow_17 (i := 1) rfl rfl ?_
  refine a_iald C (i := 267) 25 kd_267 (hid 267 (by decide)) (by decide) rfl (by rw [al_267]; decide) dX12_keepsRow_18 (v := 0) h_267_25 ?_
  refine a_iast C (i := 266) 25 kd_266 (hid 266 (by decide)) (by decide) rfl (by rw [al_266]; decide) dX12_keepsRow_19 ?_
  refine a_iinc C dX12_keepsRow_20 rfl (v := 26) rfl (by decide) rfl (vs1 := [some (.ref (ad 236)), some (.int 26)]) rfl ?_
  refine a_goto C dX12_keepsRow_23 (tgt := 2) rfl ?_
  refine a_iload_n C dX12_keepsRow_2 (i := 1) rfl rfl ?_
  refine a_bipush C dX12_keepsRow_3 (v := 29) rfl ?_
  refine a_ic_ge C dX12_keepsRow_5 (tgt := 26) rfl (fun h => absurd h (by decide)) (fun _ => ?_)
  refine a_aload_n C dX12_keepsRow_8 (i := 0) rfl rfl ?_
  refine a_get C fl_RX12_107 (i := 236) kd_236 (hid 236 (by decide)) (v := .ref (ad 266)) rfl dX12_keepsRow_9 ?_
  refine a_iload_n C dX12_keepsRow_12 (i := 1) rfl rfl ?_
  refine a_aload_n C dX12_keepsRow_13 (i := 0) rfl rfl ?_
  refine a_get C fl_RX12_110 (i := 236) kd_236 (hid 236 (by decide)) (v := .ref (ad 267)) rfl dX12_keepsRow_14 ?_
  refine a_iload_n C dX12_keepsRow_17 (i := 1) rfl rfl ?_
  refine a_iald C (i := 267) 26 kd_267 (hid 267 (by decide)) (by decide) rfl (by rw [al_267]; decide) dX12_keepsRow_18 (v := (-2)) h_267_26 ?_
  refine a_iast C (i := 266) 26 kd_266 (hid 266 (by decide)) (by decide) rfl (by rw [al_266]; decide) dX12_keepsRow_19 ?_
  refine a_iinc C dX12_keepsRow_20 rfl (v := 27) rfl (by decide) rfl (vs1 := [some (.ref (ad 236)), some (.int 27)]) rfl ?_
  refine a_goto C dX12_keepsRow_23 (tgt := 2) rfl ?_
  refine a_iload_n C dX12_keepsRow_2 (i := 1) rfl rfl ?_
  refine a_bipush C dX12_keepsRow_3 (v := 29) rfl ?_
  refine a_ic_ge C dX12_keepsRow_5 (tgt := 26) rfl (fun h => absurd h (by decide)) (fun _ => ?_)
  refine a_aload_n C dX12_keepsRow_8 (i := 0) rfl rfl ?_
  refine a_get C fl_RX12_107 (i := 236) kd_236 (hid 236 (by decide)) (v := .ref (ad 266)) rfl dX12_keepsRow_9 ?_
  refine a_iload_n C dX12_keepsRow_12 (i := 1) rfl rfl ?_
  refine a_aload_n C dX12_keepsRow_13 (i := 0) rfl rfl ?_
  refine a_get C fl_RX12_110 (i := 236) kd_236 (hid 236 (by decide)) (v := .ref (ad 267)) rfl dX12_keepsRow_14 ?_
  refine a_iload_n C dX12_keepsRow_17 (i := 1) rfl rfl ?_
  refine a_iald C (i := 267) 27 kd_267 (hid 267 (by decide)) (by decide) rfl (by rw [al_267]; decide) dX12_keepsRow_18 (v := 0) h_267_27 ?_
  refine a_iast C (i := 266) 27 kd_266 (hid 266 (by decide)) (by decide) rfl (by rw [al_266]; decide) dX12_keepsRow_19 ?_
  refine a_iinc C dX12_keepsRow_20 rfl (v := 28) rfl (by decide) rfl (vs1 := [some (.ref (ad 236)), some (.int 28)]) rfl ?_
  refine a_goto C dX12_keepsRow_23 (tgt := 2) rfl ?_
  refine a_iload_n C dX12_keepsRow_2 (i := 1) rfl rfl ?_
  refine a_bipush C dX12_keepsRow_3 (v := 29) rfl ?_
  refine a_ic_ge C dX12_keepsRow_5 (tgt := 26) rfl (fun h => absurd h (by decide)) (fun _ => ?_)
  refine a_aload_n C dX12_keepsRow_8 (i := 0) rfl rfl ?_
  refine a_get C fl_RX12_107 (i := 236) kd_236 (hid 236 (by decide)) (v := .ref (ad 266)) rfl dX12_keepsRow_9 ?_
  refine a_iload_n C dX12_keepsRow_12 (i := 1) rfl rfl ?_
  refine a_aload_n C dX12_keepsRow_13 (i := 0) rfl rfl ?_
  refine a_get C fl_RX12_110 (i := 236) kd_236 (hid 236 (by decide)) (v := .ref (ad 267)) rfl dX12_keepsRow_14 ?_
  refine a_iload_n C dX12_keepsRow_17 (i := 1) rfl rfl ?_
  refine a_iald C (i := 267) 28 kd_267 (hid 267 (by decide)) (by decide) rfl (by rw [al_267]; decide) dX12_keepsRow_18 (v := (-1)) h_267_28 ?_
  refine a_iast C (i := 266) 28 kd_266 (hid 266 (by decide)) (by decide) rfl (by rw [al_266]; decide) dX12_keepsRow_19 ?_
  refine a_iinc C dX12_keepsRow_20 rfl (v := 29) rfl (by decide) rfl (vs1 := [some (.ref (ad 236)), some (.int 29)]) rfl ?_
  refine a_goto C dX12_keepsRow_23 (tgt := 2) rfl ?_
  refine a_iload_n C dX12_keepsRow_2 (i := 1) rfl rfl ?_
  refine a_bipush C dX12_keepsRow_3 (v := 29) rfl ?_
  refine a_ic_ge C dX12_keepsRow_5 (tgt := 26) rfl (fun _ => ?_) (fun h => absurd h (by decide))
  exact a_vret Rt dX12_keepsRow_26 (rfl)

