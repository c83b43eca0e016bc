def kb_cX12_appends_0 : List Nat := [28, 154, 0, 7, 30, 167, 0, 16, 20, 0, 163, 30, 105, 28, 16, 97, 100, 4, 96, 133]
theorem ac_cX12_appends_0 : AL cX12_appends 0 kb_cX12_appends_0 := AL.of (m := 20) (by decide +kernel)
theorem dX12_appends_0 : decode cX12_appends 0 = .ok (.iload_n 2, 1) := o28 ac_cX12_appends_0 0 rfl
theorem dX12_appends_1 : decode cX12_appends 1 = .ok (.ifCond .ne 7, 3) := o154p ac_cX12_appends_0 1 0 7 rfl rfl
theorem dX12_appends_4 : decode cX12_appends 4 = .ok (.lload_n 0, 1) := o30 ac_cX12_appends_0 4 rfl
theorem dX12_appends_5 : decode cX12_appends 5 = .ok (.goto 16, 3) := o167p ac_cX12_appends_0 5 0 16 rfl rfl
def kb_cX12_appends_16 : List Nat := [100, 4, 96, 133, 97, 173]
theorem ac_cX12_appends_16 : AL cX12_appends 16 kb_cX12_appends_16 := AL.of (m := 6) (by decide +kernel)
theorem dX12_appends_21 : decode cX12_appends 21 = .ok (.lreturn, 1) := o173 ac_cX12_appends_16 5 rfl
set_option maxHeartbeats 4000000 in
set_option maxRecDepth 100000 in
theorem i_app0 {l : Launch} {D : va_G} {ids : List Nat} {ad : Nat → Nat} {ca : Nat → ClassId} {σ : HS} {x : Int64} (hid : ∀ i, 236 ≤ i ∧ i < 277 → i ∈ ids) : Kl l D ids ad ca yX12_appends cX12_appends 3 0 0 [.long x, .int 0] σ (fun r σ1 => r = x ∧ σ1 = σ) := by
  refine Kl.of (by decide) (Nat.le_of_ble_eq_true rfl) 0 (fun Γ C Rt => ?_)
  show AW ids ad ca Γ 0 [some (.long x), none, some (.int 0)] [] σ
  refine a_iload_n C dX12_appends_0 (i := 2) rfl rfl ?_
  refine a_if_ne C dX12_appends_1 (tgt := 8) rfl (fun h => absurd h (by decide)) (fun _ => ?_)
  refine a_lload_n C dX12_appends_4 (i := 0) rfl rfl ?_
  refine a_goto C dX12_appends_5 (tgt := 21) rfl ?_
  exact a_lret Rt dX12_appends_21 (⟨rfl, rfl⟩)
theorem dX12_appends_8 : decode cX12_appends 8 = .ok (.ldc2_w 163, 3) := o20 ac_cX12_appends_0 8 0 163 rfl
theorem dX12_appends_11 : decode cX12_appends 11 = .ok (.lload_n 0, 1) := o30 ac_cX12_appends_0 11 rfl
theorem dX12_appends_12 : decode cX12_appends 12 = .ok (.lmul, 1) := o105 ac_cX12_appends_0 12 rfl
theorem dX12_appends_13 : decode cX12_appends 13 = .ok (.iload_n 2, 1) := o28 ac_cX12_appends_0 13 rfl
theorem dX12_appends_14 : decode cX12_appends 14 = .ok (.bipush 97, 2) := o16p ac_cX12_appends_0 14 97 rfl rfl
theorem dX12_appends_16 : decode cX12_appends 16 = .ok (.isub, 1) := o100 ac_cX12_appends_16 0 rfl
theorem dX12_appends_17 : decode cX12_appends 17 = .ok (.iconst 1, 1) := o4 ac_cX12_appends_16 1 rfl
theorem dX12_appends_18 : decode cX12_appends 18 = .ok (.iadd, 1) := o96 ac_cX12_appends_16 2 rfl
theorem dX12_appends_19 : decode cX12_appends 19 = .ok (.i2l, 1) := o133 ac_cX12_appends_16 3 rfl
theorem dX12_appends_20 : decode cX12_appends 20 = .ok (.ladd, 1) := o97 ac_cX12_appends_16 4 rfl
set_option maxHeartbeats 4000000 in
set_option maxRecDepth 100000 in
theorem i_app1 {l : Launch} {D : va_G} {ids : List Nat} {ad : Nat → Nat} {ca : Nat → ClassId} {σ : HS} {x : Int64} {p1 : Int32} (hid : ∀ i, 236 ≤ i ∧ i < 277 → i ∈ ids) (hc : ¬ p1 = 0) : Kl l D ids ad ca yX12_appends cX12_appends 3 0 0 [.long x, .int p1] σ (fun r σ1 => r = ((27 * x) + (((p1 - 97) + 1).toInt64)) ∧ σ1 = σ) := by
  refine Kl.of (by decide) (Nat.le_of_ble_eq_true rfl) 0 (fun Γ C Rt => ?_)
  show AW ids ad ca Γ 0 [some (.long x), none, some (.int p1)] [] σ
  refine a_iload_n C dX12_appends_0 (i := 2) rfl rfl ?_
  refine a_if_ne C dX12_appends_1 (tgt := 8) rfl (fun c1 => ?_) (fun c1 => absurd c1 (hc))
  refine a_ldc2 C dX12_appends_8 ko_RX12_163 ?_
  refine a_lload_n C dX12_appends_11 (i := 0) rfl rfl ?_
  refine a_lmul C dX12_appends_12 ?_
  refine a_iload_n C dX12_appends_13 (i := 2) rfl rfl ?_
  refine a_bipush C dX12_appends_14 (v := 97) rfl ?_
  refine a_isub C dX12_appends_16 ?_
  refine a_iconst C dX12_appends_17 (v := 1) rfl ?_
  refine a_iadd C dX12_appends_18 ?_
  refine a_i2l C dX12_appends_19 ?_
  refine a_ladd C dX12_appends_20 ?_
  exact a_lret Rt dX12_appends_21 (⟨rfl, rfl⟩)
def kb_cX12_word_0 : List Nat := [9, 26, 184, 0, 165, 27, 184, 0, 165, 28, 184, 0, 165, 29, 184, 0, 165, 21, 4, 184]
theorem ac_cX12_word_0 : AL cX12_word 0 kb_cX12_word_0 := AL.of (m := 20) (by decide +kernel)
theorem dX12_word_0 : decode cX12_word 0 = .ok (.lconst 0, 1) := o9 ac_cX12_word_0 0 rfl
theorem dX12_word_1 : decode cX12_word 1 = .ok (.iload_n 0, 1) := o26 ac_cX12_word_0 1 rfl
theorem dX12_word_2 : decode cX12_word 2 = .ok (.invokestatic 165, 3) := o184 ac_cX12_word_0 2 0 165 rfl
theorem dX12_word_5 : decode cX12_word 5 = .ok (.iload_n 1, 1) := o27 ac_cX12_word_0 5 rfl
theorem dX12_word_6 : decode cX12_word 6 = .ok (.invokestatic 165, 3) := o184 ac_cX12_word_0 6 0 165 rfl
theorem dX12_word_9 : decode cX12_word 9 = .ok (.iload_n 2, 1) := o28 ac_cX12_word_0 9 rfl
theorem dX12_word_10 : decode cX12_word 10 = .ok (.invokestatic 165, 3) := o184 ac_cX12_word_0 10 0 165 rfl
theorem dX12_word_13 : decode cX12_word 13 = .ok (.iload_n 3, 1) := o29 ac_cX12_word_0 13 rfl
theorem dX12_word_14 : decode cX12_word 14 = .ok (.invokestatic 165, 3) := o184 ac_cX12_word_0 14 0 165 rfl
def kb_cX12_word_16 : List Nat := [165, 21, 4, 184, 0, 165, 21, 5, 184, 0, 165, 21, 6, 184, 0, 165, 173]
theorem ac_cX12_word_16 : AL cX12_word 16 kb_cX12_word_16 := AL.of (m := 17) (by decide +kernel)
theorem dX12_word_17 : decode cX12_word 17 = .ok (.iload 4, 2) := o21 ac_cX12_word_16 1 4 rfl
theorem dX12_word_19 : decode cX12_word 19 = .ok (.invokestatic 165, 3) := o184 ac_cX12_word_16 3 0 165 rfl
theorem dX12_word_22 : decode cX12_word 22 = .ok (.iload 5, 2) := o21 ac_cX12_word_16 6 5 rfl
theorem dX12_word_24 : decode cX12_word 24 = .ok (.invokestatic 165, 3) := o184 ac_cX12_word_16 8 0 165 rfl
theorem dX12_word_27 : decode cX12_word 27 = .ok (.iload 6, 2) := o21 ac_cX12_word_16 11 6 rfl
theorem dX12_word_29 : decode cX12_word 29 = .ok (.invokestatic 165, 3) := o184 ac_cX12_word_16 13 0 165 rfl
def kb_cX12_word_32 : List Nat := [173]
theorem ac_cX12_word_32 : AL cX12_word 32 kb_cX12_word_32 := AL.of (m := 1) (by decide +kernel)
theorem dX12_word_32 : decode cX12_word 32 = .ok (.lreturn, 1) := o173 ac_cX12_word_32 0 rfl
set_option maxHeartbeats 4000000 in
set_option maxRecDepth 100000 in
theorem i_word_0 {l : Launch} {D : va_G} {ids : List Nat} {ad : Nat → Nat} {ca : Nat → ClassId} {σ : HS} (hid : ∀ i, 236 ≤ i ∧ i < 277 → i ∈ ids) : Kl l D ids ad ca yX12_word cX12_word 7 1 22 [.int 116, .int 104, .int 105, .int 110, .int 103, .int 0, .int 0] σ (fun r σ1 => r = 10793230 ∧ σ1 = σ) := by
  refine Kl.of (by decide) (Nat.le_of_ble_eq_true rfl) 0 (fun Γ C Rt => ?_)
  show AW ids ad ca Γ 0 [some (.int 116), some (.int 104), some (.int 105), some (.int 110), some (.int 103), some (.int 0), some (.int 0)] [] σ
  refine a_lconst C dX12_word_0 (v := 0) rfl ?_
  refine a_iload_n C dX12_word_1 (i := 0) rfl rfl ?_
  refine a_callSl C (i_app1 hid (by decide)) ms_X12_appends ml_RX12_165 rfl rfl (Nat.le_of_ble_eq_true rfl) (Nat.le_of_ble_eq_true rfl) (Nat.le_of_ble_eq_true rfl) dX12_word_2 (fun r1 σ2 q3 => ?_)
  obtain ⟨rfl, q3⟩ := q3
  rw [q3]
  refine a_iload_n C dX12_word_5 (i := 1) rfl rfl ?_
  refine a_callSl C (i_app1 hid (by decide)) ms_X12_appends ml_RX12_165 rfl rfl (Nat.le_of_ble_eq_true rfl) (Nat.le_of_ble_eq_true rfl) (Nat.le_of_ble_eq_true rfl) dX12_word_6 (fun r4 σ5 q6 => ?_)
  obtain ⟨rfl, q6⟩ := q6
  rw [q6]
  refine a_iload_n C dX12_word_9 (i := 2) rfl rfl ?_
  refine a_callSl C (i_app1 hid (by decide)) ms_X12_appends ml_RX12_165 rfl rfl (Nat.le_of_ble_eq_true rfl) (Nat.le_of_ble_eq_true rfl) (Nat.le_of_ble_eq_true rfl) dX12_word_10 (fun r7 σ8 q9 => ?_)
  obtain ⟨rfl, q9⟩ := q9
  rw [q9]
  refine a_iload_n C dX12_word_13 (i := 3) rfl rfl ?_
  refine a_callSl C (i_app1 hid (by decide)) ms_X12_appends ml_RX12_165 rfl rfl (Nat.le_of_ble_eq_true rfl) (Nat.le_of_ble_eq_true rfl) (Nat.le_of_ble_eq_true rfl) dX12_word_14 (fun r10 σ11 q12 => ?_)
  obtain ⟨rfl, q12⟩ := q12
  rw [q12]
  refine a_iload C dX12_word_17 rfl ?_
  refine a_callSl C (i_app1 hid (by decide)) ms_X12_appends ml_RX12_165 rfl rfl (Nat.le_of_ble_eq_true rfl) (Nat.le_of_ble_eq_true rfl) (Nat.le_of_ble_eq_true rfl) dX12_word_19 (fun r13 σ14 q15 => ?_)
  obtain ⟨rfl, q15⟩ := q15
  rw [q15]
  refine a_iload C dX12_word_22 rfl ?_
  refine a_callSl C (i_app0 hid) ms_X12_appends ml_RX12_165 rfl rfl (Nat.le_of_ble_eq_true rfl) (Nat.le_of_ble_eq_true rfl) (Nat.le_of_ble_eq_true rfl) dX12_word_24 (fun r16 σ17 q18 => ?_)
  obtain ⟨rfl, q18⟩ := q18
  rw [q18]
  refine a_iload C dX12_word_27 rfl ?_
  refine a_callSl C (i_app0 hid) ms_X12_appends ml_RX12_165 rfl rfl (Nat.le_of_ble_eq_true rfl) (Nat.le_of_ble_eq_true rfl) (Nat.le_of_ble_eq_true rfl) dX12_word_29 (fun r19 σ20 q21 => ?_)
  obtain ⟨rfl, q21⟩ := q21
  rw [q21]
  exact a_lret Rt dX12_word_32 (⟨rfl, rfl⟩)
set_option maxHeartbeats 4000000 in
set_option maxRecDepth 100000 in
theorem i_word_1 {l : Launch} {D : va_G} {ids : List Nat} {ad : Nat → Nat} {ca : Nat → ClassId} {σ : HS} (hid : ∀ i, 236 ≤ i ∧ i < 277 → i ∈ ids) : Kl l D ids ad ca yX12_word cX12_word 7 1 22 [.int 112, .int 97, .int 116, .int 116, .int 101, .int 114, .int 110] σ (fun r σ1 => r = 6224103356 ∧ σ1 = σ) := by
  refine Kl.of (by decide) (Nat.le_of_ble_eq_true rfl) 0 (fun Γ C Rt => ?_)
  show AW ids ad ca Γ 0 [some (.int 112), some (.int 97), some (.int 116), some (.int 116), some (.int 101), some (.int 114), some (.int 110)] [] σ
  refine a_lconst C dX12_word_0 (v := 0) rfl ?_
  refine a_iload_n C dX12_word_1 (i := 0) rfl rfl ?_
  refine a_callSl C (i_app1 hid (by decide)) ms_X12_appends ml_RX12_165 rfl rfl (Nat.le_of_ble_eq_true rfl) (Nat.le_of_ble_eq_true rfl) (Nat.le_of_ble_eq_true rfl) dX12_word_2 (fun r1 σ2 q3 => ?_)
  obtain ⟨rfl, q3⟩ := q3
  rw [q3]
  refine a_iload_n C dX12_word_5 (i := 1) rfl rfl ?_
  refine a_callSl C (i_app1 hid (by decide)) ms_X12_appends ml_RX12_165 rfl rfl (Nat.le_of_ble_eq_true rfl) (Nat.le_of_ble_eq_true rfl) (Nat.le_of_ble_eq_true rfl) dX12_word_6 (fun r4 σ5 q6 => ?_)
  obtain ⟨rfl, q6⟩ := q6
  rw [q6]
  refine a_iload_n C dX12_word_9 (i := 2) rfl rfl ?_
  refine a_callSl C (i_app1 hid (by decide)) ms_X12_appends ml_RX12_165 rfl rfl (Nat.le_of_ble_eq_true rfl) (Nat.le_of_ble_eq_true rfl) (Nat.le_of_ble_eq_true rfl) dX12_word_10 (fun r7 σ8 q9 => ?_)
  obtain ⟨rfl, q9⟩ := q9
  rw [q9]
  refine a_iload_n C dX12_word_13 (i := 3) rfl rfl ?_
  refine a_callSl C (i_app1 hid (by decide)) ms_X12_appends ml_RX12_165 rfl rfl (Nat.le_of_ble_eq_true rfl) (Nat.le_of_ble_eq_true rfl) (Nat.le_of_ble_eq_true rfl) dX12_word_14 (fun r10 σ11 q12 => ?_)
  obtain ⟨rfl, q12⟩ := q12
  rw [q12]
  refine a_iload C dX12_word_17 rfl ?_
  refine a_callSl C (i_app1 hid (by decide)) ms_X12_appends ml_RX12_165 rfl rfl (Nat.le_of_ble_eq_true rfl) (Nat.le_of_ble_eq_true rfl) (Nat.le_of_ble_eq_true rfl) dX12_word_19 (fun r13 σ14 q15 => ?_)
  obtain ⟨rfl, q15⟩ := q15
  rw [q15]
  refine a_iload C dX12_word_22 rfl ?_
  refine a_callSl C (i_app1 hid (by decide)) ms_X12_appends ml_RX12_165 rfl rfl (Nat.le_of_ble_eq_true rfl) (Nat.le_of_ble_eq_true rfl) (Nat.le_of_ble_eq_true rfl) dX12_word_24 (fun r16 σ17 q18 => ?_)
  obtain ⟨rfl, q18⟩ := q18
  rw [q18]
  refine a_iload C dX12_word_27 rfl ?_
  refine a_callSl C (i_app1 hid (by decide)) ms_X12_appends ml_RX12_165 rfl rfl (Nat.le_of_ble_eq_true rfl) (Nat.le_of_ble_eq_true rfl) (Nat.le_of_ble_eq_true rfl) dX12_word_29 (fun r19 σ20 q21 => ?_)
  obtain ⟨rfl, q21⟩ := q21
  rw [q21]
  exact a_lret Rt dX12_word_32 (⟨rfl, rfl⟩)
set_option maxHeartbeats 4000000 in
set_option maxRecDepth 100000 in
theorem i_word_2 {l : Launch} {D : va_G} {ids : List Nat} {ad : Nat → Nat} {ca : Nat → ClassId} {σ : HS} (hid : ∀ i, 236 ≤ i ∧ i < 277 → i ∈ ids) : Kl l D ids ad ca yX12_word cX12_word 7 1 22 [.int 116, .int 105, .int 114, .int 101, .int 115, .int 0, .int 0] σ (fun r σ1 => r = 10819243 ∧ σ1 = σ) := by
  refine Kl.of (by decide) (Nat.le_of_ble_eq_true rfl) 0 (fun Γ C Rt => ?_)
  show AW ids ad ca Γ 0 [some (.int 116), some (.int 105), some (.int 114), some (.int 101), some (.int 115), some (.int 0), some (.int 0)] [] σ
  refine a_lconst C dX12_word_0 (v := 0) rfl ?_
  refine a_iload_n C dX12_word_1 (i := 0) rfl rfl ?_
  refine a_callSl C (i_app1 hid (by decide)) ms_X12_appends ml_RX12_165 rfl rfl (Nat.le_of_ble_eq_true rfl) (Nat.le_of_ble_eq_true rfl) (Nat.le_of_ble_eq_true rfl) dX12_word_2 (fun r1 σ2 q3 => ?_)
  obtain ⟨rfl, q3⟩ := q3
  rw [q3]
  refine a_iload_n C dX12_word_5 (i := 1) rfl rfl ?_
  refine a_callSl C (i_app1 hid (by decide)) ms_X12_appends ml_RX12_165 rfl rfl (Nat.le_of_ble_eq_true rfl) (Nat.le_of_ble_eq_true rfl) (Nat.le_of_ble_eq_true rfl) dX12_word_6 (fun r4 σ5 q6 => ?_)
  obtain ⟨rfl, q6⟩ := q6
  rw [q6]
  refine a_iload_n C dX12_word_9 (i := 2) rfl rfl ?_
  refine a_callSl C (i_app1 hid (by decide)) ms_X12_appends ml_RX12_165 rfl rfl (Nat.le_of_ble_eq_true rfl) (Nat.le_of_ble_eq_true rfl) (Nat.le_of_ble_eq_true rfl) dX12_word_10 (fun r7 σ8 q9 => ?_)
  obtain ⟨rfl, q9⟩ := q9
  rw [q9]
  refine a_iload_n C dX12_word_13 (i := 3) rfl rfl ?_
  refine a_callSl C (i_app1 hid (by decide)) ms_X12_appends ml_RX12_165 rfl rfl (Nat.le_of_ble_eq_true rfl) (Nat.le_of_ble_eq_true rfl) (Nat.le_of_ble_eq_true rfl) dX12_word_14 (fun r10 σ11 q12 => ?_)
  obtain ⟨rfl, q12⟩ := q12
  rw [q12]
  refine a_iload C dX12_word_17 rfl ?_
  refine a_callSl C (i_app1 hid (by decide)) ms_X12_appends ml_RX12_165 rfl rfl (Nat.le_of_ble_eq_true rfl) (Nat.le_of_ble_eq_true rfl) (Nat.le_of_ble_eq_true rfl) dX12_word_19 (fun r13 σ14 q15 => ?_)
  obtain ⟨rfl, q15⟩ := q15
  rw [q15]
  refine a_iload C dX12_word_22 rfl ?_
  refine a_callSl C (i_app0 hid) ms_X12_appends ml_RX12_165 rfl rfl (Nat.le_of_ble_eq_true rfl) (Nat.le_of_ble_eq_true rfl) (Nat.le_of_ble_eq_true rfl) dX12_word_24 (fun r16 σ17 q18 => ?_)
  obtain ⟨rfl, q18⟩ := q18
  rw [q18]
  refine a_iload C dX12_word_27 rfl ?_
  refine a_callSl C (i_app0 hid) ms_X12_appends ml_RX12_165 rfl rfl (Nat.le_of_ble_eq_true rfl) (Nat.le_of_ble_eq_true rfl) (Nat.le_of_ble_eq_true rfl) dX12_word_29 (fun r19 σ20 q21 => ?_)
  obtain ⟨rfl, q21⟩ := q21
  rw [q21]
  exact a_lret Rt dX12_word_32 (⟨rfl, rfl⟩)
set_option maxHeartbeats 4000000 in
set_option maxRecDepth 100000 in
theorem i_word_3 {l : Launch} {D : va_G} {ids : List Nat} {ad : Nat → Nat} {ca : Nat → ClassId} {σ : HS} (hid : ∀ i, 236 ≤ i ∧ i < 277 → i ∈ ids) : Kl l D ids ad ca yX12_word cX12_word 7 1 22 [.int 100, .int 114, .int 111, .int 112, .int 115, .int 0, .int 0] σ (fun r σ1 => r = 2491444 ∧ σ1 = σ) := by
  refine Kl.of (by decide) (Nat.le_of_ble_eq_true rfl) 0 (fun Γ C Rt => ?_)
  show AW ids ad ca Γ 0 [some (.int 100), some (.int 114), some (.int 111), some (.int 112), some (.int 115), some (.int 0), some (.int 0)] [] σ
  refine a_lconst C dX12_word_0 (v := 0) rfl ?_
  refine a_iload_n C dX12_word_1 (i := 0) rfl rfl ?_
  refine a_callSl C (i_app1 hid (by decide)) ms_X12_appends ml_RX12_165 rfl rfl (Nat.le_of_ble_eq_true rfl) (Nat.le_of_ble_eq_true rfl) (Nat.le_of_ble_eq_true rfl) dX12_word_2 (fun r1 σ2 q3 => ?_)
  obtain ⟨rfl, q3⟩ := q3
  rw [q3]
  refine a_iload_n C dX12_word_5 (i := 1) rfl rfl ?_
  refine a_callSl C (i_app1 hid (by decide)) ms_X12_appends ml_RX12_165 rfl rfl (Nat.le_of_ble_eq_true rfl) (Nat.le_of_ble_eq_true rfl) (Nat.le_of_ble_eq_true rfl) dX12_word_6 (fun r4 σ5 q6 => ?_)
  obtain ⟨rfl, q6⟩ := q6
  rw [q6]
  refine a_iload_n C dX12_word_9 (i := 2) rfl rfl ?_
  refine a_callSl C (i_app1 hid (by decide)) ms_X12_appends ml_RX12_165 rfl rfl (Nat.le_of_ble_eq_true rfl) (Nat.le_of_ble_eq_true rfl) (Nat.le_of_ble_eq_true rfl) dX12_word_10 (fun r7 σ8 q9 => ?_)
  obtain ⟨rfl, q9⟩ := q9
  rw [q9]
  refine a_iload_n C dX12_word_13 (i := 3) rfl rfl ?_
  refine a_callSl C (i_app1 hid (by decide)) ms_X12_appends ml_RX12_165 rfl rfl (Nat.le_of_ble_eq_true rfl) (Nat.le_of_ble_eq_true rfl) (Nat.le_of_ble_eq_true rfl) dX12_word_14 (fun r10 σ11 q12 => ?_)
  obtain ⟨rfl, q12⟩ := q12
  rw [q12]
  refine a_iload C dX12_word_17 rfl ?_
  refine a_callSl C (i_app1 hid (by decide)) ms_X12_appends ml_RX12_165 rfl rfl (Nat.le_of_ble_eq_true rfl) (Nat.le_of_ble_eq_true rfl) (Nat.le_of_ble_eq_true rfl) dX12_word_19 (fun r13 σ14 q15 => ?_)
  obtain ⟨rfl, q15⟩ := q15
  rw [q15]
  refine a_iload C dX12_word_22 rfl ?_
  refine a_callSl C (i_app0 hid) ms_X12_appends ml_RX12_165 rfl rfl (Nat.le_of_ble_eq_true rfl) (Nat.le_of_ble_eq_true rfl) (Nat.le_of_ble_eq_true rfl) dX12_word_24 (fun r16 σ17 q18 => ?_)
  obtain ⟨rfl, q18⟩ := q18
  rw [q18]
  refine a_iload C dX12_word_27 rfl ?_
  refine a_callSl C (i_app0 hid) ms_X12_appends ml_RX12_165 rfl rfl (Nat.le_of_ble_eq_true rfl) (Nat.le_of_ble_eq_true rfl) (Nat.le_of_ble_eq_true rfl) dX12_word_29 (fun r19 σ20 q21 => ?_)
  obtain ⟨rfl, q21⟩ := q21
  rw [q21]
  exact a_lret Rt dX12_word_32 (⟨rfl, rfl⟩)
set_option maxHeartbeats 4000000 in
set_option maxRecDepth 100000 in
theorem i_word_4 {l : Launch} {D : va_G} {ids : List Nat} {ad : Nat → Nat} {ca : Nat → ClassId} {σ : HS} (hid : ∀ i, 236 ≤ i ∧ i < 277 → i ∈ ids) : Kl l D ids ad ca yX12_word cX12_word 7 1 22 [.int 102, .int 111, .int 114, .int 99, .int 101, .int 0, .int 0] σ (fun r σ1 => r = 3497099 ∧ σ1 = σ) := by
  refine Kl.of (by decide) (Nat.le_of_ble_eq_true rfl) 0 (fun Γ C Rt => ?_)
  show AW ids ad ca Γ 0 [some (.int 102), some (.int 111), some (.int 114), some (.int 99), some (.int 101), some (.int 0), some (.int 0)] [] σ
  refine a_lconst C dX12_word_0 (v := 0) rfl ?_
  refine a_iload_n C dX12_word_1 (i := 0) rfl rfl ?_
  refine a_callSl C (i_app1 hid (by decide)) ms_X12_appends ml_RX12_165 rfl rfl (Nat.le_of_ble_eq_true rfl) (Nat.le_of_ble_eq_true rfl) (Nat.le_of_ble_eq_true rfl) dX12_word_2 (fun r1 σ2 q3 => ?_)
  obtain ⟨rfl, q3⟩ := q3
  rw [q3]
  refine a_iload_n C dX12_word_5 (i := 1) rfl rfl ?_
  refine a_callSl C (i_app1 hid (by decide)) ms_X12_appends ml_RX12_165 rfl rfl (Nat.le_of_ble_eq_true rfl) (Nat.le_of_ble_eq_true rfl) (Nat.le_of_ble_eq_true rfl) dX12_word_6 (fun r4 σ5 q6 => ?_)
  obtain ⟨rfl, q6⟩ := q6
  rw [q6]
  refine a_iload_n C dX12_word_9 (i := 2) rfl rfl ?_
  refine a_callSl C (i_app1 hid (by decide)) ms_X12_appends ml_RX12_165 rfl rfl (Nat.le_of_ble_eq_true rfl) (Nat.le_of_ble_eq_true rfl) (Nat.le_of_ble_eq_true rfl) dX12_word_10 (fun r7 σ8 q9 => ?_)
  obtain ⟨rfl, q9⟩ := q9
  rw [q9]
  refine a_iload_n C dX12_word_13 (i := 3) rfl rfl ?_
  refine a_callSl C (i_app1 hid (by decide)) ms_X12_appends ml_RX12_165 rfl rfl (Nat.le_of_ble_eq_true rfl) (Nat.le_of_ble_eq_true rfl) (Nat.le_of_ble_eq_true rfl) dX12_word_14 (fun r10 σ11 q12 => ?_)
  obtain ⟨rfl, q12⟩ := q12
  rw [q12]
  refine a_iload C dX12_word_17 rfl ?_
  refine a_callSl C (i_app1 hid (by decide)) ms_X12_appends ml_RX12_165 rfl rfl (Nat.le_of_ble_eq_true rfl) (Nat.le_of_ble_eq_true rfl) (Nat.le_of_ble_eq_true rfl) dX12_word_19 (fun r13 σ14 q15 => ?_)
  obtain ⟨rfl, q15⟩ := q15
  rw [q15]
  refine a_iload C dX12_word_22 rfl ?_
  refine a_callSl C (i_app0 hid) ms_X12_appends ml_RX12_165 rfl rfl (Nat.le_of_ble_eq_true rfl) (Nat.le_of_ble_eq_true rfl) (Nat.le_of_ble_eq_true rfl) dX12_word_24 (fun r16 σ17 q18 => ?_)
  obtain ⟨rfl, q18⟩ := q18
  rw [q18]
  refine a_iload C dX12_word_27 rfl ?_
  refine a_callSl C (i_app0 hid) ms_X12_appends ml_RX12_165 rfl rfl (Nat.le_of_ble_eq_true rfl) (Nat.le_of_ble_eq_true rfl) (Nat.le_of_ble_eq_true rfl) dX12_word_29 (fun r19 σ20 q21 => ?_)
  obtain ⟨rfl, q21⟩ := q21
  rw [q21]
  exact a_lret Rt dX12_word_32 (⟨rfl, rfl⟩)
set_option maxHeartbeats 4000000 in
set_option maxRecDepth 100000 in
theorem i_word_5 {l : Launch} {D : va_G} {ids : List Nat} {ad : Nat → Nat} {ca : Nat → ClassId} {σ : HS} (hid : ∀ i, 236 ≤ i ∧ i < 277 → i ∈ ids) : Kl l D ids ad ca yX12_word cX12_word 7 1 22 [.int 112, .int 97, .int 121, .int 115, .int 0, .int 0, .int 0] σ (fun r σ1 => r = 316351 ∧ σ1 = σ) := by
  refine Kl.of (by decide) (Nat.le_of_ble_eq_true rfl) 0 (fun Γ C Rt => ?_)
  show AW ids ad ca Γ 0 [some (.int 112), some (.int 97), some (.int 121), some (.int 115), some (.int 0), some (.int 0), some (.int 0)] [] σ
  refine a_lconst C dX12_word_0 (v := 0) rfl ?_
  refine a_iload_n C dX12_word_1 (i := 0) rfl rfl ?_
  refine a_callSl C (i_app1 hid (by decide)) ms_X12_appends ml_RX12_165 rfl rfl (Nat.le_of_ble_eq_true rfl) (Nat.le_of_ble_eq_true rfl) (Nat.le_of_ble_eq_true rfl) dX12_word_2 (fun r1 σ2 q3 => ?_)
  obtain ⟨rfl, q3⟩ := q3
  rw [q3]
  refine a_iload_n C dX12_word_5 (i := 1) rfl rfl ?_
  refine a_callSl C (i_app1 hid (by decide)) ms_X12_appends ml_RX12_165 rfl rfl (Nat.le_of_ble_eq_true rfl) (Nat.le_of_ble_eq_true rfl) (Nat.le_of_ble_eq_true rfl) dX12_word_6 (fun r4 σ5 q6 => ?_)
  obtain ⟨rfl, q6⟩ := q6
  rw [q6]
  refine a_iload_n C dX12_word_9 (i := 2) rfl rfl ?_
  refine a_callSl C (i_app1 hid (by decide)) ms_X12_appends ml_RX12_165 rfl rfl (Nat.le_of_ble_eq_true rfl) (Nat.le_of_ble_eq_true rfl) (Nat.le_of_ble_eq_true rfl) dX12_word_10 (fun r7 σ8 q9 => ?_)
  obtain ⟨rfl, q9⟩ := q9
  rw [q9]
  refine a_iload_n C dX12_word_13 (i := 3) rfl rfl ?_
  refine a_callSl C (i_app1 hid (by decide)) ms_X12_appends ml_RX12_165 rfl rfl (Nat.le_of_ble_eq_true rfl) (Nat.le_of_ble_eq_true rfl) (Nat.le_of_ble_eq_true rfl) dX12_word_14 (fun r10 σ11 q12 => ?_)
  obtain ⟨rfl, q12⟩ := q12
  rw [q12]
  refine a_iload C dX12_word_17 rfl ?_
  refine a_callSl C (i_app0 hid) ms_X12_appends ml_RX12_165 rfl rfl (Nat.le_of_ble_eq_true rfl) (Nat.le_of_ble_eq_true rfl) (Nat.le_of_ble_eq_true rfl) dX12_word_19 (fun r13 σ14 q15 => ?_)
  obtain ⟨rfl, q15⟩ := q15
  rw [q15]
  refine a_iload C dX12_word_22 rfl ?_
  refine a_callSl C (i_app0 hid) ms_X12_appends ml_RX12_165 rfl rfl (Nat.le_of_ble_eq_true rfl) (Nat.le_of_ble_eq_true rfl) (Nat.le_of_ble_eq_true rfl) dX12_word_24 (fun r16 σ17 q18 => ?_)
  obtain ⟨rfl, q18⟩ := q18
  rw [q18]
  refine a_iload C dX12_word_27 rfl ?_
  refine a_callSl C (i_app0 hid) ms_X12_appends ml_RX12_165 rfl rfl (Nat.le_of_ble_eq_true rfl) (Nat.le_of_ble_eq_true rfl) (Nat.le_of_ble_eq_true rfl) dX12_word_29 (fun r19 σ20 q21 => ?_)
  obtain ⟨rfl, q21⟩ := q21
  rw [q21]
  exact a_lret Rt dX12_word_32 (⟨rfl, rfl⟩)
set_option maxHeartbeats 4000000 in
set_option maxRecDepth 100000 in
theorem i_word_6 {l : Launch} {D : va_G} {ids : List Nat} {ad : Nat → Nat} {ca : Nat → ClassId} {σ : HS} (hid : ∀ i, 236 ≤ i ∧ i < 277 → i ∈ ids) : Kl l D ids ad ca yX12_word cX12_word 7 1 22 [.int 114, .int 101, .int 115, .int 116, .int 115, .int 0, .int 0] σ (fun r σ1 => r = 9678763 ∧ σ1 = σ) := by
  refine Kl.of (by decide) (Nat.le_of_ble_eq_true rfl) 0 (fun Γ C Rt => ?_)
  show AW ids ad ca Γ 0 [some (.int 114), some (.int 101), some (.int 115), some (.int 116), some (.int 115), some (.int 0), some (.int 0)] [] σ
  refine a_lconst C dX12_word_0 (v := 0) rfl ?_
  refine a_iload_n C dX12_word_1 (i := 0) rfl rfl ?_
  refine a_callSl C (i_app1 hid (by decide)) ms_X12_appends ml_RX12_165 rfl rfl (Nat.le_of_ble_eq_true rfl) (Nat.le_of_ble_eq_true rfl) (Nat.le_of_ble_eq_true rfl) dX12_word_2 (fun r1 σ2 q3 => ?_)
  obtain ⟨rfl, q3⟩ := q3
  rw [q3]
  refine a_iload_n C dX12_word_5 (i := 1) rfl rfl ?_
  refine a_callSl C (i_app1 hid (by decide)) ms_X12_appends ml_RX12_165 rfl rfl (Nat.le_of_ble_eq_true rfl) (Nat.le_of_ble_eq_true rfl) (Nat.le_of_ble_eq_true rfl) dX12_word_6 (fun r4 σ5 q6 => ?_)
  obtain ⟨rfl, q6⟩ := q6
  rw [q6]
  refine a_iload_n C dX12_word_9 (i := 2) rfl rfl ?_
  refine a_callSl C (i_app1 hid (by decide)) ms_X12_appends ml_RX12_165 rfl rfl (Nat.le_of_ble_eq_true rfl) (Nat.le_of_ble_eq_true rfl) (Nat.le_of_ble_eq_true rfl) dX12_word_10 (fun r7 σ8 q9 => ?_)
  obtain ⟨rfl, q9⟩ := q9
  rw [q9]
  refine a_iload_n C dX12_word_13 (i := 3) rfl rfl ?_
  refine a_callSl C (i_app1 hid (by decide)) ms_X12_appends ml_RX12_165 rfl rfl (Nat.le_of_ble_eq_true rfl) (Nat.le_of_ble_eq_true rfl) (Nat.le_of_ble_eq_true rfl) dX12_word_14 (fun r10 σ11 q12 => ?_)
  obtain ⟨rfl, q12⟩ := q12
  rw [q12]
  refine a_iload C dX12_word_17 rfl ?_
  refine a_callSl C (i_app1 hid (by decide)) ms_X12_appends ml_RX12_165 rfl rfl (Nat.le_of_ble_eq_true rfl) (Nat.le_of_ble_eq_true rfl) (Nat.le_of_ble_eq_true rfl) dX12_word_19 (fun r13 σ14 q15 => ?_)
  obtain ⟨rfl, q15⟩ := q15
  rw [q15]
  refine a_iload C dX12_word_22 rfl ?_
  refine a_callSl C (i_app0 hid) ms_X12_appends ml_RX12_165 rfl rfl (Nat.le_of_ble_eq_true rfl) (Nat.le_of_ble_eq_true rfl) (Nat.le_of_ble_eq_true rfl) dX12_word_24 (fun r16 σ17 q18 => ?_)
  obtain ⟨rfl, q18⟩ := q18
  rw [q18]
  refine a_iload C dX12_word_27 rfl ?_
  refine a_callSl C (i_app0 hid) ms_X12_appends ml_RX12_165 rfl rfl (Nat.le_of_ble_eq_true rfl) (Nat.le_of_ble_eq_true rfl) (Nat.le_of_ble_eq_true rfl) dX12_word_29 (fun r19 σ20 q21 => ?_)
  obtain ⟨rfl, q21⟩ := q21
  rw [q21]
  exact a_lret Rt dX12_word_32 (⟨rfl, rfl⟩)
set_option maxHeartbeats 4000000 in
set_option maxRecDepth 100000 in
theorem i_word_7 {l : Launch} {D : va_G} {ids : List Nat} {ad : Nat → Nat} {ca : Nat → ClassId} {σ : HS} (hid : ∀ i, 236 ≤ i ∧ i < 277 → i ∈ ids) : Kl l D ids ad ca yX12_word cX12_word 7 1 22 [.int 115, .int 101, .int 101, .int 100, .int 0, .int 0, .int 0] σ (fun r σ1 => r = 377761 ∧ σ1 = σ) := by
  refine Kl.of (by decide) (Nat.le_of_ble_eq_true rfl) 0 (fun Γ C Rt => ?_)
  show AW ids ad ca Γ 0 [some (.int 115), some (.int 101), some (.int 101), some (.int 100), some (.int 0), some (.int 0), some (.int 0)] [] σ
  refine a_lconst C dX12_word_0 (v := 0) rfl ?_
  refine a_iload_n C dX12_word_1 (i := 0) rfl rfl ?_
  refine a_callSl C (i_app1 hid (by decide)) ms_X12_appends ml_RX12_165 rfl rfl (Nat.le_of_ble_eq_true rfl) (Nat.le_of_ble_eq_true rfl) (Nat.le_of_ble_eq_true rfl) dX12_word_2 (fun r1 σ2 q3 => ?_)
  obtain ⟨rfl, q3⟩ := q3
  rw [q3]
  refine a_iload_n C dX12_word_5 (i := 1) rfl rfl ?_
  refine a_callSl C (i_app1 hid (by decide)) ms_X12_appends ml_RX12_165 rfl rfl (Nat.le_of_ble_eq_true rfl) (Nat.le_of_ble_eq_true rfl) (Nat.le_of_ble_eq_true rfl) dX12_word_6 (fun r4 σ5 q6 => ?_)
  obtain ⟨rfl, q6⟩ := q6
  rw [q6]
  refine a_iload_n C dX12_word_9 (i := 2) rfl rfl ?_
  refine a_callSl C (i_app1 hid (by decide)) ms_X12_appends ml_RX12_165 rfl rfl (Nat.le_of_ble_eq_true rfl) (Nat.le_of_ble_eq_true rfl) (Nat.le_of_ble_eq_true rfl) dX12_word_10 (fun r7 σ8 q9 => ?_)
  obtain ⟨rfl, q9⟩ := q9
  rw [q9]
  refine a_iload_n C dX12_word_13 (i := 3) rfl rfl ?_
  refine a_callSl C (i_app1 hid (by decide)) ms_X12_appends ml_RX12_165 rfl rfl (Nat.le_of_ble_eq_true rfl) (Nat.le_of_ble_eq_true rfl) (Nat.le_of_ble_eq_true rfl) dX12_word_14 (fun r10 σ11 q12 => ?_)
  obtain ⟨rfl, q12⟩ := q12
  rw [q12]
  refine a_iload C dX12_word_17 rfl ?_
  refine a_callSl C (i_app0 hid) ms_X12_appends ml_RX12_165 rfl rfl (Nat.le_of_ble_eq_true rfl) (Nat.le_of_ble_eq_true rfl) (Nat.le_of_ble_eq_true rfl) dX12_word_19 (fun r13 σ14 q15 => ?_)
  obtain ⟨rfl, q15⟩ := q15
  rw [q15]
  refine a_iload C dX12_word_22 rfl ?_
  refine a_callSl C (i_app0 hid) ms_X12_appends ml_RX12_165 rfl rfl (Nat.le_of_ble_eq_true rfl) (Nat.le_of_ble_eq_true rfl) (Nat.le_of_ble_eq_true rfl) dX12_word_24 (fun r16 σ17 q18 => ?_)
  obtain ⟨rfl, q18⟩ := q18
  rw [q18]
  refine a_iload C dX12_word_27 rfl ?_
  refine a_callSl C (i_app0 hid) ms_X12_appends ml_RX12_165 rfl rfl (Nat.le_of_ble_eq_true rfl) (Nat.le_of_ble_eq_true rfl) (Nat.le_of_ble_eq_true rfl) dX12_word_29 (fun r19 σ20 q21 => ?_)
  obtain ⟨rfl, q21⟩ := q21
  rw [q21]
  exact a_lret Rt dX12_word_32 (⟨rfl, rfl⟩)
set_option maxHeartbeats 4000000 in
set_option maxRecDepth 100000 in
theorem i_word_8 {l : Launch} {D : va_G} {ids : List Nat} {ad : Nat → Nat} {ca : Nat → ClassId} {σ : HS} (hid : ∀ i, 236 ≤ i ∧ i < 277 → i ∈ ids) : Kl l D ids ad ca yX12_word cX12_word 7 1 22 [.int 105, .int 102, .int 0, .int 0, .int 0, .int 0, .int 0] σ (fun r σ1 => r = 249 ∧ σ1 = σ) := by
  refine Kl.of (by decide) (Nat.le_of_ble_eq_true rfl) 0 (fun Γ C Rt => ?_)
  show AW ids ad ca Γ 0 [some (.int 105), some (.int 102), some (.int 0), some (.int 0), some (.int 0), some (.int 0), some (.int 0)] [] σ
  refine a_lconst C dX12_word_0 (v := 0) rfl ?_
  refine a_iload_n C dX12_word_1 (i := 0) rfl rfl ?_
  refine a_callSl C (i_app1 hid (by decide)) ms_X12_appends ml_RX12_165 rfl rfl (Nat.le_of_ble_eq_true rfl) (Nat.le_of_ble_eq_true rfl) (Nat.le_of_ble_eq_true rfl) dX12_word_2 (fun r1 σ2 q3 => ?_)
  obtain ⟨rfl, q3⟩ := q3
  rw [q3]
  refine a_iload_n C dX12_word_5 (i := 1) rfl rfl ?_
  refine a_callSl C (i_app1 hid (by decide)) ms_X12_appends ml_RX12_165 rfl rfl (Nat.le_of_ble_eq_true rfl) (Nat.le_of_ble_eq_true rfl) (Nat.le_of_ble_eq_true rfl) dX12_word_6 (fun r4 σ5 q6 => ?_)
  obtain ⟨rfl, q6⟩ := q6
  rw [q6]
  refine a_iload_n C dX12_word_9 (i := 2) rfl rfl ?_
  refine a_callSl C (i_app0 hid) ms_X12_appends ml_RX12_165 rfl rfl (Nat.le_of_ble_eq_true rfl) (Nat.le_of_ble_eq_true rfl) (Nat.le_of_ble_eq_true rfl) dX12_word_10 (fun r7 σ8 q9 => ?_)
  obtain ⟨rfl, q9⟩ := q9
  rw [q9]
  refine a_iload_n C dX12_word_13 (i := 3) rfl rfl ?_
  refine a_callSl C (i_app0 hid) ms_X12_appends ml_RX12_165 rfl rfl (Nat.le_of_ble_eq_true rfl) (Nat.le_of_ble_eq_true rfl) (Nat.le_of_ble_eq_true rfl) dX12_word_14 (fun r10 σ11 q12 => ?_)
  obtain ⟨rfl, q12⟩ := q12
  rw [q12]
  refine a_iload C dX12_word_17 rfl ?_
  refine a_callSl C (i_app0 hid) ms_X12_appends ml_RX12_165 rfl rfl (Nat.le_of_ble_eq_true rfl) (Nat.le_of_ble_eq_true rfl) (Nat.le_of_ble_eq_true rfl) dX12_word_19 (fun r13 σ14 q15 => ?_)
  obtain ⟨rfl, q15⟩ := q15
  rw [q15]
  refine a_iload C dX12_word_22 rfl ?_
  refine a_callSl C (i_app0 hid) ms_X12_appends ml_RX12_165 rfl rfl (Nat.le_of_ble_eq_true rfl) (Nat.le_of_ble_eq_true rfl) (Nat.le_of_ble_eq_true rfl) dX12_word_24 (fun r16 σ17 q18 => ?_)
  obtain ⟨rfl, q18⟩ := q18
  rw [q18]
  refine a_iload C dX12_word_27 rfl ?_
  refine a_callSl C (i_app0 hid) ms_X12_appends ml_RX12_165 rfl rfl (Nat.le_of_ble_eq_true rfl) (Nat.le_of_ble_eq_true rfl) (Nat.le_of_ble_eq_true rfl) dX12_word_29 (fun r19 σ20 q21 => ?_)
  obtain ⟨rfl, q21⟩ := q21
  rw [q21]
  exact a_lret Rt dX12_word_32 (⟨rfl, rfl⟩)
set_option maxHeartbeats 4000000 in
set_option maxRecDepth 100000 in
theorem i_word_9 {l : Launch} {D : va_G} {ids : List Nat} {ad : Nat → Nat} {ca : Nat → ClassId} {σ : HS} (hid : ∀ i, 236 ≤ i ∧ i < 277 → i ∈ ids) : Kl l D ids ad ca yX12_word cX12_word 7 1 22 [.int 116, .int 104, .int 101, .int 110, .int 0, .int 0, .int 0] σ (fun r σ1 => r = 399641 ∧ σ1 = σ) := by
  refine Kl.of (by decide) (Nat.le_of_ble_eq_true rfl) 0 (fun Γ C Rt => ?_)
  show AW ids ad ca Γ 0 [some (.int 116), some (.int 104), some (.int 101), some (.int 110), some (.int 0), some (.int 0), some (.int 0)] [] σ
  refine a_lconst C dX12_word_0 (v := 0) rfl ?_
  refine a_iload_n C dX12_word_1 (i := 0) rfl rfl ?_
  refine a_callSl C (i_app1 hid (by decide)) ms_X12_appends ml_RX12_165 rfl rfl (Nat.le_of_ble_eq_true rfl) (Nat.le_of_ble_eq_true rfl) (Nat.le_of_ble_eq_true rfl) dX12_word_2 (fun r1 σ2 q3 => ?_)
  obtain ⟨rfl, q3⟩ := q3
  rw [q3]
  refine a_iload_n C dX12_word_5 (i := 1) rfl rfl ?_
  refine a_callSl C (i_app1 hid (by decide)) ms_X12_appends ml_RX12_165 rfl rfl (Nat.le_of_ble_eq_true rfl) (Nat.le_of_ble_eq_true rfl) (Nat.le_of_ble_eq_true rfl) dX12_word_6 (fun r4 σ5 q6 => ?_)
  obtain ⟨rfl, q6⟩ := q6
  rw [q6]
  refine a_iload_n C dX12_word_9 (i := 2) rfl rfl ?_
  refine a_callSl C (i_app1 hid (by decide)) ms_X12_appends ml_RX12_165 rfl rfl (Nat.le_of_ble_eq_true rfl) (Nat.le_of_ble_eq_true rfl) (Nat.le_of_ble_eq_true rfl) dX12_word_10 (fun r7 σ8 q9 => ?_)
  obtain ⟨rfl, q9⟩ := q9
  rw [q9]
  refine a_iload_n C dX12_word_13 (i := 3) rfl rfl ?_
  refine a_callSl C (i_app1 hid (by decide)) ms_X12_appends ml_RX12_165 rfl rfl (Nat.le_of_ble_eq_true rfl) (Nat.le_of_ble_eq_true rfl) (Nat.le_of_ble_eq_true rfl) dX12_word_14 (fun r10 σ11 q12 => ?_)
  obtain ⟨rfl, q12⟩ := q12
  rw [q12]
  refine a_iload C dX12_word_17 rfl ?_
  refine a_callSl C (i_app0 hid) ms_X12_appends ml_RX12_165 rfl rfl (Nat.le_of_ble_eq_true rfl) (Nat.le_of_ble_eq_true rfl) (Nat.le_of_ble_eq_true rfl) dX12_word_19 (fun r13 σ14 q15 => ?_)
  obtain ⟨rfl, q15⟩ := q15
  rw [q15]
  refine a_iload C dX12_word_22 rfl ?_
  refine a_callSl C (i_app0 hid) ms_X12_appends ml_RX12_165 rfl rfl (Nat.le_of_ble_eq_true rfl) (Nat.le_of_ble_eq_true rfl) (Nat.le_of_ble_eq_true rfl) dX12_word_24 (fun r16 σ17 q18 => ?_)
  obtain ⟨rfl, q18⟩ := q18
  rw [q18]
  refine a_iload C dX12_word_27 rfl ?_
  refine a_callSl C (i_app0 hid) ms_X12_appends ml_RX12_165 rfl rfl (Nat.le_of_ble_eq_true rfl) (Nat.le_of_ble_eq_true rfl) (Nat.le_of_ble_eq_true rfl) dX12_word_29 (fun r19 σ20 q21 => ?_)
  obtain ⟨rfl, q21⟩ := q21
  rw [q21]
  exact a_lret Rt dX12_word_32 (⟨rfl, rfl⟩)
set_option maxHeartbeats 4000000 in
set_option maxRecDepth 100000 in
theorem i_word_10 {l : Launch} {D : va_G} {ids : List Nat} {ad : Nat → Nat} {ca : Nat → ClassId} {σ : HS} (hid : ∀ i, 236 ≤ i ∧ i < 277 → i ∈ ids) : Kl l D ids ad ca yX12_word cX12_word 7 1 22 [.int 101, .int 108, .int 115, .int 101, .int 0, .int 0, .int 0] σ (fun r σ1 => r = 107681 ∧ σ1 = σ) := by
  refine Kl.of (by decide) (Nat.le_of_ble_eq_true rfl) 0 (fun Γ C Rt => ?_)
  show AW ids ad ca Γ 0 [some (.int 101), some (.int 108), some (.int 115), some (.int 101), some (.int 0), some (.int 0), some (.int 0)] [] σ
  refine a_lconst C dX12_word_0 (v := 0) rfl ?_
  refine a_iload_n C dX12_word_1 (i := 0) rfl rfl ?_
  refine a_callSl C (i_app1 hid (by decide)) ms_X12_appends ml_RX12_165 rfl rfl (Nat.le_of_ble_eq_true rfl) (Nat.le_of_ble_eq_true rfl) (Nat.le_of_ble_eq_true rfl) dX12_word_2 (fun r1 σ2 q3 => ?_)
  obtain ⟨rfl, q3⟩ := q3
  rw [q3]
  refine a_iload_n C dX12_word_5 (i := 1) rfl rfl ?_
  refine a_callSl C (i_app1 hid (by decide)) ms_X12_appends ml_RX12_165 rfl rfl (Nat.le_of_ble_eq_true rfl) (Nat.le_of_ble_eq_true rfl) (Nat.le_of_ble_eq_true rfl) dX12_word_6 (fun r4 σ5 q6 => ?_)
  obtain ⟨rfl, q6⟩ := q6
  rw [q6]
  refine a_iload_n C dX12_word_9 (i := 2) rfl rfl ?_
  refine a_callSl C (i_app1 hid (by decide)) ms_X12_appends ml_RX12_165 rfl rfl (Nat.le_of_ble_eq_true rfl) (Nat.le_of_ble_eq_true rfl) (Nat.le_of_ble_eq_true rfl) dX12_word_10 (fun r7 σ8 q9 => ?_)
  obtain ⟨rfl, q9⟩ := q9
  rw [q9]
  refine a_iload_n C dX12_word_13 (i := 3) rfl rfl ?_
  refine a_callSl C (i_app1 hid (by decide)) ms_X12_appends ml_RX12_165 rfl rfl (Nat.le_of_ble_eq_true rfl) (Nat.le_of_ble_eq_true rfl) (Nat.le_of_ble_eq_true rfl) dX12_word_14 (fun r10 σ11 q12 => ?_)
  obtain ⟨rfl, q12⟩ := q12
  rw [q12]
  refine a_iload C dX12_word_17 rfl ?_
  refine a_callSl C (i_app0 hid) ms_X12_appends ml_RX12_165 rfl rfl (Nat.le_of_ble_eq_true rfl) (Nat.le_of_ble_eq_true rfl) (Nat.le_of_ble_eq_true rfl) dX12_word_19 (fun r13 σ14 q15 => ?_)
  obtain ⟨rfl, q15⟩ := q15
  rw [q15]
  refine a_iload C dX12_word_22 rfl ?_
  refine a_callSl C (i_app0 hid) ms_X12_appends ml_RX12_165 rfl rfl (Nat.le_of_ble_eq_true rfl) (Nat.le_of_ble_eq_true rfl) (Nat.le_of_ble_eq_true rfl) dX12_word_24 (fun r16 σ17 q18 => ?_)
  obtain ⟨rfl, q18⟩ := q18
  rw [q18]
  refine a_iload C dX12_word_27 rfl ?_
  refine a_callSl C (i_app0 hid) ms_X12_appends ml_RX12_165 rfl rfl (Nat.le_of_ble_eq_true rfl) (Nat.le_of_ble_eq_true rfl) (Nat.le_of_ble_eq_true rfl) dX12_word_29 (fun r19 σ20 q21 => ?_)
  obtain ⟨rfl, q21⟩ := q21
  rw [q21]
  exact a_lret Rt dX12_word_32 (⟨rfl, rfl⟩)
set_option maxHeartbeats 4000000 in
set_option maxRecDepth 100000 in
theorem i_word_11 {l : Launch} {D : va_G} {ids : List Nat} {ad : Nat → Nat} {ca : Nat → ClassId} {σ : HS} (hid : ∀ i, 236 ≤ i ∧ i < 277 → i ∈ ids) : Kl l D ids ad ca yX12_word cX12_word 7 1 22 [.int 119, .int 101, .int 105, .int 103, .int 104, .int 116, .int 0] σ (fun r σ1 => r = 332864552 ∧ σ1 = σ) := by
  refine Kl.of (by decide) (Nat.le_of_ble_eq_true rfl) 0 (fun Γ C Rt => ?_)
  show AW ids ad ca Γ 0 [some (.int 119), some (.int 101), some (.int 105), some (.int 103), some (.int 104), some (.int 116), some (.int 0)] [] σ
  refine a_lconst C dX12_word_0 (v := 0) rfl ?_
  refine a_iload_n C dX12_word_1 (i := 0) rfl rfl ?_
  refine a_callSl C (i_app1 hid (by decide)) ms_X12_appends ml_RX12_165 rfl rfl (Nat.le_of_ble_eq_true rfl) (Nat.le_of_ble_eq_true rfl) (Nat.le_of_ble_eq_true rfl) dX12_word_2 (fun r1 σ2 q3 => ?_)
  obtain ⟨rfl, q3⟩ := q3
  rw [q3]
  refine a_iload_n C dX12_word_5 (i := 1) rfl rfl ?_
  refine a_callSl C (i_app1 hid (by decide)) ms_X12_appends ml_RX12_165 rfl rfl (Nat.le_of_ble_eq_true rfl) (Nat.le_of_ble_eq_true rfl) (Nat.le_of_ble_eq_true rfl) dX12_word_6 (fun r4 σ5 q6 => ?_)
  obtain ⟨rfl, q6⟩ := q6
  rw [q6]
  refine a_iload_n C dX12_word_9 (i := 2) rfl rfl ?_
  refine a_callSl C (i_app1 hid (by decide)) ms_X12_appends ml_RX12_165 rfl rfl (Nat.le_of_ble_eq_true rfl) (Nat.le_of_ble_eq_true rfl) (Nat.le_of_ble_eq_true rfl) dX12_word_10 (fun r7 σ8 q9 => ?_)
  obtain ⟨rfl, q9⟩ := q9
  rw [q9]
  refine a_iload_n C dX12_word_13 (i := 3) rfl rfl ?_
  refine a_callSl C (i_app1 hid (by decide)) ms_X12_appends ml_RX12_165 rfl rfl (Nat.le_of_ble_eq_true rfl) (Nat.le_of_ble_eq_true rfl) (Nat.le_of_ble_eq_true rfl) dX12_word_14 (fun r10 σ11 q12 => ?_)
  obtain ⟨rfl, q12⟩ := q12
  rw [q12]
  refine a_iload C dX12_word_17 rfl ?_
  refine a_callSl C (i_app1 hid (by decide)) ms_X12_appends ml_RX12_165 rfl rfl (Nat.le_of_ble_eq_true rfl) (Nat.le_of_ble_eq_true rfl) (Nat.le_of_ble_eq_true rfl) dX12_word_19 (fun r13 σ14 q15 => ?_)
  obtain ⟨rfl, q15⟩ := q15
  rw [q15]
  refine a_iload C dX12_word_22 rfl ?_
  refine a_callSl C (i_app1 hid (by decide)) ms_X12_appends ml_RX12_165 rfl rfl (Nat.le_of_ble_eq_true rfl) (Nat.le_of_ble_eq_true rfl) (Nat.le_of_ble_eq_true rfl) dX12_word_24 (fun r16 σ17 q18 => ?_)
  obtain ⟨rfl, q18⟩ := q18
  rw [q18]
  refine a_iload C dX12_word_27 rfl ?_
  refine a_callSl C (i_app0 hid) ms_X12_appends ml_RX12_165 rfl rfl (Nat.le_of_ble_eq_true rfl) (Nat.le_of_ble_eq_true rfl) (Nat.le_of_ble_eq_true rfl) dX12_word_29 (fun r19 σ20 q21 => ?_)
  obtain ⟨rfl, q21⟩ := q21
  rw [q21]
  exact a_lret Rt dX12_word_32 (⟨rfl, rfl⟩)
set_option maxHeartbeats 4000000 in
set_option maxRecDepth 100000 in
theorem i_word_12 {l : Launch} {D : va_G} {ids : List Nat} {ad : Nat → Nat} {ca : Nat → ClassId} {σ : HS} (hid : ∀ i, 236 ≤ i ∧ i < 277 → i ∈ ids) : Kl l D ids ad ca yX12_word cX12_word 7 1 22 [.int 101, .int 100, .int 103, .int 101, .int 0, .int 0, .int 0] σ (fun r σ1 => r = 101525 ∧ σ1 = σ) := by
  refine Kl.of (by decide) (Nat.le_of_ble_eq_true rfl) 0 (fun Γ C Rt => ?_)
  show AW ids ad ca Γ 0 [some (.int 101), some (.int 100), some (.int 103), some (.int 101), some (.int 0), some (.int 0), some (.int 0)] [] σ
  refine a_lconst C dX12_word_0 (v := 0) rfl ?_
  refine a_iload_n C dX12_word_1 (i := 0) rfl rfl ?_
  refine a_callSl C (i_app1 hid (by decide)) ms_X12_appends ml_RX12_165 rfl rfl (Nat.le_of_ble_eq_true rfl) (Nat.le_of_ble_eq_true rfl) (Nat.le_of_ble_eq_true rfl) dX12_word_2 (fun r1 σ2 q3 => ?_)
  obtain ⟨rfl, q3⟩ := q3
  rw [q3]
  refine a_iload_n C dX12_word_5 (i := 1) rfl rfl ?_
  refine a_callSl C (i_app1 hid (by decide)) ms_X12_appends ml_RX12_165 rfl rfl (Nat.le_of_ble_eq_true rfl) (Nat.le_of_ble_eq_true rfl) (Nat.le_of_ble_eq_true rfl) dX12_word_6 (fun r4 σ5 q6 => ?_)
  obtain ⟨rfl, q6⟩ := q6
  rw [q6]
  refine a_iload_n C dX12_word_9 (i := 2) rfl rfl ?_
  refine a_callSl C (i_app1 hid (by decide)) ms_X12_appends ml_RX12_165 rfl rfl (Nat.le_of_ble_eq_true rfl) (Nat.le_of_ble_eq_true rfl) (Nat.le_of_ble_eq_true rfl) dX12_word_10 (fun r7 σ8 q9 => ?_)
  obtain ⟨rfl, q9⟩ := q9
  rw [q9]
  refine a_iload_n C dX12_word_13 (i := 3) rfl rfl ?_
  refine a_callSl C (i_app1 hid (by decide)) ms_X12_appends ml_RX12_165 rfl rfl (Nat.le_of_ble_eq_true rfl) (Nat.le_of_ble_eq_true rfl) (Nat.le_of_ble_eq_true rfl) dX12_word_14 (fun r10 σ11 q12 => ?_)
  obtain ⟨rfl, q12⟩ := q12
  rw [q12]
  refine a_iload C dX12_word_17 rfl ?_
  refine a_callSl C (i_app0 hid) ms_X12_appends ml_RX12_165 rfl rfl (Nat.le_of_ble_eq_true rfl) (Nat.le_of_ble_eq_true rfl) (Nat.le_of_ble_eq_true rfl) dX12_word_19 (fun r13 σ14 q15 => ?_)
  obtain ⟨rfl, q15⟩ := q15
  rw [q15]
  refine a_iload C dX12_word_22 rfl ?_
  refine a_callSl C (i_app0 hid) ms_X12_appends ml_RX12_165 rfl rfl (Nat.le_of_ble_eq_true rfl) (Nat.le_of_ble_eq_true rfl) (Nat.le_of_ble_eq_true rfl) dX12_word_24 (fun r16 σ17 q18 => ?_)
  obtain ⟨rfl, q18⟩ := q18
  rw [q18]
  refine a_iload C dX12_word_27 rfl ?_
  refine a_callSl C (i_app0 hid) ms_X12_appends ml_RX12_165 rfl rfl (Nat.le_of_ble_eq_true rfl) (Nat.le_of_ble_eq_true rfl) (Nat.le_of_ble_eq_true rfl) dX12_word_29 (fun r19 σ20 q21 => ?_)
  obtain ⟨rfl, q21⟩ := q21
  rw [q21]
  exact a_lret Rt dX12_word_32 (⟨rfl, rfl⟩)
set_option maxHeartbeats 4000000 in
set_option maxRecDepth 100000 in
theorem i_word_13 {l : Launch} {D : va_G} {ids : List Nat} {ad : Nat → Nat} {ca : Nat → ClassId} {σ : HS} (hid : ∀ i, 236 ≤ i ∧ i < 277 → i ∈ ids) : Kl l D ids ad ca yX12_word cX12_word 7 1 22 [.int 104, .int 101, .int 105, .int 103, .int 104, .int 116, .int 0] σ (fun r σ1 => r = 117630947 ∧ σ1 = σ) := by
  refine Kl.of (by decide) (Nat.le_of_ble_eq_true rfl) 0 (fun Γ C Rt => ?_)
  show AW ids ad ca Γ 0 [some (.int 104), some (.int 101), some (.int 105), some (.int 103), some (.int 104), some (.int 116), some (.int 0)] [] σ
  refine a_lconst C dX12_word_0 (v := 0) rfl ?_
  refine a_iload_n C dX12_word_1 (i := 0) rfl rfl ?_
  refine a_callSl C (i_app1 hid (by decide)) ms_X12_appends ml_RX12_165 rfl rfl (Nat.le_of_ble_eq_true rfl) (Nat.le_of_ble_eq_true rfl) (Nat.le_of_ble_eq_true rfl) dX12_word_2 (fun r1 σ2 q3 => ?_)
  obtain ⟨rfl, q3⟩ := q3
  rw [q3]
  refine a_iload_n C dX12_word_5 (i := 1) rfl rfl ?_
  refine a_callSl C (i_app1 hid (by decide)) ms_X12_appends ml_RX12_165 rfl rfl (Nat.le_of_ble_eq_true rfl) (Nat.le_of_ble_eq_true rfl) (Nat.le_of_ble_eq_true rfl) dX12_word_6 (fun r4 σ5 q6 => ?_)
  obtain ⟨rfl, q6⟩ := q6
  rw [q6]
  refine a_iload_n C dX12_word_9 (i := 2) rfl rfl ?_
  refine a_callSl C (i_app1 hid (by decide)) ms_X12_appends ml_RX12_165 rfl rfl (Nat.le_of_ble_eq_true rfl) (Nat.le_of_ble_eq_true rfl) (Nat.le_of_ble_eq_true rfl) dX12_word_10 (fun r7 σ8 q9 => ?_)
  obtain ⟨rfl, q9⟩ := q9
  rw [q9]
  refine a_iload_n C dX12_word_13 (i := 3) rfl rfl ?_
  refine a_callSl C (i_app1 hid (by decide)) ms_X12_appends ml_RX12_165 rfl rfl (Nat.le_of_ble_eq_true rfl) (Nat.le_of_ble_eq_true rfl) (Nat.le_of_ble_eq_true rfl) dX12_word_14 (fun r10 σ11 q12 => ?_)
  obtain ⟨rfl, q12⟩ := q12
  rw [q12]
  refine a_iload C dX12_word_17 rfl ?_
  refine a_callSl C (i_app1 hid (by decide)) ms_X12_appends ml_RX12_165 rfl rfl (Nat.le_of_ble_eq_true rfl) (Nat.le_of_ble_eq_true rfl) (Nat.le_of_ble_eq_true rfl) dX12_word_19 (fun r13 σ14 q15 => ?_)
  obtain ⟨rfl, q15⟩ := q15
  rw [q15]
  refine a_iload C dX12_word_22 rfl ?_
  refine a_callSl C (i_app1 hid (by decide)) ms_X12_appends ml_RX12_165 rfl rfl (Nat.le_of_ble_eq_true rfl) (Nat.le_of_ble_eq_true rfl) (Nat.le_of_ble_eq_true rfl) dX12_word_24 (fun r16 σ17 q18 => ?_)
  obtain ⟨rfl, q18⟩ := q18
  rw [q18]
  refine a_iload C dX12_word_27 rfl ?_
  refine a_callSl C (i_app0 hid) ms_X12_appends ml_RX12_165 rfl rfl (Nat.le_of_ble_eq_true rfl) (Nat.le_of_ble_eq_true rfl) (Nat.le_of_ble_eq_true rfl) dX12_word_29 (fun r19 σ20 q21 => ?_)
  obtain ⟨rfl, q21⟩ := q21
  rw [q21]
  exact a_lret Rt dX12_word_32 (⟨rfl, rfl⟩)
set_option maxHeartbeats 4000000 in
set_option maxRecDepth 100000 in
theorem i_word_14 {l : Launch} {D : va_G} {ids : List Nat} {ad : Nat → Nat} {ca : Nat → ClassId} {σ : HS} (hid : ∀ i, 236 ≤ i ∧ i < 277 → i ∈ ids) : Kl l D ids ad ca yX12_word cX12_word 7 1 22 [.int 98, .int 101, .int 97, .int 116, .int 0, .int 0, .int 0] σ (fun r σ1 => r = 43058 ∧ σ1 = σ) := by
  refine Kl.of (by decide) (Nat.le_of_ble_eq_true rfl) 0 (fun Γ C Rt => ?_)
  show AW ids ad ca Γ 0 [some (.int 98), some (.int 101), some (.int 97), some (.int 116), some (.int 0), some (.int 0), some (.int 0)] [] σ
  refine a_lconst C dX12_word_0 (v := 0) rfl ?_
  refine a_iload_n C dX12_word_1 (i := 0) rfl rfl ?_
  refine a_callSl C (i_app1 hid (by decide)) ms_X12_appends ml_RX12_165 rfl rfl (Nat.le_of_ble_eq_true rfl) (Nat.le_of_ble_eq_true rfl) (Nat.le_of_ble_eq_true rfl) dX12_word_2 (fun r1 σ2 q3 => ?_)
  obtain ⟨rfl, q3⟩ := q3
  rw [q3]
  refine a_iload_n C dX12_word_5 (i := 1) rfl rfl ?_
  refine a_callSl C (i_app1 hid (by decide)) ms_X12_appends ml_RX12_165 rfl rfl (Nat.le_of_ble_eq_true rfl) (Nat.le_of_ble_eq_true rfl) (Nat.le_of_ble_eq_true rfl) dX12_word_6 (fun r4 σ5 q6 => ?_)
  obtain ⟨rfl, q6⟩ := q6
  rw [q6]
  refine a_iload_n C dX12_word_9 (i := 2) rfl rfl ?_
  refine a_callSl C (i_app1 hid (by decide)) ms_X12_appends ml_RX12_165 rfl rfl (Nat.le_of_ble_eq_true rfl) (Nat.le_of_ble_eq_true rfl) (Nat.le_of_ble_eq_true rfl) dX12_word_10 (fun r7 σ8 q9 => ?_)
  obtain ⟨rfl, q9⟩ := q9
  rw [q9]
  refine a_iload_n C dX12_word_13 (i := 3) rfl rfl ?_
  refine a_callSl C (i_app1 hid (by decide)) ms_X12_appends ml_RX12_165 rfl rfl (Nat.le_of_ble_eq_true rfl) (Nat.le_of_ble_eq_true rfl) (Nat.le_of_ble_eq_true rfl) dX12_word_14 (fun r10 σ11 q12 => ?_)
  obtain ⟨rfl, q12⟩ := q12
  rw [q12]
  refine a_iload C dX12_word_17 rfl ?_
  refine a_callSl C (i_app0 hid) ms_X12_appends ml_RX12_165 rfl rfl (Nat.le_of_ble_eq_true rfl) (Nat.le_of_ble_eq_true rfl) (Nat.le_of_ble_eq_true rfl) dX12_word_19 (fun r13 σ14 q15 => ?_)
  obtain ⟨rfl, q15⟩ := q15
  rw [q15]
  refine a_iload C dX12_word_22 rfl ?_
  refine a_callSl C (i_app0 hid) ms_X12_appends ml_RX12_165 rfl rfl (Nat.le_of_ble_eq_true rfl) (Nat.le_of_ble_eq_true rfl) (Nat.le_of_ble_eq_true rfl) dX12_word_24 (fun r16 σ17 q18 => ?_)
  obtain ⟨rfl, q18⟩ := q18
  rw [q18]
  refine a_iload C dX12_word_27 rfl ?_
  refine a_callSl C (i_app0 hid) ms_X12_appends ml_RX12_165 rfl rfl (Nat.le_of_ble_eq_true rfl) (Nat.le_of_ble_eq_true rfl) (Nat.le_of_ble_eq_true rfl) dX12_word_29 (fun r19 σ20 q21 => ?_)
  obtain ⟨rfl, q21⟩ := q21
  rw [q21]
  exact a_lret Rt dX12_word_32 (⟨rfl, rfl⟩)
set_option maxHeartbeats 4000000 in
set_option maxRecDepth 100000 in
theorem i_word_15 {l : Launch} {D : va_G} {ids : List Nat} {ad : Nat → Nat} {ca : Nat → ClassId} {σ : HS} (hid : ∀ i, 236 ≤ i ∧ i < 277 → i ∈ ids) : Kl l D ids ad ca yX12_word cX12_word 7 1 22 [.int 116, .int 105, .int 114, .int 101, .int 100, .int 0, .int 0] σ (fun r σ1 => r = 10819228 ∧ σ1 = σ) := by
  refine Kl.of (by decide) (Nat.le_of_ble_eq_true rfl) 0 (fun Γ C Rt => ?_)
  show AW ids ad ca Γ 0 [some (.int 116), some (.int 105), some (.int 114), some (.int 101), some (.int 100), some (.int 0), some (.int 0)] [] σ
  refine a_lconst C dX12_word_0 (v := 0) rfl ?_
  refine a_iload_n C dX12_word_1 (i := 0) rfl rfl ?_
  refine a_callSl C (i_app1 hid (by decide)) ms_X12_appends ml_RX12_165 rfl rfl (Nat.le_of_ble_eq_true rfl) (Nat.le_of_ble_eq_true rfl) (Nat.le_of_ble_eq_true rfl) dX12_word_2 (fun r1 σ2 q3 => ?_)
  obtain ⟨rfl, q3⟩ := q3
  rw [q3]
  refine a_iload_n C dX12_word_5 (i := 1) rfl rfl ?_
  refine a_callSl C (i_app1 hid (by decide)) ms_X12_appends ml_RX12_165 rfl rfl (Nat.le_of_ble_eq_true rfl) (Nat.le_of_ble_eq_true rfl) (Nat.le_of_ble_eq_true rfl) dX12_word_6 (fun r4 σ5 q6 => ?_)
  obtain ⟨rfl, q6⟩ := q6
  rw [q6]
  refine a_iload_n C dX12_word_9 (i := 2) rfl rfl ?_
  refine a_callSl C (i_app1 hid (by decide)) ms_X12_appends ml_RX12_165 rfl rfl (Nat.le_of_ble_eq_true rfl) (Nat.le_of_ble_eq_true rfl) (Nat.le_of_ble_eq_true rfl) dX12_word_10 (fun r7 σ8 q9 => ?_)
  obtain ⟨rfl, q9⟩ := q9
  rw [q9]
  refine a_iload_n C dX12_word_13 (i := 3) rfl rfl ?_
  refine a_callSl C (i_app1 hid (by decide)) ms_X12_appends ml_RX12_165 rfl rfl (Nat.le_of_ble_eq_true rfl) (Nat.le_of_ble_eq_true rfl) (Nat.le_of_ble_eq_true rfl) dX12_word_14 (fun r10 σ11 q12 => ?_)
  obtain ⟨rfl, q12⟩ := q12
  rw [q12]
  refine a_iload C dX12_word_17 rfl ?_
  refine a_callSl C (i_app1 hid (by decide)) ms_X12_appends ml_RX12_165 rfl rfl (Nat.le_of_ble_eq_true rfl) (Nat.le_of_ble_eq_true rfl) (Nat.le_of_ble_eq_true rfl) dX12_word_19 (fun r13 σ14 q15 => ?_)
  obtain ⟨rfl, q15⟩ := q15
  rw [q15]
  refine a_iload C dX12_word_22 rfl ?_
  refine a_callSl C (i_app0 hid) ms_X12_appends ml_RX12_165 rfl rfl (Nat.le_of_ble_eq_true rfl) (Nat.le_of_ble_eq_true rfl) (Nat.le_of_ble_eq_true rfl) dX12_word_24 (fun r16 σ17 q18 => ?_)
  obtain ⟨rfl, q18⟩ := q18
  rw [q18]
  refine a_iload C dX12_word_27 rfl ?_
  refine a_callSl C (i_app0 hid) ms_X12_appends ml_RX12_165 rfl rfl (Nat.le_of_ble_eq_true rfl) (Nat.le_of_ble_eq_true rfl) (Nat.le_of_ble_eq_true rfl) dX12_word_29 (fun r19 σ20 q21 => ?_)
  obtain ⟨rfl, q21⟩ := q21
  rw [q21]
  exact a_lret Rt dX12_word_32 (⟨rfl, rfl⟩)
set_option maxHeartbeats 4000000 in
set_option maxRecDepth 100000 in
theorem i_word_16 {l : Launch} {D : va_G} {ids : List Nat} {ad : Nat → Nat} {ca : Nat → ClassId} {σ : HS} (hid : ∀ i, 236 ≤ i ∧ i < 277 → i ∈ ids) : Kl l D ids ad ca yX12_word cX12_word 7 1 22 [.int 117, .int 112, .int 0, .int 0, .int 0, .int 0, .int 0] σ (fun r σ1 => r = 583 ∧ σ1 = σ) := by
  refine Kl.of (by decide) (Nat.le_of_ble_eq_true rfl) 0 (fun Γ C Rt => ?_)
  show AW ids ad ca Γ 0 [some (.int 117), some (.int 112), some (.int 0), some (.int 0), some (.int 0), some (.int 0), some (.int 0)] [] σ
  refine a_lconst C dX12_word_0 (v := 0) rfl ?_
  refine a_iload_n C dX12_word_1 (i := 0) rfl rfl ?_
  refine a_callSl C (i_app1 hid (by decide)) ms_X12_appends ml_RX12_165 rfl rfl (Nat.le_of_ble_eq_true rfl) (Nat.le_of_ble_eq_true rfl) (Nat.le_of_ble_eq_true rfl) dX12_word_2 (fun r1 σ2 q3 => ?_)
  obtain ⟨rfl, q3⟩ := q3
  rw [q3]
  refine a_iload_n C dX12_word_5 (i := 1) rfl rfl ?_
  refine a_callSl C (i_app1 hid (by decide)) ms_X12_appends ml_RX12_165 rfl rfl (Nat.le_of_ble_eq_true rfl) (Nat.le_of_ble_eq_true rfl) (Nat.le_of_ble_eq_true rfl) dX12_word_6 (fun r4 σ5 q6 => ?_)
  obtain ⟨rfl, q6⟩ := q6
  rw [q6]
  refine a_iload_n C dX12_word_9 (i := 2) rfl rfl ?_
  refine a_callSl C (i_app0 hid) ms_X12_appends ml_RX12_165 rfl rfl (Nat.le_of_ble_eq_true rfl) (Nat.le_of_ble_eq_true rfl) (Nat.le_of_ble_eq_true rfl) dX12_word_10 (fun r7 σ8 q9 => ?_)
  obtain ⟨rfl, q9⟩ := q9
  rw [q9]
  refine a_iload_n C dX12_word_13 (i := 3) rfl rfl ?_
  refine a_callSl C (i_app0 hid) ms_X12_appends ml_RX12_165 rfl rfl (Nat.le_of_ble_eq_true rfl) (Nat.le_of_ble_eq_true rfl) (Nat.le_of_ble_eq_true rfl) dX12_word_14 (fun r10 σ11 q12 => ?_)
  obtain ⟨rfl, q12⟩ := q12
  rw [q12]
  refine a_iload C dX12_word_17 rfl ?_
  refine a_callSl C (i_app0 hid) ms_X12_appends ml_RX12_165 rfl rfl (Nat.le_of_ble_eq_true rfl) (Nat.le_of_ble_eq_true rfl) (Nat.le_of_ble_eq_true rfl) dX12_word_19 (fun r13 σ14 q15 => ?_)
  obtain ⟨rfl, q15⟩ := q15
  rw [q15]
  refine a_iload C dX12_word_22 rfl ?_
  refine a_callSl C (i_app0 hid) ms_X12_appends ml_RX12_165 rfl rfl (Nat.le_of_ble_eq_true rfl) (Nat.le_of_ble_eq_true rfl) (Nat.le_of_ble_eq_true rfl) dX12_word_24 (fun r16 σ17 q18 => ?_)
  obtain ⟨rfl, q18⟩ := q18
  rw [q18]
  refine a_iload C dX12_word_27 rfl ?_
  refine a_callSl C (i_app0 hid) ms_X12_appends ml_RX12_165 rfl rfl (Nat.le_of_ble_eq_true rfl) (Nat.le_of_ble_eq_true rfl) (Nat.le_of_ble_eq_true rfl) dX12_word_29 (fun r19 σ20 q21 => ?_)
  obtain ⟨rfl, q21⟩ := q21
  rw [q21]
  exact a_lret Rt dX12_word_32 (⟨rfl, rfl⟩)
set_option maxHeartbeats 4000000 in
set_option maxRecDepth 100000 in
theorem i_word_17 {l : Launch} {D : va_G} {ids : List Nat} {ad : Nat → Nat} {ca : Nat → ClassId} {σ : HS} (hid : ∀ i, 236 ≤ i ∧ i < 277 → i ∈ ids) : Kl l D ids ad ca yX12_word cX12_word 7 1 22 [.int 119, .int 104, .int 105, .int 99, .int 104, .int 0, .int 0] σ (fun r σ1 => r = 12387257 ∧ σ1 = σ) := by
  refine Kl.of (by decide) (Nat.le_of_ble_eq_true rfl) 0 (fun Γ C Rt => ?_)
  show AW ids ad ca Γ 0 [some (.int 119), some (.int 104), some (.int 105), some (.int 99), some (.int 104), some (.int 0), some (.int 0)] [] σ
  refine a_lconst C dX12_word_0 (v := 0) rfl ?_
  refine a_iload_n C dX12_word_1 (i := 0) rfl rfl ?_
  refine a_callSl C (i_app1 hid (by decide)) ms_X12_appends ml_RX12_165 rfl rfl (Nat.le_of_ble_eq_true rfl) (Nat.le_of_ble_eq_true rfl) (Nat.le_of_ble_eq_true rfl) dX12_word_2 (fun r1 σ2 q3 => ?_)
  obtain ⟨rfl, q3⟩ := q3
  rw [q3]
  refine a_iload_n C dX12_word_5 (i := 1) rfl rfl ?_
  refine a_callSl C (i_app1 hid (by decide)) ms_X12_appends ml_RX12_165 rfl rfl (Nat.le_of_ble_eq_true rfl) (Nat.le_of_ble_eq_true rfl) (Nat.le_of_ble_eq_true rfl) dX12_word_6 (fun r4 σ5 q6 => ?_)
  obtain ⟨rfl, q6⟩ := q6
  rw [q6]
  refine a_iload_n C dX12_word_9 (i := 2) rfl rfl ?_
  refine a_callSl C (i_app1 hid (by decide)) ms_X12_appends ml_RX12_165 rfl rfl (Nat.le_of_ble_eq_true rfl) (Nat.le_of_ble_eq_true rfl) (Nat.le_of_ble_eq_true rfl) dX12_word_10 (fun r7 σ8 q9 => ?_)
  obtain ⟨rfl, q9⟩ := q9
  rw [q9]
  refine a_iload_n C dX12_word_13 (i := 3) rfl rfl ?_
  refine a_callSl C (i_app1 hid (by decide)) ms_X12_appends ml_RX12_165 rfl rfl (Nat.le_of_ble_eq_true rfl) (Nat.le_of_ble_eq_true rfl) (Nat.le_of_ble_eq_true rfl) dX12_word_14 (fun r10 σ11 q12 => ?_)
  obtain ⟨rfl, q12⟩ := q12
  rw [q12]
  refine a_iload C dX12_word_17 rfl ?_
  refine a_callSl C (i_app1 hid (by decide)) ms_X12_appends ml_RX12_165 rfl rfl (Nat.le_of_ble_eq_true rfl) (Nat.le_of_ble_eq_true rfl) (Nat.le_of_ble_eq_true rfl) dX12_word_19 (fun r13 σ14 q15 => ?_)
  obtain ⟨rfl, q15⟩ := q15
  rw [q15]
  refine a_iload C dX12_word_22 rfl ?_
  refine a_callSl C (i_app0 hid) ms_X12_appends ml_RX12_165 rfl rfl (Nat.le_of_ble_eq_true rfl) (Nat.le_of_ble_eq_true rfl) (Nat.le_of_ble_eq_true rfl) dX12_word_24 (fun r16 σ17 q18 => ?_)
  obtain ⟨rfl, q18⟩ := q18
  rw [q18]
  refine a_iload C dX12_word_27 rfl ?_
  refine a_callSl C (i_app0 hid) ms_X12_appends ml_RX12_165 rfl rfl (Nat.le_of_ble_eq_true rfl) (Nat.le_of_ble_eq_true rfl) (Nat.le_of_ble_eq_true rfl) dX12_word_29 (fun r19 σ20 q21 => ?_)
  obtain ⟨rfl, q21⟩ := q21
  rw [q21]
  exact a_lret Rt dX12_word_32 (⟨rfl, rfl⟩)
set_option maxHeartbeats 4000000 in
set_option maxRecDepth 100000 in
theorem i_word_18 {l : Launch} {D : va_G} {ids : List Nat} {ad : Nat → Nat} {ca : Nat → ClassId} {σ : HS} (hid : ∀ i, 236 ≤ i ∧ i < 277 → i ∈ ids) : Kl l D ids ad ca yX12_word cX12_word 7 1 22 [.int 99, .int 97, .int 117, .int 103, .int 104, .int 116, .int 0] σ (fun r σ1 => r = 43996844 ∧ σ1 = σ) := by
  refine Kl.of (by decide) (Nat.le_of_ble_eq_true rfl) 0 (fun Γ C Rt => ?_)
  show AW ids ad ca Γ 0 [some (.int 99), some (.int 97), some (.int 117), some (.int 103), some (.int 104), some (.int 116), some (.int 0)] [] σ
  refine a_lconst C dX12_word_0 (v := 0) rfl ?_
  refine a_iload_n C dX12_word_1 (i := 0) rfl rfl ?_
  refine a_callSl C (i_app1 hid (by decide)) ms_X12_appends ml_RX12_165 rfl rfl (Nat.le_of_ble_eq_true rfl) (Nat.le_of_ble_eq_true rfl) (Nat.le_of_ble_eq_true rfl) dX12_word_2 (fun r1 σ2 q3 => ?_)
  obtain ⟨rfl, q3⟩ := q3
  rw [q3]
  refine a_iload_n C dX12_word_5 (i := 1) rfl rfl ?_
  refine a_callSl C (i_app1 hid (by decide)) ms_X12_appends ml_RX12_165 rfl rfl (Nat.le_of_ble_eq_true rfl) (Nat.le_of_ble_eq_true rfl) (Nat.le_of_ble_eq_true rfl) dX12_word_6 (fun r4 σ5 q6 => ?_)
  obtain ⟨rfl, q6⟩ := q6
  rw [q6]
  refine a_iload_n C dX12_word_9 (i := 2) rfl rfl ?_
  refine a_callSl C (i_app1 hid (by decide)) ms_X12_appends ml_RX12_165 rfl rfl (Nat.le_of_ble_eq_true rfl) (Nat.le_of_ble_eq_true rfl) (Nat.le_of_ble_eq_true rfl) dX12_word_10 (fun r7 σ8 q9 => ?_)
  obtain ⟨rfl, q9⟩ := q9
  rw [q9]
  refine a_iload_n C dX12_word_13 (i := 3) rfl rfl ?_
  refine a_callSl C (i_app1 hid (by decide)) ms_X12_appends ml_RX12_165 rfl rfl (Nat.le_of_ble_eq_true rfl) (Nat.le_of_ble_eq_true rfl) (Nat.le_of_ble_eq_true rfl) dX12_word_14 (fun r10 σ11 q12 => ?_)
  obtain ⟨rfl, q12⟩ := q12
  rw [q12]
  refine a_iload C dX12_word_17 rfl ?_
  refine a_callSl C (i_app1 hid (by decide)) ms_X12_appends ml_RX12_165 rfl rfl (Nat.le_of_ble_eq_true rfl) (Nat.le_of_ble_eq_true rfl) (Nat.le_of_ble_eq_true rfl) dX12_word_19 (fun r13 σ14 q15 => ?_)
  obtain ⟨rfl, q15⟩ := q15
  rw [q15]
  refine a_iload C dX12_word_22 rfl ?_
  refine a_callSl C (i_app1 hid (by decide)) ms_X12_appends ml_RX12_165 rfl rfl (Nat.le_of_ble_eq_true rfl) (Nat.le_of_ble_eq_true rfl) (Nat.le_of_ble_eq_true rfl) dX12_word_24 (fun r16 σ17 q18 => ?_)
  obtain ⟨rfl, q18⟩ := q18
  rw [q18]
  refine a_iload C dX12_word_27 rfl ?_
  refine a_callSl C (i_app0 hid) ms_X12_appends ml_RX12_165 rfl rfl (Nat.le_of_ble_eq_true rfl) (Nat.le_of_ble_eq_true rfl) (Nat.le_of_ble_eq_true rfl) dX12_word_29 (fun r19 σ20 q21 => ?_)
  obtain ⟨rfl, q21⟩ := q21
  rw [q21]
  exact a_lret Rt dX12_word_32 (⟨rfl, rfl⟩)
set_option maxHeartbeats 4000000 in
set_option maxRecDepth 100000 in
theorem i_word_19 {l : Launch} {D : va_G} {ids : List Nat} {ad : Nat → Nat} {ca : Nat → ClassId} {σ : HS} (hid : ∀ i, 236 ≤ i ∧ i < 277 → i ∈ ids) : Kl l D ids ad ca yX12_word cX12_word 7 1 22 [.int 104, .int 97, .int 110, .int 100, .int 0, .int 0, .int 0] σ (fun r σ1 => r = 158575 ∧ σ1 = σ) := by
  refine Kl.of (by decide) (Nat.le_of_ble_eq_true rfl) 0 (fun Γ C Rt => ?_)
  show AW ids ad ca Γ 0 [some (.int 104), some (.int 97), some (.int 110), some (.int 100), some (.int 0), some (.int 0), some (.int 0)] [] σ
  refine a_lconst C dX12_word_0 (v := 0) rfl ?_
  refine a_iload_n C dX12_word_1 (i := 0) rfl rfl ?_
  refine a_callSl C (i_app1 hid (by decide)) ms_X12_appends ml_RX12_165 rfl rfl (Nat.le_of_ble_eq_true rfl) (Nat.le_of_ble_eq_true rfl) (Nat.le_of_ble_eq_true rfl) dX12_word_2 (fun r1 σ2 q3 => ?_)
  obtain ⟨rfl, q3⟩ := q3
  rw [q3]
  refine a_iload_n C dX12_word_5 (i := 1) rfl rfl ?_
  refine a_callSl C (i_app1 hid (by decide)) ms_X12_appends ml_RX12_165 rfl rfl (Nat.le_of_ble_eq_true rfl) (Nat.le_of_ble_eq_true rfl) (Nat.le_of_ble_eq_true rfl) dX12_word_6 (fun r4 σ5 q6 => ?_)
  obtain ⟨rfl, q6⟩ := q6
  rw [q6]
  refine a_iload_n C dX12_word_9 (i := 2) rfl rfl ?_
  refine a_callSl C (i_app1 hid (by decide)) ms_X12_appends ml_RX12_165 rfl rfl (Nat.le_of_ble_eq_true rfl) (Nat.le_of_ble_eq_true rfl) (Nat.le_of_ble_eq_true rfl) dX12_word_10 (fun r7 σ8 q9 => ?_)
  obtain ⟨rfl, q9⟩ := q9
  rw [q9]
  refine a_iload_n C dX12_word_13 (i := 3) rfl rfl ?_
  refine a_callSl C (i_app1 hid (by decide)) ms_X12_appends ml_RX12_165 rfl rfl (Nat.le_of_ble_eq_true rfl) (Nat.le_of_ble_eq_true rfl) (Nat.le_of_ble_eq_true rfl) dX12_word_14 (fun r10 σ11 q12 => ?_)
  obtain ⟨rfl, q12⟩ := q12
  rw [q12]
  refine a_iload C dX12_word_17 rfl ?_
  refine a_callSl C (i_app0 hid) ms_X12_appends ml_RX12_165 rfl rfl (Nat.le_of_ble_eq_true rfl) (Nat.le_of_ble_eq_true rfl) (Nat.le_of_ble_eq_true rfl) dX12_word_19 (fun r13 σ14 q15 => ?_)
  obtain ⟨rfl, q15⟩ := q15
  rw [q15]
  refine a_iload C dX12_word_22 rfl ?_
  refine a_callSl C (i_app0 hid) ms_X12_appends ml_RX12_165 rfl rfl (Nat.le_of_ble_eq_true rfl) (Nat.le_of_ble_eq_true rfl) (Nat.le_of_ble_eq_true rfl) dX12_word_24 (fun r16 σ17 q18 => ?_)
  obtain ⟨rfl, q18⟩ := q18
  rw [q18]
  refine a_iload C dX12_word_27 rfl ?_
  refine a_callSl C (i_app0 hid) ms_X12_appends ml_RX12_165 rfl rfl (Nat.le_of_ble_eq_true rfl) (Nat.le_of_ble_eq_true rfl) (Nat.le_of_ble_eq_true rfl) dX12_word_29 (fun r19 σ20 q21 => ?_)
  obtain ⟨rfl, q21⟩ := q21
  rw [q21]
  exact a_lret Rt dX12_word_32 (⟨rfl, rfl⟩)
set_option maxHeartbeats 4000000 in
set_option maxRecDepth 100000 in
theorem i_plain {l : Launch} {D : va_G} {ids : List Nat} {ad : Nat → Nat} {ca : Nat → ClassId} {σ : HS} (hid : ∀ i, 236 ≤ i ∧ i < 277 → i ∈ ids) : Kv l D ids ad ca yX12_plain cX12_plain 3 0 0 [.ref (ad 236), .int 0] σ (fun σ1 => σ1 = (hI (hI (hI (hI (hI (hI (hI (hI (hI (hI (hI (hI σ 245 0 0) 249 0 0) 252 0 1) 253 0 0) 254 0 0) 255 0 0) 254 1 0) 255 1 0) 254 2 0) 255 2 0) 254 3 0) 255 3 0)) := by
  refine Kv.of (by decide) (Nat.le_of_ble_eq_true rfl) 1 (fun Γ C Rt => ?_)
  show AW ids ad ca Γ 0 [some (.ref (ad 236)), some (.int 0), none] [] σ
  refine a_aload_n C dX12_plain_0 (i := 0) rfl rfl ?_
  refine a_get C fl_RX12_43 (i := 236) kd_236 (hid 236 (by decide)) (v := .ref (ad 245)) rfl dX12_plain_1 ?_
  refine a_iload_n C dX12_plain_4 (i := 1) rfl rfl ?_
  refine a_iconst C dX12_plain_5 (v := 0) rfl ?_
  refine a_iast C (i := 245) 0 kd_245 (hid 245 (by decide)) (by decide) rfl (by rw [al_245]; decide) dX12_plain_6 ?_
  refine a_aload_n C dX12_plain_7 (i := 0) rfl rfl ?_
  refine a_get C fl_RX12_55 (i := 236) kd_236 (hid 236 (by decide)) (v := .ref (ad 249)) rfl dX12_plain_8 ?_
  refine a_iload_n C dX12_plain_11 (i := 1) rfl rfl ?_
  refine a_iconst C dX12_plain_12 (v := 0) rfl ?_
  refine a_iast C (i := 249) 0 kd_249 (hid 249 (by decide)) (by decide) rfl (by rw [al_249]; decide) dX12_plain_13 ?_
  refine a_aload_n C dX12_plain_14 (i := 0) rfl rfl ?_
  refine a_get C fl_RX12_64 (i := 236) kd_236 (hid 236 (by decide)) (v := .ref (ad 252)) rfl dX12_plain_15 ?_
  refine a_iload_n C dX12_plain_18 (i := 1) rfl rfl ?_
  refine a_iconst C dX12_plain_19 (v := 1) rfl ?_
  refine a_iast C (i := 252) 0 kd_252 (hid 252 (by decide)) (by decide) rfl (by rw [al_252]; decide) dX12_plain_20 ?_
  refine a_aload_n C dX12_plain_21 (i := 0) rfl rfl ?_
  refine a_get C fl_RX12_67 (i := 236) kd_236 (hid 236 (by decide)) (v := .ref (ad 253)) rfl dX12_plain_22 ?_
  refine a_iload_n C dX12_plain_25 (i := 1) rfl rfl ?_
  refine a_iconst C dX12_plain_26 (v := 0) rfl ?_
  refine a_iast C (i := 253) 0 kd_253 (hid 253 (by decide)) (by decide) rfl (by rw [al_253]; decide) dX12_plain_27 ?_
  refine a_iconst C dX12_plain_28 (v := 0) rfl ?_
  refine a_istore_n C dX12_plain_29 (i := 2) rfl (by decide) rfl (vs1 := [some (.ref (ad 236)), some (.int 0), some (.int 0)]) rfl ?_
  refine a_iload_n C dX12_plain_30 (i := 2) rfl rfl ?_
  refine a_iconst C dX12_plain_31 (v := 4) rfl ?_
  refine a_ic_ge C dX12_plain_32 (tgt := 63) rfl (fun h => absurd h (by decide)) (fun _ => ?_)
  refine a_aload_n C dX12_plain_35 (i := 0) rfl rfl ?_
  refine a_get C fl_RX12_70 (i := 236) kd_236 (hid 236 (by decide)) (v := .ref (ad 254)) rfl dX12_plain_36 ?_
  refine a_iconst C dX12_plain_39 (v := 4) rfl ?_
  refine a_iload_n C dX12_plain_40 (i := 1) rfl rfl ?_
  refine a_imul C dX12_plain_41 ?_
  refine a_iload_n C dX12_plain_42 (i := 2) rfl rfl ?_
  refine a_iadd C dX12_plain_43 ?_
  refine a_iconst C dX12_plain_44 (v := 0) rfl ?_
  refine a_iast C (i := 254) 0 kd_254 (hid 254 (by decide)) (by decide) rfl (by rw [al_254]; decide) dX12_plain_45 ?_
  refine a_aload_n C dX12_plain_46 (i := 0) rfl rfl ?_
  refine a_get C fl_RX12_73 (i := 236) kd_236 (hid 236 (by decide)) (v := .ref (ad 255)) rfl dX12_plain_47 ?_
  refine a_iconst C dX12_plain_50 (v := 4) rfl ?_
  refine a_iload_n C dX12_plain_51 (i := 1) rfl rfl ?_
  refine a_imul C dX12_plain_52 ?_
  refine a_iload_n C dX12_plain_53 (i := 2) rfl rfl ?_
  refine a_iadd C dX12_plain_54 ?_
  refine a_iconst C dX12_plain_55 (v := 0) rfl ?_
  refine a_iast C (i := 255) 0 kd_255 (hid 255 (by decide)) (by decide) rfl (by rw [al_255]; decide) dX12_plain_56 ?_
  refine a_iinc C dX12_plain_57 rfl (v := 1) rfl (by decide) rfl (vs1 := [some (.ref (ad 236)), some (.int 0), some (.int 1)]) rfl ?_
  refine a_goto C dX12_plain_60 (tgt := 30) rfl ?_
  refine a_iload_n C dX12_plain_30 (i := 2) rfl rfl ?_
  refine a_iconst C dX12_plain_31 (v := 4) rfl ?_
  refine a_ic_ge C dX12_plain_32 (tgt := 63) rfl (fun h => absurd h (by decide)) (fun _ => ?_)
  refine a_aload_n C dX12_plain_35 (i := 0) rfl rfl ?_
  refine a_get C fl_RX12_70 (i := 236) kd_236 (hid 236 (by decide)) (v := .ref (ad 254)) rfl dX12_plain_36 ?_
  refine a_iconst C dX12_plain_39 (v := 4) rfl ?_
  refine a_iload_n C dX12_plain_40 (i := 1) rfl rfl ?_
  refine a_imul C dX12_plain_41 ?_
  refine a_iload_n C dX12_plain_42 (i := 2) rfl rfl ?_
  refine a_iadd C dX12_plain_43 ?_
  refine a_iconst C dX12_plain_44 (v := 0) rfl ?_
  refine a_iast C (i := 254) 1 kd_254 (hid 254 (by decide)) (by decide) rfl (by rw [al_254]; decide) dX12_plain_45 ?_
  refine a_aload_n C dX12_plain_46 (i := 0) rfl rfl ?_
  refine a_get C fl_RX12_73 (i := 236) kd_236 (hid 236 (by decide)) (v := .ref (ad 255)) rfl dX12_plain_47 ?_
  refine a_iconst C dX12_plain_50 (v := 4) rfl ?_
  refine a_iload_n C dX12_plain_51 (i := 1) rfl rfl ?_
  refine a_imul C dX12_plain_52 ?_
  refine a_iload_n C dX12_plain_53 (i := 2) rfl rfl ?_
  refine a_iadd C dX12_plain_54 ?_
  refine a_iconst C dX12_plain_55 (v := 0) rfl ?_
  refine a_iast C (i := 255) 1 kd_255 (hid 255 (by decide)) (by decide) rfl (by rw [al_255]; decide) dX12_plain_56 ?_
  refine a_iinc C dX12_plain_57 rfl (v := 2) rfl (by decide) rfl (vs1 := [some (.ref (ad 236)), some (.int 0), some (.int 2)]) rfl ?_
  refine a_goto C dX12_plain_60 (tgt := 30) rfl ?_
  refine a_iload_n C dX12_plain_30 (i := 2) rfl rfl ?_
  refine a_iconst C dX12_plain_31 (v := 4) rfl ?_
  refine a_ic_ge C dX12_plain_32 (tgt := 63) rfl (fun h => absurd h (by decide)) (fun _ => ?_)
  refine a_aload_n C dX12_plain_35 (i := 0) rfl rfl ?_
  refine a_get C fl_RX12_70 (i := 236) kd_236 (hid 236 (by decide)) (v := .ref (ad 254)) rfl dX12_plain_36 ?_
  refine a_iconst C dX12_plain_39 (v := 4) rfl ?_
  refine a_iload_n C dX12_plain_40 (i := 1) rfl rfl ?_
  refine a_imul C dX12_plain_41 ?_
  refine a_iload_n C dX12_plain_42 (i := 2) rfl rfl ?_
  refine a_iadd C dX12_plain_43 ?_
  refine a_iconst C dX12_plain_44 (v := 0) rfl ?_
  refine a_iast C (i := 254) 2 kd_254 (hid 254 (by decide)) (by decide) rfl (by rw [al_254]; decide) dX12_plain_45 ?_
  refine a_aload_n C dX12_plain_46 (i := 0) rfl rfl ?_
  refine a_get C fl_RX12_73 (i := 236) kd_236 (hid 236 (by decide)) (v := .ref (ad 255)) rfl dX12_plain_47 ?_
  refine a_iconst C dX12_plain_50 (v := 4) rfl ?_
  refine a_iload_n C dX12_plain_51 (i := 1) rfl rfl ?_
  refine a_imul C dX12_plain_52 ?_
  refine a_iload_n C dX12_plain_53 (i := 2) rfl rfl ?_
  refine a_iadd C dX12_plain_54 ?_
  refine a_iconst C dX12_plain_55 (v := 0) rfl ?_
  refine a_iast C (i := 255) 2 kd_255 (hid 255 (by decide)) (by decide) rfl (by rw [al_255]; decide) dX12_plain_56 ?_
  refine a_iinc C dX12_plain_57 rfl (v := 3) rfl (by decide) rfl (vs1 := [some (.ref (ad 236)), some (.int 0), some (.int 3)]) rfl ?_
  refine a_goto C dX12_plain_60 (tgt := 30) rfl ?_
  refine a_iload_n C dX12_plain_30 (i := 2) rfl rfl ?_
  refine a_iconst C dX12_plain_31 (v := 4) rfl ?_
  refine a_ic_ge C dX12_plain_32 (tgt := 63) rfl (fun h => absurd h (by decide)) (fun _ => ?_)
  refine a_aload_n C dX12_plain_35 (i := 0) rfl rfl ?_
  refine a_get C fl_RX12_70 (i := 236) kd_236 (hid 236 (by decide)) (v := .ref (ad 254)) rfl dX12_plain_36 ?_
  refine a_iconst C dX12_plain_39 (v := 4) rfl ?_
  refine a_iload_n C dX12_plain_40 (i := 1) rfl rfl ?_
  refine a_imul C dX12_plain_41 ?_
  refine a_iload_n C dX12_plain_42 (i := 2) rfl rfl ?_
  refine a_iadd C dX12_plain_43 ?_
  refine a_iconst C dX12_plain_44 (v := 0) rfl ?_
  refine a_iast C (i := 254) 3 kd_254 (hid 254 (by decide)) (by decide) rfl (by rw [al_254]; decide) dX12_plain_45 ?_
  refine a_aload_n C dX12_plain_46 (i := 0) rfl rfl ?_
  refine a_get C fl_RX12_73 (i := 236) kd_236 (hid 236 (by decide)) (v := .ref (ad 255)) rfl dX12_plain_47 ?_
  refine a_iconst C dX12_plain_50 (v := 4) rfl ?_
  refine a_iload_n C dX12_plain_51 (i := 1) rfl rfl ?_
  refine a_imul C dX12_plain_52 ?_
  refine a_iload_n C dX12_plain_53 (i := 2) rfl rfl ?_
  refine a_iadd C dX12_plain_54 ?_
  refine a_iconst C dX12_plain_55 (v := 0) rfl ?_
  refine a_iast C (i := 255) 3 kd_255 (hid 255 (by decide)) (by decide) rfl (by rw [al_255]; decide) dX12_plain_56 ?_
  refine a_iinc C dX12_plain_57 rfl (v := 4) rfl (by decide) rfl (vs1 := [some (.ref (ad 236)), some (.int 0), some (.int 4)]) rfl ?_
  refine a_goto C dX12_plain_60 (tgt := 30) rfl ?_
  refine a_iload_n C dX12_plain_30 (i := 2) rfl rfl ?_
  refine a_iconst C dX12_plain_31 (v := 4) rfl ?_
  refine a_ic_ge C dX12_plain_32 (tgt := 63) rfl (fun _ => ?_) (fun h => absurd h (by decide))
  exact a_vret Rt dX12_plain_63 (rfl)
set_option maxHeartbeats 4000000 in
set_option maxRecDepth 100000 in
theorem i_begins {l : Launch} {D : va_G} {ids : List Nat} {ad : Nat → Nat} {ca : Nat → ClassId} {σ : HS} (hid : ∀ i, 236 ≤ i ∧ i < 277 → i ∈ ids) (h_236_18 : σ.1 236 18 = 0) (h_245_0 : σ.1 245 0 = 0) (h_249_0 : σ.1 249 0 = 0) (h_253_0 : σ.1 253 0 = 0) : Kv l D ids ad ca yX12_begins cX12_begins 2 0 0 [.ref (ad 236)] σ (fun σ1 => σ1 = (hI (hI (hI (hI (hI (hI (hI (hI (hI (hI (hI (hI (hI (hI (hI (hI (hI (hI (hI (hI (hI (hI (hI (hI (hI (hI (hI (hI (hI (hI (hI (hI (hI σ 267 0 0) 267 1 0) 267 2 0) 267 3 0) 267 4 0) 267 5 0) 267 6 0) 267 7 0) 267 8 0) 267 9 0) 267 10 0) 267 11 0) 267 12 0) 267 13 0) 267 14 0) 267 15 0) 267 16 0) 267 17 0) 267 18 0) 267 19 0) 267 20 0) 267 21 0) 267 22 0) 267 23 0) 267 24 0) 267 25 0) 267 26 0) 267 27 0) 267 28 0) 267 26 (-2)) 267 28 (-1)) 236 49 0) 236 50 0)) := by
  refine Kv.of (by decide) (Nat.le_of_ble_eq_true rfl) 1 (fun Γ C Rt => ?_)
  show AW ids ad ca Γ 0 [some (.ref (ad 236)), none] [] σ
  refine a_iconst C dX12_begins_0 (v := 0) rfl ?_
  refine a_istore_n C dX12_begins_1 (i := 1) rfl (by decide) rfl (vs1 := [some (.ref (ad 236)), some (.int 0)]) rfl ?_
  refine a_iload_n C dX12_begins_2 (i := 1) rfl rfl ?_
  refine a_bipush C dX12_begins_3 (v := 29) rfl ?_
  refine a_ic_ge C dX12_begins_5 (tgt := 21) rfl (fun h => absurd h (by decide)) (fun _ => ?_)
  refine a_aload_n C dX12_begins_8 (i := 0) rfl rfl ?_
  refine a_get C fl_RX12_110 (i := 236) kd_236 (hid 236 (by decide)) (v := .ref (ad 267)) rfl dX12_begins_9 ?_
  refine a_iload_n C dX12_begins_12 (i := 1) rfl rfl ?_
  refine a_iconst C dX12_begins_13 (v := 0) rfl ?_
  refine a_iast C (i := 267) 0 kd_267 (hid 267 (by decide)) (by decide) rfl (by rw [al_267]; decide) dX12_begins_14 ?_
  refine a_iinc C dX12_begins_15 rfl (v := 1) rfl (by decide) rfl (vs1 := [some (.ref (ad 236)), some (.int 1)]) rfl ?_
  refine a_goto C dX12_begins_18 (tgt := 2) rfl ?_
  refine a_iload_n C dX12_begins_2 (i := 1) rfl rfl ?_
  refine a_bipush C dX12_begins_3 (v := 29) rfl ?_
  refine a_ic_ge C dX12_begins_5 (tgt := 21) rfl (fun h => absurd h (by decide)) (fun _ => ?_)
  refine a_aload_n C dX12_begins_8 (i := 0) rfl rfl ?_
  refine a_get C fl_RX12_110 (i := 236) kd_236 (hid 236 (by decide)) (v := .ref (ad 267)) rfl dX12_begins_9 ?_
  refine a_iload_n C dX12_begins_12 (i := 1) rfl rfl ?_
  refine a_iconst C dX12_begins_13 (v := 0) rfl ?_
  refine a_iast C (i := 267) 1 kd_267 (hid 267 (by decide)) (by decide) rfl (by rw [al_267]; decide) dX12_begins_14 ?_
  refine a_iinc C dX12_begins_15 rfl (v := 2) rfl (by decide) rfl (vs1 := [some (.ref (ad 236)), some (.int 2)]) rfl ?_
  refine a_goto C dX12_begins_18 (tgt := 2) rfl ?_
  refine a_iload_n C dX12_begins_2 (i := 1) rfl rfl ?_
  refine a_bipush C dX12_begins_3 (v := 29) rfl ?_
  refine a_ic_ge C dX12_begins_5 (tgt := 21) rfl (fun h => absurd h (by decide)) (fun _ => ?_)
  refine a_aload_n C dX12_begins_8 (i := 0) rfl rfl ?_
  refine a_get C fl_RX12_110 (i := 236) kd_236 (hid 236 (by decide)) (v := .ref (ad 267)) rfl dX12_begins_9 ?_
  refine a_iload_n C dX12_begins_12 (i := 1) rfl rfl ?_
  refine a_iconst C dX12_begins_13 (v := 0) rfl ?_
  refine a_iast C (i := 267) 2 kd_267 (hid 267 (by decide)) (by decide) rfl (by rw [al_267]; decide) dX12_begins_14 ?_
  refine a_iinc C dX12_begins_15 rfl (v := 3) rfl (by decide) rfl (vs1 := [some (.ref (ad 236)), some (.int 3)]) rfl ?_
  refine a_goto C dX12_begins_18 (tgt := 2) rfl ?_
  refine a_iload_n C dX12_begins_2 (i := 1) rfl rfl ?_
  refine a_bipush C dX12_begins_3 (v := 29) rfl ?_
  refine a_ic_ge C dX12_begins_5 (tgt := 21) rfl (fun h => absurd h (by decide)) (fun _ => ?_)
  refine a_aload_n C dX12_begins_8 (i := 0) rfl rfl ?_
  refine a_get C fl_RX12_110 (i := 236) kd_236 (hid 236 (by decide)) (v := .ref (ad 267)) rfl dX12_begins_9 ?_
  refine a_iload_n C dX12_begins_12 (i := 1) rfl rfl ?_
  refine a_iconst C dX12_begins_13 (v := 0) rfl ?_
  refine a_iast C (i := 267) 3 kd_267 (hid 267 (by decide)) (by decide) rfl (by rw [al_267]; decide) dX12_begins_14 ?_
  refine a_iinc C dX12_begins_15 rfl (v := 4) rfl (by decide) rfl (vs1 := [some (.ref (ad 236)), some (.int 4)]) rfl ?_
  refine a_goto C dX12_begins_18 (tgt := 2) rfl ?_
  refine a_iload_n C dX12_begins_2 (i := 1) rfl rfl ?_
  refine a_bipush C dX12_begins_3 (v := 29) rfl ?_
  refine a_ic_ge C dX12_begins_5 (tgt := 21) rfl (fun h => absurd h (by decide)) (fun _ => ?_)
  refine a_aload_n C dX12_begins_8 (i := 0) rfl rfl ?_
  refine a_get C fl_RX12_110 (i := 236) kd_236 (hid 236 (by decide)) (v := .ref (ad 267)) rfl dX12_begins_9 ?_
  refine a_iload_n C dX12_begins_12 (i := 1) rfl rfl ?_
  refine a_iconst C dX12_begins_13 (v := 0) rfl ?_
  refine a_iast C (i := 267) 4 kd_267 (hid 267 (by decide)) (by decide) rfl (by rw [al_267]; decide) dX12_begins_14 ?_
  refine a_iinc C dX12_begins_15 rfl (v := 5) rfl (by decide) rfl (vs1 := [some (.ref (ad 236)), some (.int 5)]) rfl ?_
  refine a_goto C dX12_begins_18 (tgt := 2) rfl ?_
  refine a_iload_n C dX12_begins_2 (i := 1) rfl rfl ?_
  refine a_bipush C dX12_begins_3 (v := 29) rfl ?_
  refine a_ic_ge C dX12_begins_5 (tgt := 21) rfl (fun h => absurd h (by decide)) (fun _ => ?_)
  refine a_aload_n C dX12_begins_8 (i := 0) rfl rfl ?_
  refine a_get C fl_RX12_110 (i := 236) kd_236 (hid 236 (by decide)) (v := .ref (ad 267)) rfl dX12_begins_9 ?_
  refine a_iload_n C dX12_begins_12 (i := 1) rfl rfl ?_
  refine a_iconst C dX12_begins_13 (v := 0) rfl ?_
  refine a_iast C (i := 267) 5 kd_267 (hid 267 (by decide)) (by decide) rfl (by rw [al_267]; decide) dX12_begins_14 ?_
  refine a_iinc C dX12_begins_15 rfl (v := 6) rfl (by decide) rfl (vs1 := [some (.ref (ad 236)), some (.int 6)]) rfl ?_
  refine a_goto C dX12_begins_18 (tgt := 2) rfl ?_
  refine a_iload_n C dX12_begins_2 (i := 1) rfl rfl ?_
  refine a_bipush C dX12_begins_3 (v := 29) rfl ?_
  refine a_ic_ge C dX12_begins_5 (tgt := 21) rfl (fun h => absurd h (by decide)) (fun _ => ?_)
  refine a_aload_n C dX12_begins_8 (i := 0) rfl rfl ?_
  refine a_get C fl_RX12_110 (i := 236) kd_236 (hid 236 (by decide)) (v := .ref (ad 267)) rfl dX12_begins_9 ?_
  refine a_iload_n C dX12_begins_12 (i := 1) rfl rfl ?_
  refine a_iconst C dX12_begins_13 (v := 0) rfl ?_
  refine a_iast C (i := 267) 6 kd_267 (hid 267 (by decide)) (by decide) rfl (by rw [al_267]; decide) dX12_begins_14 ?_
  refine a_iinc C dX12_begins_15 rfl (v := 7) rfl (by decide) rfl (vs1 := [some (.ref (ad 236)), some (.int 7)]) rfl ?_
  refine a_goto C dX12_begins_18 (tgt := 2) rfl ?_
  refine a_iload_n C dX12_begins_2 (i := 1) rfl rfl ?_
  refine a_bipush C dX12_begins_3 (v := 29) rfl ?_
  refine a_ic_ge C dX12_begins_5 (tgt := 21) rfl (fun h => absurd h (by decide)) (fun _ => ?_)
  refine a_aload_n C dX12_begins_8 (i := 0) rfl rfl ?_
  refine a_get C fl_RX12_110 (i := 236) kd_236 (hid 236 (by decide)) (v := .ref (ad 267)) rfl dX12_begins_9 ?_
  refine a_iload_n C dX12_begins_12 (i := 1) rfl rfl ?_
  refine a_iconst C dX12_begins_13 (v := 0) rfl ?_
  refine a_iast C (i := 267) 7 kd_267 (hid 267 (by decide)) (by decide) rfl (by rw [al_267]; decide) dX12_begins_14 ?_
  refine a_iinc C dX12_begins_15 rfl (v := 8) rfl (by decide) rfl (vs1 := [some (.ref (ad 236)), some (.int 8)]) rfl ?_
  refine a_goto C dX12_begins_18 (tgt := 2) rfl ?_
  refine a_iload_n C dX12_begins_2 (i := 1) rfl rfl ?_
  refine a_bipush C dX12_begins_3 (v := 29) rfl ?_
  refine a_ic_ge C dX12_begins_5 (tgt := 21) rfl (fun h => absurd h (by decide)) (fun _ => ?_)
  refine a_aload_n C dX12_begins_8 (i := 0) rfl rfl ?_
  refine a_get C fl_RX12_110 (i := 236) kd_236 (hid 236 (by decide)) (v := .ref (ad 267)) rfl dX12_begins_9 ?_
  refine a_iload_n C dX12_begins_12 (i := 1) rfl rfl ?_
  refine a_iconst C dX12_begins_13 (v := 0) rfl ?_
  refine a_iast C (i := 267) 8 kd_267 (hid 267 (by decide)) (by decide) rfl (by rw [al_267]; decide) dX12_begins_14 ?_
  refine a_iinc C dX12_begins_15 rfl (v := 9) rfl (by decide) rfl (vs1 := [some (.ref (ad 236)), some (.int 9)]) rfl ?_
  refine a_goto C dX12_begins_18 (tgt := 2) rfl ?_
  refine a_iload_n C dX12_begins_2 (i := 1) rfl rfl ?_
  refine a_bipush C dX12_begins_3 (v := 29) rfl ?_
  refine a_ic_ge C dX12_begins_5 (tgt := 21) rfl (fun h => absurd h (by decide)) (fun _ => ?_)
  refine a_aload_n C dX12_begins_8 (i := 0) rfl rfl ?_
  refine a_get C fl_RX12_110 (i := 236) kd_236 (hid 236 (by decide)) (v := .ref (ad 267)) rfl dX12_begins_9 ?_
  refine a_iload_n C dX12_begins_12 (i := 1) rfl rfl ?_
  refine a_iconst C dX12_begins_13 (v := 0) rfl ?_
  refine a_iast C (i := 267) 9 kd_267 (hid 267 (by decide)) (by decide) rfl (by rw [al_267]; decide) dX12_begins_14 ?_
  refine a_iinc C dX12_begins_15 rfl (v := 10) rfl (by decide) rfl (vs1 := [some (.ref (ad 236)), some (.int 10)]) rfl ?_
  refine a_goto C dX12_begins_18 (tgt := 2) rfl ?_
  refine a_iload_n C dX12_begins_2 (i := 1) rfl rfl ?_
  refine a_bipush C dX12_begins_3 (v := 29) rfl ?_
  refine a_ic_ge C dX12_begins_5 (tgt := 21) rfl (fun h => absurd h (by decide)) (fun _ => ?_)
  refine a_aload_n C dX12_begins_8 (i := 0) rfl rfl ?_
  refine a_get C fl_RX12_110 (i := 236) kd_236 (hid 236 (by decide)) (v := .ref (ad 267)) rfl dX12_begins_9 ?_
  refine a_iload_n C dX12_begins_12 (i := 1) rfl rfl ?_
  refine a_iconst C dX12_begins_13 (v := 0) rfl ?_
  refine a_iast C (i := 267) 10 kd_267 (hid 267 (by decide)) (by decide) rfl (by rw [al_267]; decide) dX12_begins_14 ?_
  refine a_iinc C dX12_begins_15 rfl (v := 11) rfl (by decide) rfl (vs1 := [some (.ref (ad 236)), some (.int 11)]) rfl ?_
  refine a_goto C dX12_begins_18 (tgt := 2) rfl ?_
  refine a_iload_n C dX12_begins_2 (i := 1) rfl rfl ?_
  refine a_bipush C dX12_begins_3 (v := 29) rfl ?_
  refine a_ic_ge C dX12_begins_5 (tgt := 21) rfl (fun h => absurd h (by decide)) (fun _ => ?_)
  refine a_aload_n C dX12_begins_8 (i := 0) rfl rfl ?_
  refine a_get C fl_RX12_110 (i := 236) kd_236 (hid 236 (by decide)) (v := .ref (ad 267)) rfl dX12_begins_9 ?_
  refine a_iload_n C dX12_begins_12 (i := 1) rfl rfl ?_
  refine a_iconst C dX12_begins_13 (v := 0) rfl ?_
  refine a_iast C (i := 267) 11 kd_267 (hid 267 (by decide)) (by decide) rfl (by rw [al_267]; decide) dX12_begins_14 ?_
  refine a_iinc C dX12_begins_15 rfl (v := 12) rfl (by decide) rfl (vs1 := [some (.ref (ad 236)), some (.int 12)]) rfl ?_
  refine a_goto C dX12_begins_18 (tgt := 2) rfl ?_
  refine a_iload_n C dX12_begins_2 (i := 1) rfl rfl ?_
  refine a_bipush C dX12_begins_3 (v := 29) rfl ?_
  refine a_ic_ge C dX12_begins_5 (tgt := 21) rfl (fun h => absurd h (by decide)) (fun _ => ?_)
  refine a_aload_n C dX12_begins_8 (i := 0) rfl rfl ?_
  refine a_get C fl_RX12_110 (i := 236) kd_236 (hid 236 (by decide)) (v := .ref (ad 267)) rfl dX12_begins_9 ?_
  refine a_iload_n C dX12_begins_12 (i := 1) rfl rfl ?_
  refine a_iconst C dX12_begins_13 (v := 0) rfl ?_
  refine a_iast C (i := 267) 12 kd_267 (hid 267 (by decide)) (by decide) rfl (by rw [al_267]; decide) dX12_begins_14 ?_
  refine a_iinc C dX12_begins_15 rfl (v := 13) rfl (by decide) rfl (vs1 := [some (.ref (ad 236)), some (.int 13)]) rfl ?_
  refine a_goto C dX12_begins_18 (tgt := 2) rfl ?_
  refine a_iload_n C dX12_begins_2 (i := 1) rfl rfl ?_
  refine a_bipush C dX12_begins_3 (v := 29) rfl ?_
  refine a_ic_ge C dX12_begins_5 (tgt := 21) rfl (fun h => absurd h (by decide)) (fun _ => ?_)
  refine a_aload_n C dX12_begins_8 (i := 0) rfl rfl ?_
  refine a_get C fl_RX12_110 (i := 236) kd_236 (hid 236 (by decide)) (v := .ref (ad 267)) rfl dX12_begins_9 ?_
  refine a_iload_n C dX12_begins_12 (i := 1) rfl rfl ?_
  refine a_iconst C dX12_begins_13 (v := 0) rfl ?_
  refine a_iast C (i := 267) 13 kd_267 (hid 267 (by decide)) (by decide) rfl (by rw [al_267]; decide) dX12_begins_14 ?_
  refine a_iinc C dX12_begins_15 rfl (v := 14) rfl (by decide) rfl (vs1 := [some (.ref (ad 236)), some (.int 14)]) rfl ?_
  refine a_goto C dX12_begins_18 (tgt := 2) rfl ?_
  refine a_iload_n C dX12_begins_2 (i := 1) rfl rfl ?_
  refine a_bipush C dX12_begins_3 (v := 29) rfl ?_
  refine a_ic_ge C dX12_begins_5 (tgt := 21) rfl (fun h => absurd h (by decide)) (fun _ => ?_)
  refine a_aload_n C dX12_begins_8 (i := 0) rfl rfl ?_
  refine a_get C fl_RX12_110 (i := 236) kd_236 (hid 236 (by decide)) (v := .ref (ad 267)) rfl dX12_begins_9 ?_
  refine a_iload_n C dX12_begins_12 (i := 1) rfl rfl ?_
  refine a_iconst C dX12_begins_13 (v := 0) rfl ?_
  refine a_iast C (i := 267) 14 kd_267 (hid 267 (by decide)) (by decide) rfl (by rw [al_267]; decide) dX12_begins_14 ?_
  refine a_iinc C dX12_begins_15 rfl (v := 15) rfl (by decide) rfl (vs1 := [some (.ref (ad 236)), some (.int 15)]) rfl ?_
  refine a_goto C dX12_begins_18 (tgt := 2) rfl ?_
  refine a_iload_n C dX12_begins_2 (i := 1) rfl rfl ?_
  refine a_bipush C dX12_begins_3 (v := 29) rfl ?_
  refine a_ic_ge C dX12_begins_5 (tgt := 21) rfl (fun h => absurd h (by decide)) (fun _ => ?_)
  refine a_aload_n C dX12_begins_8 (i := 0) rfl rfl ?_
  refine a_get C fl_RX12_110 (i := 236) kd_236 (hid 236 (by decide)) (v := .ref (ad 267)) rfl dX12_begins_9 ?_
  refine a_iload_n C dX12_begins_12 (i := 1) rfl rfl ?_
  refine a_iconst C dX12_begins_13 (v := 0) rfl ?_
  refine a_iast C (i := 267) 15 kd_267 (hid 267 (by decide)) (by decide) rfl (by rw [al_267]; decide) dX12_begins_14 ?_
  refine a_iinc C dX12_begins_15 rfl (v := 16) rfl (by decide) rfl (vs1 := [some (.ref (ad 236)), some (.int 16)]) rfl ?_
  refine a_goto C dX12_begins_18 (tgt := 2) rfl ?_
  refine a_iload_n C dX12_begins_2 (i := 1) rfl rfl ?_
  refine a_bipush C dX12_begins_3 (v := 29) rfl ?_
  refine a_ic_ge C dX12_begins_5 (tgt := 21) rfl (fun h => absurd h (by decide)) (fun _ => ?_)
  refine a_aload_n C dX12_begins_8 (i := 0) rfl rfl ?_
  refine a_get C fl_RX12_110 (i := 236) kd_236 (hid 236 (by decide)) (v := .ref (ad 267)) rfl dX12_begins_9 ?_
  refine a_iload_n C dX12_begins_12 (i := 1) rfl rfl ?_
  refine a_iconst C dX12_begins_13 (v := 0) rfl ?_
  refine a_iast C (i := 267) 16 kd_267 (hid 267 (by decide)) (by decide) rfl (by rw [al_267]; decide) dX12_begins_14 ?_
  refine a_iinc C dX12_begins_15 rfl (v := 17) rfl (by decide) rfl (vs1 := [some (.ref (ad 236)), some (.int 17)]) rfl ?_
  refine a_goto C dX12_begins_18 (tgt := 2) rfl ?_
  refine a_iload_n C dX12_begins_2 (i := 1) rfl rfl ?_
  refine a_bipush C dX12_begins_3 (v := 29) rfl ?_
  refine a_ic_ge C dX12_begins_5 (tgt := 21) rfl (fun h => absurd h (by decide)) (fun _ => ?_)
  refine a_aload_n C dX12_begins_8 (i := 0) rfl rfl ?_
  refine a_get C fl_RX12_110 (i := 236) kd_236 (hid 236 (by decide)) (v := .ref (ad 267)) rfl dX12_begins_9 ?_
  refine a_iload_n C dX12_begins_12 (i := 1) rfl rfl ?_
  refine a_iconst C dX12_begins_13 (v := 0) rfl ?_
  refine a_iast C (i := 267) 17 kd_267 (hid 267 (by decide)) (by decide) rfl (by rw [al_267]; decide) dX12_begins_14 ?_
  refine a_iinc C dX12_begins_15 rfl (v := 18) rfl (by decide) rfl (vs1 := [some (.ref (ad 236)), some (.int 18)]) rfl ?_
  refine a_goto C dX12_begins_18 (tgt := 2) rfl ?_
  refine a_iload_n C dX12_begins_2 (i := 1) rfl rfl ?_
  refine a_bipush C dX12_begins_3 (v := 29) rfl ?_
  refine a_ic_ge C dX12_begins_5 (tgt := 21) rfl (fun h => absurd h (by decide)) (fun _ => ?_)
  refine a_aload_n C dX12_begins_8 (i := 0) rfl rfl ?_
  refine a_get C fl_RX12_110 (i := 236) kd_236 (hid 236 (by decide)) (v := .ref (ad 267)) rfl dX12_begins_9 ?_
  refine a_iload_n C dX12_begins_12 (i := 1) rfl rfl ?_
  refine a_iconst C dX12_begins_13 (v := 0) rfl ?_
  refine a_iast C (i := 267) 18 kd_267 (hid 267 (by decide)) (by decide) rfl (by rw [al_267]; decide) dX12_begins_14 ?_
  refine a_iinc C dX12_begins_15 rfl (v := 19) rfl (by decide) rfl (vs1 := [some (.ref (ad 236)), some (.int 19)]) rfl ?_
  refine a_goto C dX12_begins_18 (tgt := 2) rfl ?_
  refine a_iload_n C dX12_begins_2 (i := 1) rfl rfl ?_
  refine a_bipush C dX12_begins_3 (v := 29) rfl ?_
  refine a_ic_ge C dX12_begins_5 (tgt := 21) rfl (fun h => absurd h (by decide)) (fun _ => ?_)
  refine a_aload_n C dX12_begins_8 (i := 0) rfl rfl ?_
  refine a_get C fl_RX12_110 (i := 236) kd_236 (hid 236 (by decide)) (v := .ref (ad 267)) rfl dX12_begins_9 ?_
  refine a_iload_n C dX12_begins_12 (i := 1) rfl rfl ?_
  refine a_iconst C dX12_begins_13 (v := 0) rfl ?_
  refine a_iast C (i := 267) 19 kd_267 (hid 267 (by decide)) (by decide) rfl (by rw [al_267]; decide) dX12_begins_14 ?_
  refine a_iinc C dX12_begins_15 rfl (v := 20) rfl (by decide) rfl (vs1 := [some (.ref (ad 236)), some (.int 20)]) rfl ?_
  refine a_goto C dX12_begins_18 (tgt := 2) rfl ?_
  refine a_iload_n C dX12_begins_2 (i := 1) rfl rfl ?_
  refine a_bipush C dX12_begins_3 (v := 29) rfl ?_
  refine a_ic_ge C dX12_begins_5 (tgt := 21) rfl (fun h => absurd h (by decide)) (fun _ => ?_)
  refine a_aload_n C dX12_begins_8 (i := 0) rfl rfl ?_
  refine a_get C fl_RX12_110 (i := 236) kd_236 (hid 236 (by decide)) (v := .ref (ad 267)) rfl dX12_begins_9 ?_
  refine a_iload_n C dX12_begins_12 (i := 1) rfl rfl ?_
  refine a_iconst C dX12_begins_13 (v := 0) rfl ?_
  refine a_iast C (i := 267) 20 kd_267 (hid 267 (by decide)) (by decide) rfl (by rw [al_267]; decide) dX12_begins_14 ?_
  refine a_iinc C dX12_begins_15 rfl (v := 21) rfl (by decide) rfl (vs1 := [some (.ref (ad 236)), some (.int 21)]) rfl ?_
  refine a_goto C dX12_begins_18 (tgt := 2) rfl ?_
  refine a_iload_n C dX12_begins_2 (i := 1) rfl rfl ?_
  refine a_bipush C dX12_begins_3 (v := 29) rfl ?_
  refine a_ic_ge C dX12_begins_5 (tgt := 21) rfl (fun h => absurd h (by decide)) (fun _ => ?_)
  refine a_aload_n C dX12_begins_8 (i := 0) rfl rfl ?_
  refine a_get C fl_RX12_110 (i := 236) kd_236 (hid 236 (by decide)) (v := .ref (ad 267)) rfl dX12_begins_9 ?_
  refine a_iload_n C dX12_begins_12 (i := 1) rfl rfl ?_
  refine a_iconst C dX12_begins_13 (v := 0) rfl ?_
  refine a_iast C (i := 267) 21 kd_267 (hid 267 (by decide)) (by decide) rfl (by rw [al_267]; decide) dX12_begins_14 ?_
  refine a_iinc C dX12_begins_15 rfl (v := 22) rfl (by decide) rfl (vs1 := [some (.ref (ad 236)), some (.int 22)]) rfl ?_
  refine a_goto C dX12_begins_18 (tgt := 2) rfl ?_
  refine a_iload_n C dX12_begins_2 (i := 1) rfl rfl ?_
  refine a_bipush C dX12_begins_3 (v := 29) rfl ?_
  refine a_ic_ge C dX12_begins_5 (tgt := 21) rfl (fun h => absurd h (by decide)) (fun _ => ?_)
  refine a_aload_n C dX12_begins_8 (i := 0) rfl rfl ?_
  refine a_get C fl_RX12_110 (i := 236) kd_236 (hid 236 (by decide)) (v := .ref (ad 267)) rfl dX12_begins_9 ?_
  refine a_iload_n C dX12_begins_12 (i := 1) rfl rfl ?_
  refine a_iconst C dX12_begins_13 (v := 0) rfl ?_
  refine a_iast C (i := 267) 22 kd_267 (hid 267 (by decide)) (by decide) rfl (by rw [al_267]; decide) dX12_begins_14 ?_
  refine a_iinc C dX12_begins_15 rfl (v := 23) rfl (by decide) rfl (vs1 := [some (.ref (ad 236)), some (.int 23)]) rfl ?_
  refine a_goto C dX12_begins_18 (tgt := 2) rfl ?_
  refine a_iload_n C dX12_begins_2 (i := 1) rfl rfl ?_
  refine a_bipush C dX12_begins_3 (v := 29) rfl ?_
  refine a_ic_ge C dX12_begins_5 (tgt := 21) rfl (fun h => absurd h (by decide)) (fun _ => ?_)
  refine a_aload_n C dX12_begins_8 (i := 0) rfl rfl ?_
  refine a_get C fl_RX12_110 (i := 236) kd_236 (hid 236 (by decide)) (v := .ref (ad 267)) rfl dX12_begins_9 ?_
  refine a_iload_n C dX12_begins_12 (i := 1) rfl rfl ?_
  refine a_iconst C dX12_begins_13 (v := 0) rfl ?_
  refine a_iast C (i := 267) 23 kd_267 (hid 267 (by decide)) (by decide) rfl (by rw [al_267]; decide) dX12_begins_14 ?_
  refine a_iinc C dX12_begins_15 rfl (v := 24) rfl (by decide) rfl (vs1 := [some (.ref (ad 236)), some (.int 24)]) rfl ?_
  refine a_goto C dX12_begins_18 (tgt := 2) rfl ?_
  refine a_iload_n C dX12_begins_2 (i := 1) rfl rfl ?_
  refine a_bipush C dX12_begins_3 (v := 29) rfl ?_
  refine a_ic_ge C dX12_begins_5 (tgt := 21) rfl (fun h => absurd h (by decide)) (fun _ => ?_)
  refine a_aload_n C dX12_begins_8 (i := 0) rfl rfl ?_
  refine a_get C fl_RX12_110 (i := 236) kd_236 (hid 236 (by decide)) (v := .ref (ad 267)) rfl dX12_begins_9 ?_
  refine a_iload_n C dX12_begins_12 (i := 1) rfl rfl ?_
  refine a_iconst C dX12_begins_13 (v := 0) rfl ?_
  refine a_iast C (i := 267) 24 kd_267 (hid 267 (by decide)) (by decide) rfl (by rw [al_267]; decide) dX12_begins_14 ?_
  refine a_iinc C dX12_begins_15 rfl (v := 25) rfl (by decide) rfl (vs1 := [some (.ref (ad 236)), some (.int 25)]) rfl ?_
  refine a_goto C dX12_begins_18 (tgt := 2) rfl ?_
  refine a_iload_n C dX12_begins_2 (i := 1) rfl rfl ?_
  refine a_bipush C dX12_begins_3 (v := 29) rfl ?_
  refine a_ic_ge C dX12_begins_5 (tgt := 21) rfl (fun h => absurd h (by decide)) (fun _ => ?_)
  refine a_aload_n C dX12_begins_8 (i := 0) rfl rfl ?_
  refine a_get C fl_RX12_110 (i := 236) kd_236 (hid 236 (by decide)) (v := .ref (ad 267)) rfl dX12_begins_9 ?_
  refine a_iload_n C dX12_begins_12 (i := 1) rfl rfl ?_
  refine a_iconst C dX12_begins_13 (v := 0) rfl ?_
  refine a_iast C (i := 267) 25 kd_267 (hid 267 (by decide)) (by decide) rfl (by rw [al_267]; decide) dX12_begins_14 ?_
  refine a_iinc C dX12_begins_15 rfl (v := 26) rfl (by decide) rfl (vs1 := [some (.ref (ad 236)), some (.int 26)]) rfl ?_
  refine a_goto C dX12_begins_18 (tgt := 2) rfl ?_
  refine a_iload_n C dX12_begins_2 (i := 1) rfl rfl ?_
  refine a_bipush C dX12_begins_3 (v := 29) rfl ?_
  refine a_ic_ge C dX12_begins_5 (tgt := 21) rfl (fun h => absurd h (by decide)) (fun _ => ?_)
  refine a_aload_n C dX12_begins_8 (i := 0) rfl rfl ?_
  refine a_get C fl_RX12_110 (i := 236) kd_236 (hid 236 (by decide)) (v := .ref (ad 267)) rfl dX12_begins_9 ?_
  refine a_iload_n C dX12_begins_12 (i := 1) rfl rfl ?_
  refine a_iconst C dX12_begins_13 (v := 0) rfl ?_
  refine a_iast C (i := 267) 26 kd_267 (hid 267 (by decide)) (by decide) rfl (by rw [al_267]; decide) dX12_begins_14 ?_
  refine a_iinc C dX12_begins_15 rfl (v := 27) rfl (by decide) rfl (vs1 := [some (.ref (ad 236)), some (.int 27)]) rfl ?_
  refine a_goto C dX12_begins_18 (tgt := 2) rfl ?_
  refine a_iload_n C dX12_begins_2 (i := 1) rfl rfl ?_
  refine a_bipush C dX12_begins_3 (v := 29) rfl ?_
  refine a_ic_ge C dX12_begins_5 (tgt := 21) rfl (fun h => absurd h (by decide)) (fun _ => ?_)
  refine a_aload_n C dX12_begins_8 (i := 0) rfl rfl ?_
  refine a_get C fl_RX12_110 (i := 236) kd_236 (hid 236 (by decide)) (v := .ref (ad 267)) rfl dX12_begins_9 ?_
  refine a_iload_n C dX12_begins_12 (i := 1) rfl rfl ?_
  refine a_iconst C dX12_begins_13 (v := 0) rfl ?_
  refine a_iast C (i := 267) 27 kd_267 (hid 267 (by decide)) (by decide) rfl (by rw [al_267]; decide) dX12_begins_14 ?_
  refine a_iinc C dX12_begins_15 rfl (v := 28) rfl (by decide) rfl (vs1 := [some (.ref (ad 236)), some (.int 28)]) rfl ?_
  refine a_goto C dX12_begins_18 (tgt := 2) rfl ?_
  refine a_iload_n C dX12_begins_2 (i := 1) rfl rfl ?_
  refine a_bipush C dX12_begins_3 (v := 29) rfl ?_
  refine a_ic_ge C dX12_begins_5 (tgt := 21) rfl (fun h => absurd h (by decide)) (fun _ => ?_)
  refine a_aload_n C dX12_begins_8 (i := 0) rfl rfl ?_
  refine a_get C fl_RX12_110 (i := 236) kd_236 (hid 236 (by decide)) (v := .ref (ad 267)) rfl dX12_begins_9 ?_
  refine a_iload_n C dX12_begins_12 (i := 1) rfl rfl ?_
  refine a_iconst C dX12_begins_13 (v := 0) rfl ?_
  refine a_iast C (i := 267) 28 kd_267 (hid 267 (by decide)) (by decide) rfl (by rw [al_267]; decide) dX12_begins_14 ?_
  refine a_iinc C dX12_begins_15 rfl (v := 29) rfl (by decide) rfl (vs1 := [some (.ref (ad 236)), some (.int 29)]) rfl ?_
  refine a_goto C dX12_begins_18 (tgt := 2) rfl ?_
  refine a_iload_n C dX12_begins_2 (i := 1) rfl rfl ?_
  refine a_bipush C dX12_begins_3 (v := 29) rfl ?_
  refine a_ic_ge C dX12_begins_5 (tgt := 21) rfl (fun _ => ?_) (fun h => absurd h (by decide))
  refine a_iconst C dX12_begins_21 (v := 0) rfl ?_
  refine a_istore_n C dX12_begins_22 (i := 1) rfl (by decide) rfl (vs1 := [some (.ref (ad 236)), some (.int 0)]) rfl ?_
  refine a_iload_n C dX12_begins_23 (i := 1) rfl rfl ?_
  refine a_aload_n C dX12_begins_24 (i := 0) rfl rfl ?_
  refine a_get C fl_RX12_43 (i := 236) kd_236 (hid 236 (by decide)) (v := .ref (ad 245)) rfl dX12_begins_25 ?_
  refine a_aload_n C dX12_begins_28 (i := 0) rfl rfl ?_
  refine a_get C fl_RX12_221 (i := 236) kd_236 (hid 236 (by decide)) (v := .int 0) (congrArg (fun z => some (Value.int z)) h_236_18) dX12_begins_29 ?_
  refine a_iald C (i := 245) 0 kd_245 (hid 245 (by decide)) (by decide) rfl (by rw [al_245]; decide) dX12_begins_32 (v := 0) h_245_0 ?_
  refine a_ic_ge C dX12_begins_33 (tgt := 65) rfl (fun _ => ?_) (fun h => absurd h (by decide))
  refine a_aload_n C dX12_begins_65 (i := 0) rfl rfl ?_
  refine a_get C fl_RX12_110 (i := 236) kd_236 (hid 236 (by decide)) (v := .ref (ad 267)) rfl dX12_begins_66 ?_
  refine a_bipush C dX12_begins_69 (v := 26) rfl ?_
  refine a_aload_n C dX12_begins_71 (i := 0) rfl rfl ?_
  refine a_get C fl_RX12_55 (i := 236) kd_236 (hid 236 (by decide)) (v := .ref (ad 249)) rfl dX12_begins_72 ?_
  refine a_aload_n C dX12_begins_75 (i := 0) rfl rfl ?_
  refine a_get C fl_RX12_221 (i := 236) kd_236 (hid 236 (by decide)) (v := .int 0) (congrArg (fun z => some (Value.int z)) h_236_18) dX12_begins_76 ?_
  refine a_iald C (i := 249) 0 kd_249 (hid 249 (by decide)) (by decide) rfl (by rw [al_249]; decide) dX12_begins_79 (v := 0) h_249_0 ?_
  refine a_if_le C dX12_begins_80 (tgt := 87) rfl (fun _ => ?_) (fun h => absurd h (by decide))
  refine a_bipush C dX12_begins_87 (v := (-2)) rfl ?_
  refine a_iast C (i := 267) 26 kd_267 (hid 267 (by decide)) (by decide) rfl (by rw [al_267]; decide) dX12_begins_89 ?_
  refine a_aload_n C dX12_begins_90 (i := 0) rfl rfl ?_
  refine a_get C fl_RX12_110 (i := 236) kd_236 (hid 236 (by decide)) (v := .ref (ad 267)) rfl dX12_begins_91 ?_
  refine a_bipush C dX12_begins_94 (v := 28) rfl ?_
  refine a_iconst C dX12_begins_96 (v := (-1)) rfl ?_
  refine a_iast C (i := 267) 28 kd_267 (hid 267 (by decide)) (by decide) rfl (by rw [al_267]; decide) dX12_begins_97 ?_
  refine a_aload_n C dX12_begins_98 (i := 0) rfl rfl ?_
  refine a_aload_n C dX12_begins_99 (i := 0) rfl rfl ?_
  refine a_get C fl_RX12_67 (i := 236) kd_236 (hid 236 (by decide)) (v := .ref (ad 253)) rfl dX12_begins_100 ?_
  refine a_aload_n C dX12_begins_103 (i := 0) rfl rfl ?_
  refine a_get C fl_RX12_221 (i := 236) kd_236 (hid 236 (by decide)) (v := .int 0) (congrArg (fun z => some (Value.int z)) h_236_18) dX12_begins_104 ?_
  refine a_iald C (i := 253) 0 kd_253 (hid 253 (by decide)) (by decide) rfl (by rw [al_253]; decide) dX12_begins_107 (v := 0) h_253_0 ?_
  refine a_put C fp_RX12_305 (i := 236) kd_236 (hid 236 (by decide)) rfl rfl dX12_begins_108 ?_
  refine a_aload_n C dX12_begins_111 (i := 0) rfl rfl ?_
  refine a_iconst C dX12_begins_112 (v := 0) rfl ?_
  refine a_put C fp_RX12_308 (i := 236) kd_236 (hid 236 (by decide)) rfl rfl dX12_begins_113 ?_
  exact a_vret Rt dX12_begins_116 (rfl)
set_option maxHeartbeats 4000000 in
set_option maxRecDepth 100000 in
theorem i_keepsRow {l : Launch} {D : va_G} {ids : List Nat} {ad : Nat → Nat} {ca : Nat → ClassId} {σ : HS} (hid : ∀ i, 236 ≤ i ∧ i < 277 → i ∈ ids) (h_267_0 : σ.1 267 0 = 0) (h_267_1 : σ.1 267 1 = 0) (h_267_2 : σ.1 267 2 = 0) (h_267_3 : σ.1 267 3 = 0) (h_267_4 : σ.1 267 4 = 0) (h_267_5 : σ.1 267 5 = 0) (h_267_6 : σ.1 267 6 = 0) (h_267_7 : σ.1 267 7 = 0) (h_267_8 : σ.1 267 8 = 0) (h_267_9 : σ.1 267 9 = 0) (h_267_10 : σ.1 267 10 = 0) (h_267_11 : σ.1 267 11 = 0) (h_267_12 : σ.1 267 12 = 0) (h_267_13 : σ.1 267 13 = 0) (h_267_14 : σ.1 267 14 = 0) (h_267_15 : σ.1 267 15 = 0) (h_267_16 : σ.1 267 16 = 0) (h_267_17 : σ.1 267 17 = 0) (h_267_18 : σ.1 267 18 = 0) (h_267_19 : σ.1 267 19 = 0) (h_267_20 : σ.1 267 20 = 0) (h_267_21 : σ.1 267 21 = 0) (h_267_22 : σ.1 267 22 = 0) (h_267_23 : σ.1 267 23 = 0) (h_267_24 : σ.1 267 24 = 0) (h_267_25 : σ.1 267 25 = 0) (h_267_26 : σ.1 267 26 = (-2)) (h_267_27 : σ.1 267 27 = 0) (h_267_28 : σ.1 267 28 = (-1)) : Kv l D ids ad ca yX12_keepsRow cX12_keepsRow 2 0 0 [.ref (ad 236)] σ (fun σ1 => σ1 = (hI (hI (hI (hI (hI (hI (hI (hI (hI (hI (hI (hI (hI (hI (hI (hI (hI (hI (hI (hI (hI (hI (hI (hI (hI (hI (hI (hI (hI σ 266 0 0) 266 1 0) 266 2 0) 266 3 0) 266 4 0) 266 5 0) 266 6 0) 266 7 0) 266 8 0) 266 9 0) 266 10 0) 266 11 0) 266 12 0) 266 13 0) 266 14 0) 266 15 0) 266 16 0) 266 17 0) 266 18 0) 266 19 0) 266 20 0) 266 21 0) 266 22 0) 266 23 0) 266 24 0) 266 25 0) 266 26 (-2)) 266 27 0) 266 28 (-1))) := by
  refine Kv.of (by decide) (Nat.le_of_ble_eq_true rfl) 1 (fun Γ C Rt => ?_)
  show AW ids ad ca Γ 0 [some (.ref (ad 236)), none] [] σ
  refine a_iconst C dX12_keepsRow_0 (v := 0) rfl ?_
  refine a_istore_n C dX12_keepsRow_1 (i := 1) rfl (by decide) rfl (vs1 := [some (.ref (ad 236)), some (.int 0)]) rfl ?_
  refine a_iload_n C dX12_keepsRow_2 (i := 1) rfl rfl ?_
  refine a_bipush C dX12_keepsRow_3 (v := 29) rfl ?_
  refine a_ic_ge C dX12_keepsRow_5 (tgt := 26) rfl (fun h => absurd h (by decide)) (fun _ => ?_)
  refine a_aload_n C dX12_keepsRow_8 (i := 0) rfl rfl ?_
  refine a_get C fl_RX12_107 (i := 236) kd_236 (hid 236 (by decide)) (v := .ref (ad 266)) rfl dX12_keepsRow_9 ?_
  refine a_iload_n C dX12_keepsRow_12 (i := 1) rfl rfl ?_
  refine a_aload_n C dX12_keepsRow_13 (i := 0) rfl rfl ?_
  refine a_get C fl_RX12_110 (i := 236) kd_236 (hid 236 (by decide)) (v := .ref (ad 267)) rfl dX12_keepsRow_14 ?_
  refine a_iload_n C dX12_keepsRow_17 (i := 1) rfl rfl ?_
  refine a_iald C (i := 267) 0 kd_267 (hid 267 (by decide)) (by decide) rfl (by rw [al_267]; decide) dX12_keepsRow_18 (v := 0) h_267_0 ?_
  refine a_iast C (i := 266) 0 kd_266 (hid 266 (by decide)) (by decide) rfl (by rw [al_266]; decide) dX12_keepsRow_19 ?_
  refine a_iinc C dX12_keepsRow_20 rfl (v := 1) rfl (by decide) rfl (vs1 := [some (.ref (ad 236)), some (.int 1)]) rfl ?_
  refine a_goto C dX12_keepsRow_23 (tgt := 2) rfl ?_
  refine a_iload_n C dX12_keepsRow_2 (i := 1) rfl rfl ?_
  refine a_bipush C dX12_keepsRow_3 (v := 29) rfl ?_
  refine a_ic_ge C dX12_keepsRow_5 (tgt := 26) rfl (fun h => absurd h (by decide)) (fun _ => ?_)
  refine a_aload_n C dX12_keepsRow_8 (i := 0) rfl rfl ?_
  refine a_get C fl_RX12_107 (i := 236) kd_236 (hid 236 (by decide)) (v := .ref (ad 266)) rfl dX12_keepsRow_9 ?_
  refine a_iload_n C dX12_keepsRow_12 (i := 1) rfl rfl ?_
  refine a_aload_n C dX12_keepsRow_13 (i := 0) rfl rfl ?_
  refine a_get C fl_RX12_110 (i := 236) kd_236 (hid 236 (by decide)) (v := .ref (ad 267)) rfl dX12_keepsRow_14 ?_
  refine a_iload_n C dX12_keepsRow_17 (i := 1) rfl rfl ?_
  refine a_iald C (i := 267) 1 kd_267 (hid 267 (by decide)) (by decide) rfl (by rw [al_267]; decide) dX12_keepsRow_18 (v := 0) h_267_1 ?_
  refine a_iast C (i := 266) 1 kd_266 (hid 266 (by decide)) (by decide) rfl (by rw [al_266]; decide) dX12_keepsRow_19 ?_
  refine a_iinc C dX12_keepsRow_20 rfl (v := 2) rfl (by decide) rfl (vs1 := [some (.ref (ad 236)), some (.int 2)]) rfl ?_
  refine a_goto C dX12_keepsRow_23 (tgt := 2) rfl ?_
  refine a_iload_n C dX12_keepsRow_2 (i := 1) rfl rfl ?_
  refine a_bipush C dX12_keepsRow_3 (v := 29) rfl ?_
  refine a_ic_ge C dX12_keepsRow_5 (tgt := 26) rfl (fun h => absurd h (by decide)) (fun _ => ?_)
  refine a_aload_n C dX12_keepsRow_8 (i := 0) rfl rfl ?_
  refine a_get C fl_RX12_107 (i := 236) kd_236 (hid 236 (by decide)) (v := .ref (ad 266)) rfl dX12_keepsRow_9 ?_
  refine a_iload_n C dX12_keepsRow_12 (i := 1) rfl rfl ?_
  refine a_aload_n C dX12_keepsRow_13 (i := 0) rfl rfl ?_
  refine a_get C fl_RX12_110 (i := 236) kd_236 (hid 236 (by decide)) (v := .ref (ad 267)) rfl dX12_keepsRow_14 ?_
  refine a_iload_n C dX12_keepsRow_17 (i := 1) rfl rfl ?_
  refine a_iald C (i := 267) 2 kd_267 (hid 267 (by decide)) (by decide) rfl (by rw [al_267]; decide) dX12_keepsRow_18 (v := 0) h_267_2 ?_
  refine a_iast C (i := 266) 2 kd_266 (hid 266 (by decide)) (by decide) rfl (by rw [al_266]; decide) dX12_keepsRow_19 ?_
  refine a_iinc C dX12_keepsRow_20 rfl (v := 3) rfl (by decide) rfl (vs1 := [some (.ref (ad 236)), some (.int 3)]) rfl ?_
  refine a_goto C dX12_keepsRow_23 (tgt := 2) rfl ?_
  refine a_iload_n C dX12_keepsRow_2 (i := 1) rfl rfl ?_
  refine a_bipush C dX12_keepsRow_3 (v := 29) rfl ?_
  refine a_ic_ge C dX12_keepsRow_5 (tgt := 26) rfl (fun h => absurd h (by decide)) (fun _ => ?_)
  refine a_aload_n C dX12_keepsRow_8 (i := 0) rfl rfl ?_
  refine a_get C fl_RX12_107 (i := 236) kd_236 (hid 236 (by decide)) (v := .ref (ad 266)) rfl dX12_keepsRow_9 ?_
  refine a_iload_n C dX12_keepsRow_12 (i := 1) rfl rfl ?_
  refine a_aload_n C dX12_keepsRow_13 (i := 0) rfl rfl ?_
  refine a_get C fl_RX12_110 (i := 236) kd_236 (hid 236 (by decide)) (v := .ref (ad 267)) rfl dX12_keepsRow_14 ?_
  refine a_iload_n C dX12_keepsRow_17 (i := 1) rfl rfl ?_
  refine a_iald C (i := 267) 3 kd_267 (hid 267 (by decide)) (by decide) rfl (by rw [al_267]; decide) dX12_keepsRow_18 (v := 0) h_267_3 ?_
  refine a_iast C (i := 266) 3 kd_266 (hid 266 (by decide)) (by decide) rfl (by rw [al_266]; decide) dX12_keepsRow_19 ?_
  refine a_iinc C dX12_keepsRow_20 rfl (v := 4) rfl (by decide) rfl (vs1 := [some (.ref (ad 236)), some (.int 4)]) rfl ?_
  refine a_goto C dX12_keepsRow_23 (tgt := 2) rfl ?_
  refine a_iload_n C dX12_keepsRow_2 (i := 1) rfl rfl ?_
  refine a_bipush C dX12_keepsRow_3 (v := 29) rfl ?_
  refine a_ic_ge C dX12_keepsRow_5 (tgt := 26) rfl (fun h => absurd h (by decide)) (fun _ => ?_)
  refine a_aload_n C dX12_keepsRow_8 (i := 0) rfl rfl ?_
  refine a_get C fl_RX12_107 (i := 236) kd_236 (hid 236 (by decide)) (v := .ref (ad 266)) rfl dX12_keepsRow_9 ?_
  refine a_iload_n C dX12_keepsRow_12 (i := 1) rfl rfl ?_
  refine a_aload_n C dX12_keepsRow_13 (i := 0) rfl rfl ?_
  refine a_get C fl_RX12_110 (i := 236) kd_236 (hid 236 (by decide)) (v := .ref (ad 267)) rfl dX12_keepsRow_14 ?_
  refine a_iload_n C dX12_keepsRow_17 (i := 1) rfl rfl ?_
  refine a_iald C (i := 267) 4 kd_267 (hid 267 (by decide)) (by decide) rfl (by rw [al_267]; decide) dX12_keepsRow_18 (v := 0) h_267_4 ?_
  refine a_iast C (i := 266) 4 kd_266 (hid 266 (by decide)) (by decide) rfl (by rw [al_266]; decide) dX12_keepsRow_19 ?_
  refine a_iinc C dX12_keepsRow_20 rfl (v := 5) rfl (by decide) rfl (vs1 := [some (.ref (ad 236)), some (.int 5)]) rfl ?_
  refine a_goto C dX12_keepsRow_23 (tgt := 2) rfl ?_
  refine a_iload_n C dX12_keepsRow_2 (i := 1) rfl rfl ?_
  refine a_bipush C dX12_keepsRow_3 (v := 29) rfl ?_
  refine a_ic_ge C dX12_keepsRow_5 (tgt := 26) rfl (fun h => absurd h (by decide)) (fun _ => ?_)
  refine a_aload_n C dX12_keepsRow_8 (i := 0) rfl rfl ?_
  refine a_get C fl_RX12_107 (i := 236) kd_236 (hid 236 (by decide)) (v := .ref (ad 266)) rfl dX12_keepsRow_9 ?_
  refine a_iload_n C dX12_keepsRow_12 (i := 1) rfl rfl ?_
  refine a_aload_n C dX12_keepsRow_13 (i := 0) rfl rfl ?_
  refine a_get C fl_RX12_110 (i := 236) kd_236 (hid 236 (by decide)) (v := .ref (ad 267)) rfl dX12_keepsRow_14 ?_
  refine a_iload_n C dX12_keepsRow_17 (i := 1) rfl rfl ?_
  refine a_iald C (i := 267) 5 kd_267 (hid 267 (by decide)) (by decide) rfl (by rw [al_267]; decide) dX12_keepsRow_18 (v := 0) h_267_5 ?_
  refine a_iast C (i := 266) 5 kd_266 (hid 266 (by decide)) (by decide) rfl (by rw [al_266]; decide) dX12_keepsRow_19 ?_
  refine a_iinc C dX12_keepsRow_20 rfl (v := 6) rfl (by decide) rfl (vs1 := [some (.ref (ad 236)), some (.int 6)]) rfl ?_
  refine a_goto C dX12_keepsRow_23 (tgt := 2) rfl ?_
  refine a_iload_n C dX12_keepsRow_2 (i := 1) rfl rfl ?_
  refine a_bipush C dX12_keepsRow_3 (v := 29) rfl ?_
  refine a_ic_ge C dX12_keepsRow_5 (tgt := 26) rfl (fun h => absurd h (by decide)) (fun _ => ?_)
  refine a_aload_n C dX12_keepsRow_8 (i := 0) rfl rfl ?_
  refine a_get C fl_RX12_107 (i := 236) kd_236 (hid 236 (by decide)) (v := .ref (ad 266)) rfl dX12_keepsRow_9 ?_
  refine a_iload_n C dX12_keepsRow_12 (i := 1) rfl rfl ?_
  refine a_aload_n C dX12_keepsRow_13 (i := 0) rfl rfl ?_
  refine a_get C fl_RX12_110 (i := 236) kd_236 (hid 236 (by decide)) (v := .ref (ad 267)) rfl dX12_keepsRow_14 ?_
  refine a_iload_n C dX12_keepsRow_17 (i := 1) rfl rfl ?_
  refine a_iald C (i := 267) 6 kd_267 (hid 267 (by decide)) (by decide) rfl (by rw [al_267]; decide) dX12_keepsRow_18 (v := 0) h_267_6 ?_
  refine a_iast C (i := 266) 6 kd_266 (hid 266 (by decide)) (by decide) rfl (by rw [al_266]; decide) dX12_keepsRow_19 ?_
  refine a_iinc C dX12_keepsRow_20 rfl (v := 7) rfl (by decide) rfl (vs1 := [some (.ref (ad 236)), some (.int 7)]) rfl ?_
  refine a_goto C dX12_keepsRow_23 (tgt := 2) rfl ?_
  refine a_iload_n C dX12_keepsRow_2 (i := 1) rfl rfl ?_
  refine a_bipush C dX12_keepsRow_3 (v := 29) rfl ?_
  refine a_ic_ge C dX12_keepsRow_5 (tgt := 26) rfl (fun h => absurd h (by decide)) (fun _ => ?_)
  refine a_aload_n C dX12_keepsRow_8 (i := 0) rfl rfl ?_
  refine a_get C fl_RX12_107 (i := 236) kd_236 (hid 236 (by decide)) (v := .ref (ad 266)) rfl dX12_keepsRow_9 ?_
  refine a_iload_n C dX12_keepsRow_12 (i := 1) rfl rfl ?_
  refine a_aload_n C dX12_keepsRow_13 (i := 0) rfl rfl ?_
  refine a_get C fl_RX12_110 (i := 236) kd_236 (hid 236 (by decide)) (v := .ref (ad 267)) rfl dX12_keepsRow_14 ?_
  refine a_iload_n C dX12_keepsRow_17 (i := 1) rfl rfl ?_
  refine a_iald C (i := 267) 7 kd_267 (hid 267 (by decide)) (by decide) rfl (by rw [al_267]; decide) dX12_keepsRow_18 (v := 0) h_267_7 ?_
  refine a_iast C (i := 266) 7 kd_266 (hid 266 (by decide)) (by decide) rfl (by rw [al_266]; decide) dX12_keepsRow_19 ?_
  refine a_iinc C dX12_keepsRow_20 rfl (v := 8) rfl (by decide) rfl (vs1 := [some (.ref (ad 236)), some (.int 8)]) rfl ?_
  refine a_goto C dX12_keepsRow_23 (tgt := 2) rfl ?_
  refine a_iload_n C dX12_keepsRow_2 (i := 1) rfl rfl ?_
  refine a_bipush C dX12_keepsRow_3 (v := 29) rfl ?_
  refine a_ic_ge C dX12_keepsRow_5 (tgt := 26) rfl (fun h => absurd h (by decide)) (fun _ => ?_)
  refine a_aload_n C dX12_keepsRow_8 (i := 0) rfl rfl ?_
  refine a_get C fl_RX12_107 (i := 236) kd_236 (hid 236 (by decide)) (v := .ref (ad 266)) rfl dX12_keepsRow_9 ?_
  refine a_iload_n C dX12_keepsRow_12 (i := 1) rfl rfl ?_
  refine a_aload_n C dX12_keepsRow_13 (i := 0) rfl rfl ?_
  refine a_get C fl_RX12_110 (i := 236) kd_236 (hid 236 (by decide)) (v := .ref (ad 267)) rfl dX12_keepsRow_14 ?_
  refine a_iload_n C dX12_keepsRow_17 (i := 1) rfl rfl ?_
  refine a_iald C (i := 267) 8 kd_267 (hid 267 (by decide)) (by decide) rfl (by rw [al_267]; decide) dX12_keepsRow_18 (v := 0) h_267_8 ?_
  refine a_iast C (i := 266) 8 kd_266 (hid 266 (by decide)) (by decide) rfl (by rw [al_266]; decide) dX12_keepsRow_19 ?_
  refine a_iinc C dX12_keepsRow_20 rfl (v := 9) rfl (by decide) rfl (vs1 := [some (.ref (ad 236)), some (.int 9)]) rfl ?_
  refine a_goto C dX12_keepsRow_23 (tgt := 2) rfl ?_
  refine a_iload_n C dX12_keepsRow_2 (i := 1) rfl rfl ?_
  refine a_bipush C dX12_keepsRow_3 (v := 29) rfl ?_
  refine a_ic_ge C dX12_keepsRow_5 (tgt := 26) rfl (fun h => absurd h (by decide)) (fun _ => ?_)
  refine a_aload_n C dX12_keepsRow_8 (i := 0) rfl rfl ?_
  refine a_get C fl_RX12_107 (i := 236) kd_236 (hid 236 (by decide)) (v := .ref (ad 266)) rfl dX12_keepsRow_9 ?_
  refine a_iload_n C dX12_keepsRow_12 (i := 1) rfl rfl ?_
  refine a_aload_n C dX12_keepsRow_13 (i := 0) rfl rfl ?_
  refine a_get C fl_RX12_110 (i := 236) kd_236 (hid 236 (by decide)) (v := .ref (ad 267)) rfl dX12_keepsRow_14 ?_
  refine a_iload_n C dX12_keepsRow_17 (i := 1) rfl rfl ?_
  refine a_iald C (i := 267) 9 kd_267 (hid 267 (by decide)) (by decide) rfl (by rw [al_267]; decide) dX12_keepsRow_18 (v := 0) h_267_9 ?_
  refine a_iast C (i := 266) 9 kd_266 (hid 266 (by decide)) (by decide) rfl (by rw [al_266]; decide) dX12_keepsRow_19 ?_
  refine a_iinc C dX12_keepsRow_20 rfl (v := 10) rfl (by decide) rfl (vs1 := [some (.ref (ad 236)), some (.int 10)]) rfl ?_
  refine a_goto C dX12_keepsRow_23 (tgt := 2) rfl ?_
  refine a_iload_n C dX12_keepsRow_2 (i := 1) rfl rfl ?_
  refine a_bipush C dX12_keepsRow_3 (v := 29) rfl ?_
  refine a_ic_ge C dX12_keepsRow_5 (tgt := 26) rfl (fun h => absurd h (by decide)) (fun _ => ?_)
  refine a_aload_n C dX12_keepsRow_8 (i := 0) rfl rfl ?_
  refine a_get C fl_RX12_107 (i := 236) kd_236 (hid 236 (by decide)) (v := .ref (ad 266)) rfl dX12_keepsRow_9 ?_
  refine a_iload_n C dX12_keepsRow_12 (i := 1) rfl rfl ?_
  refine a_aload_n C dX12_keepsRow_13 (i := 0) rfl rfl ?_
  refine a_get C fl_RX12_110 (i := 236) kd_236 (hid 236 (by decide)) (v := .ref (ad 267)) rfl dX12_keepsRow_14 ?_
  refine a_iload_n C dX12_keepsRow_17 (i := 1) rfl rfl ?_
  refine a_iald C (i := 267) 10 kd_267 (hid 267 (by decide)) (by decide) rfl (by rw [al_267]; decide) dX12_keepsRow_18 (v := 0) h_267_10 ?_
  refine a_iast C (i := 266) 10 kd_266 (hid 266 (by decide)) (by decide) rfl (by rw [al_266]; decide) dX12_keepsRow_19 ?_
  refine a_iinc C dX12_keepsRow_20 rfl (v := 11) rfl (by decide) rfl (vs1 := [some (.ref (ad 236)), some (.int 11)]) rfl ?_
  refine a_goto C dX12_keepsRow_23 (tgt := 2) rfl ?_
  refine a_iload_n C dX12_keepsRow_2 (i := 1) rfl rfl ?_
  refine a_bipush C dX12_keepsRow_3 (v := 29) rfl ?_
  refine a_ic_ge C dX12_keepsRow_5 (tgt := 26) rfl (fun h => absurd h (by decide)) (fun _ => ?_)
  refine a_aload_n C dX12_keepsRow_8 (i := 0) rfl rfl ?_
  refine a_get C fl_RX12_107 (i := 236) kd_236 (hid 236 (by decide)) (v := .ref (ad 266)) rfl dX12_keepsRow_9 ?_
  refine a_iload_n C dX12_keepsRow_12 (i := 1) rfl rfl ?_
  refine a_aload_n C dX12_keepsRow_13 (i := 0) rfl rfl ?_
  refine a_get C fl_RX12_110 (i := 236) kd_236 (hid 236 (by decide)) (v := .ref (ad 267)) rfl dX12_keepsRow_14 ?_
  refine a_iload_n C dX12_keepsRow_17 (i := 1) rfl rfl ?_
  refine a_iald C (i := 267) 11 kd_267 (hid 267 (by decide)) (by decide) rfl (by rw [al_267]; decide) dX12_keepsRow_18 (v := 0) h_267_11 ?_
  refine a_iast C (i := 266) 11 kd_266 (hid 266 (by decide)) (by decide) rfl (by rw [al_266]; decide) dX12_keepsRow_19 ?_
  refine a_iinc C dX12_keepsRow_20 rfl (v := 12) rfl (by decide) rfl (vs1 := [some (.ref (ad 236)), some (.int 12)]) rfl ?_
  refine a_goto C dX12_keepsRow_23 (tgt := 2) rfl ?_
  refine a_iload_n C dX12_keepsRow_2 (i := 1) rfl rfl ?_
  refine a_bipush C dX12_keepsRow_3 (v := 29) rfl ?_
  refine a_ic_ge C dX12_keepsRow_5 (tgt := 26) rfl (fun h => absurd h (by decide)) (fun _ => ?_)
  refine a_aload_n C dX12_keepsRow_8 (i := 0) rfl rfl ?_
  refine a_get C fl_RX12_107 (i := 236) kd_236 (hid 236 (by decide)) (v := .ref (ad 266)) rfl dX12_keepsRow_9 ?_
  refine a_iload_n C dX12_keepsRow_12 (i := 1) rfl rfl ?_
  refine a_aload_n C dX12_keepsRow_13 (i := 0) rfl rfl ?_
  refine a_get C fl_RX12_110 (i := 236) kd_236 (hid 236 (by decide)) (v := .ref (ad 267)) rfl dX12_keepsRow_14 ?_
  refine a_iload_n C dX12_keepsRow_17 (i := 1) rfl rfl ?_
  refine a_iald C (i := 267) 12 kd_267 (hid 267 (by decide)) (by decide) rfl (by rw [al_267]; decide) dX12_keepsRow_18 (v := 0) h_267_12 ?_
  refine a_iast C (i := 266) 12 kd_266 (hid 266 (by decide)) (by decide) rfl (by rw [al_266]; decide) dX12_keepsRow_19 ?_
  refine a_iinc C dX12_keepsRow_20 rfl (v := 13) rfl (by decide) rfl (vs1 := [some (.ref (ad 236)), some (.int 13)]) rfl ?_
  refine a_goto C dX12_keepsRow_23 (tgt := 2) rfl ?_
  refine a_iload_n C dX12_keepsRow_2 (i := 1) rfl rfl ?_
  refine a_bipush C dX12_keepsRow_3 (v := 29) rfl ?_
  refine a_ic_ge C dX12_keepsRow_5 (tgt := 26) rfl (fun h => absurd h (by decide)) (fun _ => ?_)
  refine a_aload_n C dX12_keepsRow_8 (i := 0) rfl rfl ?_
  refine a_get C fl_RX12_107 (i := 236) kd_236 (hid 236 (by decide)) (v := .ref (ad 266)) rfl dX12_keepsRow_9 ?_
  refine a_iload_n C dX12_keepsRow_12 (i := 1) rfl rfl ?_
  refine a_aload_n C dX12_keepsRow_13 (i := 0) rfl rfl ?_
  refine a_get C fl_RX12_110 (i := 236) kd_236 (hid 236 (by decide)) (v := .ref (ad 267)) rfl dX12_keepsRow_14 ?_
  refine a_iload_n C dX12_keepsRow_17 (i := 1) rfl rfl ?_
  refine a_iald C (i := 267) 13 kd_267 (hid 267 (by decide)) (by decide) rfl (by rw [al_267]; decide) dX12_keepsRow_18 (v := 0) h_267_13 ?_
  refine a_iast C (i := 266) 13 kd_266 (hid 266 (by decide)) (by decide) rfl (by rw [al_266]; decide) dX12_keepsRow_19 ?_
  refine a_iinc C dX12_keepsRow_20 rfl (v := 14) rfl (by decide) rfl (vs1 := [some (.ref (ad 236)), some (.int 14)]) rfl ?_
  refine a_goto C dX12_keepsRow_23 (tgt := 2) rfl ?_
  refine a_iload_n C dX12_keepsRow_2 (i := 1) rfl rfl ?_
  refine a_bipush C dX12_keepsRow_3 (v := 29) rfl ?_
  refine a_ic_ge C dX12_keepsRow_5 (tgt := 26) rfl (fun h => absurd h (by decide)) (fun _ => ?_)
  refine a_aload_n C dX12_keepsRow_8 (i := 0) rfl rfl ?_
  refine a_get C fl_RX12_107 (i := 236) kd_236 (hid 236 (by decide)) (v := .ref (ad 266)) rfl dX12_keepsRow_9 ?_
  refine a_iload_n C dX12_keepsRow_12 (i := 1) rfl rfl ?_
  refine a_aload_n C dX12_keepsRow_13 (i := 0) rfl rfl ?_
  refine a_get C fl_RX12_110 (i := 236) kd_236 (hid 236 (by decide)) (v := .ref (ad 267)) rfl dX12_keepsRow_14 ?_
  refine a_iload_n C dX12_keepsRow_17 (i := 1) rfl rfl ?_
  refine a_iald C (i := 267) 14 kd_267 (hid 267 (by decide)) (by decide) rfl (by rw [al_267]; decide) dX12_keepsRow_18 (v := 0) h_267_14 ?_
  refine a_iast C (i := 266) 14 kd_266 (hid 266 (by decide)) (by decide) rfl (by rw [al_266]; decide) dX12_keepsRow_19 ?_
  refine a_iinc C dX12_keepsRow_20 rfl (v := 15) rfl (by decide) rfl (vs1 := [some (.ref (ad 236)), some (.int 15)]) rfl ?_
  refine a_goto C dX12_keepsRow_23 (tgt := 2) rfl ?_
  refine a_iload_n C dX12_keepsRow_2 (i := 1) rfl rfl ?_
  refine a_bipush C dX12_keepsRow_3 (v := 29) rfl ?_
  refine a_ic_ge C dX12_keepsRow_5 (tgt := 26) rfl (fun h => absurd h (by decide)) (fun _ => ?_)
  refine a_aload_n C dX12_keepsRow_8 (i := 0) rfl rfl ?_
  refine a_get C fl_RX12_107 (i := 236) kd_236 (hid 236 (by decide)) (v := .ref (ad 266)) rfl dX12_keepsRow_9 ?_
  refine a_iload_n C dX12_keepsRow_12 (i := 1) rfl rfl ?_
  refine a_aload_n C dX12_keepsRow_13 (i := 0) rfl rfl ?_
  refine a_get C fl_RX12_110 (i := 236) kd_236 (hid 236 (by decide)) (v := .ref (ad 267)) rfl dX12_keepsRow_14 ?_
  refine a_iload_n C dX12_keepsRow_17 (i := 1) rfl rfl ?_
  refine a_iald C (i := 267) 15 kd_267 (hid 267 (by decide)) (by decide) rfl (by rw [al_267]; decide) dX12_keepsRow_18 (v := 0) h_267_15 ?_
  refine a_iast C (i := 266) 15 kd_266 (hid 266 (by decide)) (by decide) rfl (by rw [al_266]; decide) dX12_keepsRow_19 ?_
  refine a_iinc C dX12_keepsRow_20 rfl (v := 16) rfl (by decide) rfl (vs1 := [some (.ref (ad 236)), some (.int 16)]) rfl ?_
  refine a_goto C dX12_keepsRow_23 (tgt := 2) rfl ?_
  refine a_iload_n C dX12_keepsRow_2 (i := 1) rfl rfl ?_
  refine a_bipush C dX12_keepsRow_3 (v := 29) rfl ?_
  refine a_ic_ge C dX12_keepsRow_5 (tgt := 26) rfl (fun h => absurd h (by decide)) (fun _ => ?_)
  refine a_aload_n C dX12_keepsRow_8 (i := 0) rfl rfl ?_
  refine a_get C fl_RX12_107 (i := 236) kd_236 (hid 236 (by decide)) (v := .ref (ad 266)) rfl dX12_keepsRow_9 ?_
  refine a_iload_n C dX12_keepsRow_12 (i := 1) rfl rfl ?_
  refine a_aload_n C dX12_keepsRow_13 (i := 0) rfl rfl ?_
  refine a_get C fl_RX12_110 (i := 236) kd_236 (hid 236 (by decide)) (v := .ref (ad 267)) rfl dX12_keepsRow_14 ?_
  refine a_iload_n C dX12_keepsRow_17 (i := 1) rfl rfl ?_
  refine a_iald C (i := 267) 16 kd_267 (hid 267 (by decide)) (by decide) rfl (by rw [al_267]; decide) dX12_keepsRow_18 (v := 0) h_267_16 ?_
  refine a_iast C (i := 266) 16 kd_266 (hid 266 (by decide)) (by decide) rfl (by rw [al_266]; decide) dX12_keepsRow_19 ?_
  refine a_iinc C dX12_keepsRow_20 rfl (v := 17) rfl (by decide) rfl (vs1 := [some (.ref (ad 236)), some (.int 17)]) rfl ?_
  refine a_goto C dX12_keepsRow_23 (tgt := 2) rfl ?_
  refine a_iload_n C dX12_keepsRow_2 (i := 1) rfl rfl ?_
  refine a_bipush C dX12_keepsRow_3 (v := 29) rfl ?_
  refine a_ic_ge C dX12_keepsRow_5 (tgt := 26) rfl (fun h => absurd h (by decide)) (fun _ => ?_)
  refine a_aload_n C dX12_keepsRow_8 (i := 0) rfl rfl ?_
  refine a_get C fl_RX12_107 (i := 236) kd_236 (hid 236 (by decide)) (v := .ref (ad 266)) rfl dX12_keepsRow_9 ?_
  refine a_iload_n C dX12_keepsRow_12 (i := 1) rfl rfl ?_
  refine a_aload_n C dX12_keepsRow_13 (i := 0) rfl rfl ?_
  refine a_get C fl_RX12_110 (i := 236) kd_236 (hid 236 (by decide)) (v := .ref (ad 267)) rfl dX12_keepsRow_14 ?_
  refine a_iload_n C dX12_keepsRow_17 (i := 1) rfl rfl ?_
  refine a_iald C (i := 267) 17 kd_267 (hid 267 (by decide)) (by decide) rfl (by rw [al_267]; decide) dX12_keepsRow_18 (v := 0) h_267_17 ?_
  refine a_iast C (i := 266) 17 kd_266 (hid 266 (by decide)) (by decide) rfl (by rw [al_266]; decide) dX12_keepsRow_19 ?_
  refine a_iinc C dX12_keepsRow_20 rfl (v := 18) rfl (by decide) rfl (vs1 := [some (.ref (ad 236)), some (.int 18)]) rfl ?_
  refine a_goto C dX12_keepsRow_23 (tgt := 2) rfl ?_
  refine a_iload_n C dX12_keepsRow_2 (i := 1) rfl rfl ?_
  refine a_bipush C dX12_keepsRow_3 (v := 29) rfl ?_
  refine a_ic_ge C dX12_keepsRow_5 (tgt := 26) rfl (fun h => absurd h (by decide)) (fun _ => ?_)
  refine a_aload_n C dX12_keepsRow_8 (i := 0) rfl rfl ?_
  refine a_get C fl_RX12_107 (i := 236) kd_236 (hid 236 (by decide)) (v := .ref (ad 266)) rfl dX12_keepsRow_9 ?_
  refine a_iload_n C dX12_keepsRow_12 (i := 1) rfl rfl ?_
  refine a_aload_n C dX12_keepsRow_13 (i := 0) rfl rfl ?_
  refine a_get C fl_RX12_110 (i := 236) kd_236 (hid 236 (by decide)) (v := .ref (ad 267)) rfl dX12_keepsRow_14 ?_
  refine a_iload_n C dX12_keepsRow_17 (i := 1) rfl rfl ?_
  refine a_iald C (i := 267) 18 kd_267 (hid 267 (by decide)) (by decide) rfl (by rw [al_267]; decide) dX12_keepsRow_18 (v := 0) h_267_18 ?_
  refine a_iast C (i := 266) 18 kd_266 (hid 266 (by decide)) (by decide) rfl (by rw [al_266]; decide) dX12_keepsRow_19 ?_
  refine a_iinc C dX12_keepsRow_20 rfl (v := 19) rfl (by decide) rfl (vs1 := [some (.ref (ad 236)), some (.int 19)]) rfl ?_
  refine a_goto C dX12_keepsRow_23 (tgt := 2) rfl ?_
  refine a_iload_n C dX12_keepsRow_2 (i := 1) rfl rfl ?_
  refine a_bipush C dX12_keepsRow_3 (v := 29) rfl ?_
  refine a_ic_ge C dX12_keepsRow_5 (tgt := 26) rfl (fun h => absurd h (by decide)) (fun _ => ?_)
  refine a_aload_n C dX12_keepsRow_8 (i := 0) rfl rfl ?_
  refine a_get C fl_RX12_107 (i := 236) kd_236 (hid 236 (by decide)) (v := .ref (ad 266)) rfl dX12_keepsRow_9 ?_
  refine a_iload_n C dX12_keepsRow_12 (i := 1) rfl rfl ?_
  refine a_aload_n C dX12_keepsRow_13 (i := 0) rfl rfl ?_
  refine a_get C fl_RX12_110 (i := 236) kd_236 (hid 236 (by decide)) (v := .ref (ad 267)) rfl dX12_keepsRow_14 ?_
  refine a_iload_n C dX12_keepsRow_17 (i := 1) rfl rfl ?_
  refine a_iald C (i := 267) 19 kd_267 (hid 267 (by decide)) (by decide) rfl (by rw [al_267]; decide) dX12_keepsRow_18 (v := 0) h_267_19 ?_
  refine a_iast C (i := 266) 19 kd_266 (hid 266 (by decide)) (by decide) rfl (by rw [al_266]; decide) dX12_keepsRow_19 ?_
  refine a_iinc C dX12_keepsRow_20 rfl (v := 20) rfl (by decide) rfl (vs1 := [some (.ref (ad 236)), some (.int 20)]) rfl ?_
  refine a_goto C dX12_keepsRow_23 (tgt := 2) rfl ?_
  refine a_iload_n C dX12_keepsRow_2 (i := 1) rfl rfl ?_
  refine a_bipush C dX12_keepsRow_3 (v := 29) rfl ?_
  refine a_ic_ge C dX12_keepsRow_5 (tgt := 26) rfl (fun h => absurd h (by decide)) (fun _ => ?_)
  refine a_aload_n C dX12_keepsRow_8 (i := 0) rfl rfl ?_
  refine a_get C fl_RX12_107 (i := 236) kd_236 (hid 236 (by decide)) (v := .ref (ad 266)) rfl dX12_keepsRow_9 ?_
  refine a_iload_n C dX12_keepsRow_12 (i := 1) rfl rfl ?_
  refine a_aload_n C dX12_keepsRow_13 (i := 0) rfl rfl ?_
  refine a_get C fl_RX12_110 (i := 236) kd_236 (hid 236 (by decide)) (v := .ref (ad 267)) rfl dX12_keepsRow_14 ?_
  refine a_iload_n C dX12_keepsRow_17 (i := 1) rfl rfl ?_
  refine a_iald C (i := 267) 20 kd_267 (hid 267 (by decide)) (by decide) rfl (by rw [al_267]; decide) dX12_keepsRow_18 (v := 0) h_267_20 ?_
  refine a_iast C (i := 266) 20 kd_266 (hid 266 (by decide)) (by decide) rfl (by rw [al_266]; decide) dX12_keepsRow_19 ?_
  refine a_iinc C dX12_keepsRow_20 rfl (v := 21) rfl (by decide) rfl (vs1 := [some (.ref (ad 236)), some (.int 21)]) rfl ?_
  refine a_goto C dX12_keepsRow_23 (tgt := 2) rfl ?_
  refine a_iload_n C dX12_keepsRow_2 (i := 1) rfl rfl ?_
  refine a_bipush C dX12_keepsRow_3 (v := 29) rfl ?_
  refine a_ic_ge C dX12_keepsRow_5 (tgt := 26) rfl (fun h => absurd h (by decide)) (fun _ => ?_)
  refine a_aload_n C dX12_keepsRow_8 (i := 0) rfl rfl ?_
  refine a_get C fl_RX12_107 (i := 236) kd_236 (hid 236 (by decide)) (v := .ref (ad 266)) rfl dX12_keepsRow_9 ?_
  refine a_iload_n C dX12_keepsRow_12 (i := 1) rfl rfl ?_
  refine a_aload_n C dX12_keepsRow_13 (i := 0) rfl rfl ?_
  refine a_get C fl_RX12_110 (i := 236) kd_236 (hid 236 (by decide)) (v := .ref (ad 267)) rfl dX12_keepsRow_14 ?_
  refine a_iload_n C dX12_keepsRow_17 (i := 1) rfl rfl ?_
  refine a_iald C (i := 267) 21 kd_267 (hid 267 (by decide)) (by decide) rfl (by rw [al_267]; decide) dX12_keepsRow_18 (v := 0) h_267_21 ?_
  refine a_iast C (i := 266) 21 kd_266 (hid 266 (by decide)) (by decide) rfl (by rw [al_266]; decide) dX12_keepsRow_19 ?_
  refine a_iinc C dX12_keepsRow_20 rfl (v := 22) rfl (by decide) rfl (vs1 := [some (.ref (ad 236)), some (.int 22)]) rfl ?_
  refine a_goto C dX12_keepsRow_23 (tgt := 2) rfl ?_
  refine a_iload_n C dX12_keepsRow_2 (i := 1) rfl rfl ?_
  refine a_bipush C dX12_keepsRow_3 (v := 29) rfl ?_
  refine a_ic_ge C dX12_keepsRow_5 (tgt := 26) rfl (fun h => absurd h (by decide)) (fun _ => ?_)
  refine a_aload_n C dX12_keepsRow_8 (i := 0) rfl rfl ?_
  refine a_get C fl_RX12_107 (i := 236) kd_236 (hid 236 (by decide)) (v := .ref (ad 266)) rfl dX12_keepsRow_9 ?_
  refine a_iload_n C dX12_keepsRow_12 (i := 1) rfl rfl ?_
  refine a_aload_n C dX12_keepsRow_13 (i := 0) rfl rfl ?_
  refine a_get C fl_RX12_110 (i := 236) kd_236 (hid 236 (by decide)) (v := .ref (ad 267)) rfl dX12_keepsRow_14 ?_
  refine a_iload_n C dX12_keepsRow_17 (i := 1) rfl rfl ?_
  refine a_iald C (i := 267) 22 kd_267 (hid 267 (by decide)) (by decide) rfl (by rw [al_267]; decide) dX12_keepsRow_18 (v := 0) h_267_22 ?_
  refine a_iast C (i := 266) 22 kd_266 (hid 266 (by decide)) (by decide) rfl (by rw [al_266]; decide) dX12_keepsRow_19 ?_
  refine a_iinc C dX12_keepsRow_20 rfl (v := 23) rfl (by decide) rfl (vs1 := [some (.ref (ad 236)), some (.int 23)]) rfl ?_
  refine a_goto C dX12_keepsRow_23 (tgt := 2) rfl ?_
  refine a_iload_n C dX12_keepsRow_2 (i := 1) rfl rfl ?_
  refine a_bipush C dX12_keepsRow_3 (v := 29) rfl ?_
  refine a_ic_ge C dX12_keepsRow_5 (tgt := 26) rfl (fun h => absurd h (by decide)) (fun _ => ?_)
  refine a_aload_n C dX12_keepsRow_8 (i := 0) rfl rfl ?_
  refine a_get C fl_RX12_107 (i := 236) kd_236 (hid 236 (by decide)) (v := .ref (ad 266)) rfl dX12_keepsRow_9 ?_
  refine a_iload_n C dX12_keepsRow_12 (i := 1) rfl rfl ?_
  refine a_aload_n C dX12_keepsRow_13 (i := 0) rfl rfl ?_
  refine a_get C fl_RX12_110 (i := 236) kd_236 (hid 236 (by decide)) (v := .ref (ad 267)) rfl dX12_keepsRow_14 ?_
  refine a_iload_n C dX12_keepsRow_17 (i := 1) rfl rfl ?_
  refine a_iald C (i := 267) 23 kd_267 (hid 267 (by decide)) (by decide) rfl (by rw [al_267]; decide) dX12_keepsRow_18 (v := 0) h_267_23 ?_
  refine a_iast C (i := 266) 23 kd_266 (hid 266 (by decide)) (by decide) rfl (by rw [al_266]; decide) dX12_keepsRow_19 ?_
  refine a_iinc C dX12_keepsRow_20 rfl (v := 24) rfl (by decide) rfl (vs1 := [some (.ref (ad 236)), some (.int 24)]) rfl ?_
  refine a_goto C dX12_keepsRow_23 (tgt := 2) rfl ?_
  refine a_iload_n C dX12_keepsRow_2 (i := 1) rfl rfl ?_
  refine a_bipush C dX12_keepsRow_3 (v := 29) rfl ?_
  refine a_ic_ge C dX12_keepsRow_5 (tgt := 26) rfl (fun h => absurd h (by decide)) (fun _ => ?_)
  refine a_aload_n C dX12_keepsRow_8 (i := 0) rfl rfl ?_
  refine a_get C fl_RX12_107 (i := 236) kd_236 (hid 236 (by decide)) (v := .ref (ad 266)) rfl dX12_keepsRow_9 ?_
  refine a_iload_n C dX12_keepsRow_12 (i := 1) rfl rfl ?_
  refine a_aload_n C dX12_keepsRow_13 (i := 0) rfl rfl ?_
  refine a_get C fl_RX12_110 (i := 236) kd_236 (hid 236 (by decide)) (v := .ref (ad 267)) rfl dX12_keepsRow_14 ?_
  refine a_iload_n C dX12_keepsRow_17 (i := 1) rfl rfl ?_
  refine a_iald C (i := 267) 24 kd_267 (hid 267 (by decide)) (by decide) rfl (by rw [al_267]; decide) dX12_keepsRow_18 (v := 0) h_267_24 ?_
  refine a_iast C (i := 266) 24 kd_266 (hid 266 (by decide)) (by decide) rfl (by rw [al_266]; decide) dX12_keepsRow_19 ?_
  refine a_iinc C dX12_keepsRow_20 rfl (v := 25) rfl (by decide) rfl (vs1 := [some (.ref (ad 236)), some (.int 25)]) rfl ?_
  refine a_goto C dX12_keepsRow_23 (tgt := 2) rfl ?_
  refine a_iload_n C dX12_keepsRow_2 (i := 1) rfl rfl ?_
  refine a_bipush C dX12_keepsRow_3 (v := 29) rfl ?_
  refine a_ic_ge C dX12_keepsRow_5 (tgt := 26) rfl (fun h => absurd h (by decide)) (fun _ => ?_)
  refine a_aload_n C dX12_keepsRow_8 (i := 0) rfl rfl ?_
  refine a_get C fl_RX12_107 (i := 236) kd_236 (hid 236 (by decide)) (v := .ref (ad 266)) rfl dX12_keepsRow_9 ?_
  refine a_iload_n C dX12_keepsRow_12 (i := 1) rfl rfl ?_
  refine a_aload_n C dX12_keepsRow_13 (i := 0) rfl rfl ?_
  refine a_get C fl_RX12_110 (i := 236) kd_236 (hid 236 (by decide)) (v := .ref (ad 267)) rfl dX12_keepsRow_14 ?_
  refine a_iload_n C dX12_keepsRow_17 (i := 1) rfl rfl ?_
  refine a_iald C (i := 267) 25 kd_267 (hid 267 (by decide)) (by decide) rfl (by rw [al_267]; decide) dX12_keepsRow_18 (v := 0) h_267_25 ?_
  refine a_iast C (i := 266) 25 kd_266 (hid 266 (by decide)) (by decide) rfl (by rw [al_266]; decide) dX12_keepsRow_19 ?_
  refine a_iinc C dX12_keepsRow_20 rfl (v := 26) rfl (by decide) rfl (vs1 := [some (.ref (ad 236)), some (.int 26)]) rfl ?_
  refine a_goto C dX12_keepsRow_23 (tgt := 2) rfl ?_
  refine a_iload_n C dX12_keepsRow_2 (i := 1) rfl rfl ?_
  refine a_bipush C dX12_keepsRow_3 (v := 29) rfl ?_
  refine a_ic_ge C dX12_keepsRow_5 (tgt := 26) rfl (fun h => absurd h (by decide)) (fun _ => ?_)
  refine a_aload_n C dX12_keepsRow_8 (i := 0) rfl rfl ?_
  refine a_get C fl_RX12_107 (i := 236) kd_236 (hid 236 (by decide)) (v := .ref (ad 266)) rfl dX12_keepsRow_9 ?_
  refine a_iload_n C dX12_keepsRow_12 (i := 1) rfl rfl ?_
  refine a_aload_n C dX12_keepsRow_13 (i := 0) rfl rfl ?_
  refine a_get C fl_RX12_110 (i := 236) kd_236 (hid 236 (by decide)) (v := .ref (ad 267)) rfl dX12_keepsRow_14 ?_
  refine a_iload_n C dX12_keepsRow_17 (i := 1) rfl rfl ?_
  refine a_iald C (i := 267) 26 kd_267 (hid 267 (by decide)) (by decide) rfl (by rw [al_267]; decide) dX12_keepsRow_18 (v := (-2)) h_267_26 ?_
  refine a_iast C (i := 266) 26 kd_266 (hid 266 (by decide)) (by decide) rfl (by rw [al_266]; decide) dX12_keepsRow_19 ?_
  refine a_iinc C dX12_keepsRow_20 rfl (v := 27) rfl (by decide) rfl (vs1 := [some (.ref (ad 236)), some (.int 27)]) rfl ?_
  refine a_goto C dX12_keepsRow_23 (tgt := 2) rfl ?_
  refine a_iload_n C dX12_keepsRow_2 (i := 1) rfl rfl ?_
  refine a_bipush C dX12_keepsRow_3 (v := 29) rfl ?_
  refine a_ic_ge C dX12_keepsRow_5 (tgt := 26) rfl (fun h => absurd h (by decide)) (fun _ => ?_)
  refine a_aload_n C dX12_keepsRow_8 (i := 0) rfl rfl ?_
  refine a_get C fl_RX12_107 (i := 236) kd_236 (hid 236 (by decide)) (v := .ref (ad 266)) rfl dX12_keepsRow_9 ?_
  refine a_iload_n C dX12_keepsRow_12 (i := 1) rfl rfl ?_
  refine a_aload_n C dX12_keepsRow_13 (i := 0) rfl rfl ?_
  refine a_get C fl_RX12_110 (i := 236) kd_236 (hid 236 (by decide)) (v := .ref (ad 267)) rfl dX12_keepsRow_14 ?_
  refine a_iload_n C dX12_keepsRow_17 (i := 1) rfl rfl ?_
  refine a_iald C (i := 267) 27 kd_267 (hid 267 (by decide)) (by decide) rfl (by rw [al_267]; decide) dX12_keepsRow_18 (v := 0) h_267_27 ?_
  refine a_iast C (i := 266) 27 kd_266 (hid 266 (by decide)) (by decide) rfl (by rw [al_266]; decide) dX12_keepsRow_19 ?_
  refine a_iinc C dX12_keepsRow_20 rfl (v := 28) rfl (by decide) rfl (vs1 := [some (.ref (ad 236)), some (.int 28)]) rfl ?_
  refine a_goto C dX12_keepsRow_23 (tgt := 2) rfl ?_
  refine a_iload_n C dX12_keepsRow_2 (i := 1) rfl rfl ?_
  refine a_bipush C dX12_keepsRow_3 (v := 29) rfl ?_
  refine a_ic_ge C dX12_keepsRow_5 (tgt := 26) rfl (fun h => absurd h (by decide)) (fun _ => ?_)
  refine a_aload_n C dX12_keepsRow_8 (i := 0) rfl rfl ?_
  refine a_get C fl_RX12_107 (i := 236) kd_236 (hid 236 (by decide)) (v := .ref (ad 266)) rfl dX12_keepsRow_9 ?_
  refine a_iload_n C dX12_keepsRow_12 (i := 1) rfl rfl ?_
  refine a_aload_n C dX12_keepsRow_13 (i := 0) rfl rfl ?_
  refine a_get C fl_RX12_110 (i := 236) kd_236 (hid 236 (by decide)) (v := .ref (ad 267)) rfl dX12_keepsRow_14 ?_
  refine a_iload_n C dX12_keepsRow_17 (i := 1) rfl rfl ?_
  refine a_iald C (i := 267) 28 kd_267 (hid 267 (by decide)) (by decide) rfl (by rw [al_267]; decide) dX12_keepsRow_18 (v := (-1)) h_267_28 ?_
  refine a_iast C (i := 266) 28 kd_266 (hid 266 (by decide)) (by decide) rfl (by rw [al_266]; decide) dX12_keepsRow_19 ?_
  refine a_iinc C dX12_keepsRow_20 rfl (v := 29) rfl (by decide) rfl (vs1 := [some (.ref (ad 236)), some (.int 29)]) rfl ?_
  refine a_goto C dX12_keepsRow_23 (tgt := 2) rfl ?_
  refine a_iload_n C dX12_keepsRow_2 (i := 1) rfl rfl ?_
  refine a_bipush C dX12_keepsRow_3 (v := 29) rfl ?_
  refine a_ic_ge C dX12_keepsRow_5 (tgt := 26) rfl (fun _ => ?_) (fun h => absurd h (by decide))
  exact a_vret Rt dX12_keepsRow_26 (rfl)

def kb_cX12_init_0 : List Nat := [42, 183, 0, 7, 42, 17, 7, 208, 188, 8, 181, 0, 13, 42, 17, 7, 208, 188, 8, 181]
theorem ac_cX12_init_0 : AL cX12_init 0 kb_cX12_init_0 := AL.of (m := 20) (by decide +kernel)
theorem dX12_init_0 : decode cX12_init 0 = .ok (.aload_n 0, 1) := o42 ac_cX12_init_0 0 rfl
theorem dX12_init_1 : decode cX12_init 1 = .ok (.invokespecial 7, 3) := o183 ac_cX12_init_0 1 0 7 rfl
theorem dX12_init_4 : decode cX12_init 4 = .ok (.aload_n 0, 1) := o42 ac_cX12_init_0 4 rfl
theorem dX12_init_5 : decode cX12_init 5 = .ok (.sipush 2000, 3) := o17p ac_cX12_init_0 5 7 208 rfl rfl
theorem dX12_init_8 : decode cX12_init 8 = .ok (.newarray .byte, 2) := by decide +kernel
theorem dX12_init_10 : decode cX12_init 10 = .ok (.putfield 13, 3) := o181 ac_cX12_init_0 10 0 13 rfl
theorem dX12_init_13 : decode cX12_init 13 = .ok (.aload_n 0, 1) := o42 ac_cX12_init_0 13 rfl
theorem dX12_init_14 : decode cX12_init 14 = .ok (.sipush 2000, 3) := o17p ac_cX12_init_0 14 7 208 rfl rfl
theorem dX12_init_17 : decode cX12_init 17 = .ok (.newarray .byte, 2) := by decide +kernel
def kb_cX12_init_16 : List Nat := [208, 188, 8, 181, 0, 17, 42, 17, 1, 147, 188, 10, 181, 0, 20, 42, 17, 1, 147, 188]
theorem ac_cX12_init_16 : AL cX12_init 16 kb_cX12_init_16 := AL.of (m := 20) (by decide +kernel)
theorem dX12_init_19 : decode cX12_init 19 = .ok (.putfield 17, 3) := o181 ac_cX12_init_16 3 0 17 rfl
theorem dX12_init_22 : decode cX12_init 22 = .ok (.aload_n 0, 1) := o42 ac_cX12_init_16 6 rfl
theorem dX12_init_23 : decode cX12_init 23 = .ok (.sipush 403, 3) := o17p ac_cX12_init_16 7 1 147 rfl rfl
theorem dX12_init_26 : decode cX12_init 26 = .ok (.newarray .int, 2) := by decide +kernel
theorem dX12_init_28 : decode cX12_init 28 = .ok (.putfield 20, 3) := o181 ac_cX12_init_16 12 0 20 rfl
theorem dX12_init_31 : decode cX12_init 31 = .ok (.aload_n 0, 1) := o42 ac_cX12_init_16 15 rfl
def kb_cX12_init_32 : List Nat := [17, 1, 147, 188, 10, 181, 0, 24, 42, 17, 1, 147, 188, 10, 181, 0, 27, 42, 17, 1]
theorem ac_cX12_init_32 : AL cX12_init 32 kb_cX12_init_32 := AL.of (m := 20) (by decide +kernel)
theorem dX12_init_32 : decode cX12_init 32 = .ok (.sipush 403, 3) := o17p ac_cX12_init_32 0 1 147 rfl rfl
theorem dX12_init_35 : decode cX12_init 35 = .ok (.newarray .int, 2) := by decide +kernel
theorem dX12_init_37 : decode cX12_init 37 = .ok (.putfield 24, 3) := o181 ac_cX12_init_32 5 0 24 rfl
theorem dX12_init_40 : decode cX12_init 40 = .ok (.aload_n 0, 1) := o42 ac_cX12_init_32 8 rfl
theorem dX12_init_41 : decode cX12_init 41 = .ok (.sipush 403, 3) := o17p ac_cX12_init_32 9 1 147 rfl rfl
theorem dX12_init_44 : decode cX12_init 44 = .ok (.newarray .int, 2) := by decide +kernel
theorem dX12_init_46 : decode cX12_init 46 = .ok (.putfield 27, 3) := o181 ac_cX12_init_32 14 0 27 rfl
def kb_cX12_init_48 : List Nat := [27, 42, 17, 1, 147, 188, 11, 181, 0, 30, 42, 16, 20, 188, 11, 181, 0, 34, 42, 2]
theorem ac_cX12_init_48 : AL cX12_init 48 kb_cX12_init_48 := AL.of (m := 20) (by decide +kernel)
theorem dX12_init_49 : decode cX12_init 49 = .ok (.aload_n 0, 1) := o42 ac_cX12_init_48 1 rfl
theorem dX12_init_50 : decode cX12_init 50 = .ok (.sipush 403, 3) := o17p ac_cX12_init_48 2 1 147 rfl rfl
theorem dX12_init_53 : decode cX12_init 53 = .ok (.newarray .long, 2) := by decide +kernel
theorem dX12_init_55 : decode cX12_init 55 = .ok (.putfield 30, 3) := o181 ac_cX12_init_48 7 0 30 rfl
theorem dX12_init_58 : decode cX12_init 58 = .ok (.aload_n 0, 1) := o42 ac_cX12_init_48 10 rfl
theorem dX12_init_59 : decode cX12_init 59 = .ok (.bipush 20, 2) := o16p ac_cX12_init_48 11 20 rfl rfl
theorem dX12_init_61 : decode cX12_init 61 = .ok (.newarray .long, 2) := by decide +kernel
theorem dX12_init_63 : decode cX12_init 63 = .ok (.putfield 34, 3) := o181 ac_cX12_init_48 15 0 34 rfl
def kb_cX12_init_64 : List Nat := [0, 34, 42, 2, 181, 0, 37, 42, 16, 12, 188, 11, 181, 0, 40, 42, 5, 188, 10, 181]
theorem ac_cX12_init_64 : AL cX12_init 64 kb_cX12_init_64 := AL.of (m := 20) (by decide +kernel)
theorem dX12_init_66 : decode cX12_init 66 = .ok (.aload_n 0, 1) := o42 ac_cX12_init_64 2 rfl
theorem dX12_init_67 : decode cX12_init 67 = .ok (.iconst (-1), 1) := o2 ac_cX12_init_64 3 rfl
theorem dX12_init_68 : decode cX12_init 68 = .ok (.putfield 37, 3) := o181 ac_cX12_init_64 4 0 37 rfl
theorem dX12_init_71 : decode cX12_init 71 = .ok (.aload_n 0, 1) := o42 ac_cX12_init_64 7 rfl
theorem dX12_init_72 : decode cX12_init 72 = .ok (.bipush 12, 2) := o16p ac_cX12_init_64 8 12 rfl rfl
theorem dX12_init_74 : decode cX12_init 74 = .ok (.newarray .long, 2) := by decide +kernel
theorem dX12_init_76 : decode cX12_init 76 = .ok (.putfield 40, 3) := o181 ac_cX12_init_64 12 0 40 rfl
theorem dX12_init_79 : decode cX12_init 79 = .ok (.aload_n 0, 1) := o42 ac_cX12_init_64 15 rfl
def kb_cX12_init_80 : List Nat := [5, 188, 10, 181, 0, 43, 42, 16, 14, 188, 10, 181, 0, 46, 42, 16, 14, 188, 10, 181]
theorem ac_cX12_init_80 : AL cX12_init 80 kb_cX12_init_80 := AL.of (m := 20) (by decide +kernel)
theorem dX12_init_80 : decode cX12_init 80 = .ok (.iconst 2, 1) := o5 ac_cX12_init_80 0 rfl
theorem dX12_init_81 : decode cX12_init 81 = .ok (.newarray .int, 2) := by decide +kernel
theorem dX12_init_83 : decode cX12_init 83 = .ok (.putfield 43, 3) := o181 ac_cX12_init_80 3 0 43 rfl
theorem dX12_init_86 : decode cX12_init 86 = .ok (.aload_n 0, 1) := o42 ac_cX12_init_80 6 rfl
theorem dX12_init_87 : decode cX12_init 87 = .ok (.bipush 14, 2) := o16p ac_cX12_init_80 7 14 rfl rfl
theorem dX12_init_89 : decode cX12_init 89 = .ok (.newarray .int, 2) := by decide +kernel
theorem dX12_init_91 : decode cX12_init 91 = .ok (.putfield 46, 3) := o181 ac_cX12_init_80 11 0 46 rfl
theorem dX12_init_94 : decode cX12_init 94 = .ok (.aload_n 0, 1) := o42 ac_cX12_init_80 14 rfl
theorem dX12_init_95 : decode cX12_init 95 = .ok (.bipush 14, 2) := o16p ac_cX12_init_80 15 14 rfl rfl
theorem dX12_init_97 : decode cX12_init 97 = .ok (.newarray .int, 2) := by decide +kernel
def kb_cX12_init_96 : List Nat := [14, 188, 10, 181, 0, 49, 42, 16, 14, 188, 10, 181, 0, 52, 42, 5, 188, 10, 181, 0]
theorem ac_cX12_init_96 : AL cX12_init 96 kb_cX12_init_96 := AL.of (m := 20) (by decide +kernel)
theorem dX12_init_99 : decode cX12_init 99 = .ok (.putfield 49, 3) := o181 ac_cX12_init_96 3 0 49 rfl
theorem dX12_init_102 : decode cX12_init 102 = .ok (.aload_n 0, 1) := o42 ac_cX12_init_96 6 rfl
theorem dX12_init_103 : decode cX12_init 103 = .ok (.bipush 14, 2) := o16p ac_cX12_init_96 7 14 rfl rfl
theorem dX12_init_105 : decode cX12_init 105 = .ok (.newarray .int, 2) := by decide +kernel
theorem dX12_init_107 : decode cX12_init 107 = .ok (.putfield 52, 3) := o181 ac_cX12_init_96 11 0 52 rfl
theorem dX12_init_110 : decode cX12_init 110 = .ok (.aload_n 0, 1) := o42 ac_cX12_init_96 14 rfl
theorem dX12_init_111 : decode cX12_init 111 = .ok (.iconst 2, 1) := o5 ac_cX12_init_96 15 rfl
theorem dX12_init_112 : decode cX12_init 112 = .ok (.newarray .int, 2) := by decide +kernel
def kb_cX12_init_112 : List Nat := [188, 10, 181, 0, 55, 42, 16, 10, 188, 10, 181, 0, 58, 42, 16, 80, 188, 10, 181, 0]
theorem ac_cX12_init_112 : AL cX12_init 112 kb_cX12_init_112 := AL.of (m := 20) (by decide +kernel)
theorem dX12_init_114 : decode cX12_init 114 = .ok (.putfield 55, 3) := o181 ac_cX12_init_112 2 0 55 rfl
theorem dX12_init_117 : decode cX12_init 117 = .ok (.aload_n 0, 1) := o42 ac_cX12_init_112 5 rfl
theorem dX12_init_118 : decode cX12_init 118 = .ok (.bipush 10, 2) := o16p ac_cX12_init_112 6 10 rfl rfl
theorem dX12_init_120 : decode cX12_init 120 = .ok (.newarray .int, 2) := by decide +kernel
theorem dX12_init_122 : decode cX12_init 122 = .ok (.putfield 58, 3) := o181 ac_cX12_init_112 10 0 58 rfl
theorem dX12_init_125 : decode cX12_init 125 = .ok (.aload_n 0, 1) := o42 ac_cX12_init_112 13 rfl
theorem dX12_init_126 : decode cX12_init 126 = .ok (.bipush 80, 2) := o16p ac_cX12_init_112 14 80 rfl rfl
theorem dX12_init_128 : decode cX12_init 128 = .ok (.newarray .int, 2) := by decide +kernel
def kb_cX12_init_128 : List Nat := [188, 10, 181, 0, 61, 42, 5, 188, 10, 181, 0, 64, 42, 5, 188, 10, 181, 0, 67, 42]
theorem ac_cX12_init_128 : AL cX12_init 128 kb_cX12_init_128 := AL.of (m := 20) (by decide +kernel)
theorem dX12_init_130 : decode cX12_init 130 = .ok (.putfield 61, 3) := o181 ac_cX12_init_128 2 0 61 rfl
theorem dX12_init_133 : decode cX12_init 133 = .ok (.aload_n 0, 1) := o42 ac_cX12_init_128 5 rfl
theorem dX12_init_134 : decode cX12_init 134 = .ok (.iconst 2, 1) := o5 ac_cX12_init_128 6 rfl
theorem dX12_init_135 : decode cX12_init 135 = .ok (.newarray .int, 2) := by decide +kernel
theorem dX12_init_137 : decode cX12_init 137 = .ok (.putfield 64, 3) := o181 ac_cX12_init_128 9 0 64 rfl
theorem dX12_init_140 : decode cX12_init 140 = .ok (.aload_n 0, 1) := o42 ac_cX12_init_128 12 rfl
theorem dX12_init_141 : decode cX12_init 141 = .ok (.iconst 2, 1) := o5 ac_cX12_init_128 13 rfl
theorem dX12_init_142 : decode cX12_init 142 = .ok (.newarray .int, 2) := by decide +kernel
def kb_cX12_init_144 : List Nat := [181, 0, 67, 42, 16, 8, 188, 10, 181, 0, 70, 42, 16, 8, 188, 10, 181, 0, 73, 42]
theorem ac_cX12_init_144 : AL cX12_init 144 kb_cX12_init_144 := AL.of (m := 20) (by decide +kernel)
theorem dX12_init_144 : decode cX12_init 144 = .ok (.putfield 67, 3) := o181 ac_cX12_init_144 0 0 67 rfl
theorem dX12_init_147 : decode cX12_init 147 = .ok (.aload_n 0, 1) := o42 ac_cX12_init_144 3 rfl
theorem dX12_init_148 : decode cX12_init 148 = .ok (.bipush 8, 2) := o16p ac_cX12_init_144 4 8 rfl rfl
theorem dX12_init_150 : decode cX12_init 150 = .ok (.newarray .int, 2) := by decide +kernel
theorem dX12_init_152 : decode cX12_init 152 = .ok (.putfield 70, 3) := o181 ac_cX12_init_144 8 0 70 rfl
theorem dX12_init_155 : decode cX12_init 155 = .ok (.aload_n 0, 1) := o42 ac_cX12_init_144 11 rfl
theorem dX12_init_156 : decode cX12_init 156 = .ok (.bipush 8, 2) := o16p ac_cX12_init_144 12 8 rfl rfl
theorem dX12_init_158 : decode cX12_init 158 = .ok (.newarray .int, 2) := by decide +kernel
def kb_cX12_init_160 : List Nat := [181, 0, 73, 42, 17, 1, 4, 188, 4, 181, 0, 76, 42, 17, 1, 4, 188, 10, 181, 0]
theorem ac_cX12_init_160 : AL cX12_init 160 kb_cX12_init_160 := AL.of (m := 20) (by decide +kernel)
theorem dX12_init_160 : decode cX12_init 160 = .ok (.putfield 73, 3) := o181 ac_cX12_init_160 0 0 73 rfl
theorem dX12_init_163 : decode cX12_init 163 = .ok (.aload_n 0, 1) := o42 ac_cX12_init_160 3 rfl
theorem dX12_init_164 : decode cX12_init 164 = .ok (.sipush 260, 3) := o17p ac_cX12_init_160 4 1 4 rfl rfl
theorem dX12_init_167 : decode cX12_init 167 = .ok (.newarray .boolean, 2) := by decide +kernel
theorem dX12_init_169 : decode cX12_init 169 = .ok (.putfield 76, 3) := o181 ac_cX12_init_160 9 0 76 rfl
theorem dX12_init_172 : decode cX12_init 172 = .ok (.aload_n 0, 1) := o42 ac_cX12_init_160 12 rfl
theorem dX12_init_173 : decode cX12_init 173 = .ok (.sipush 260, 3) := o17p ac_cX12_init_160 13 1 4 rfl rfl
theorem dX12_init_176 : decode cX12_init 176 = .ok (.newarray .int, 2) := by decide +kernel
def kb_cX12_init_176 : List Nat := [188, 10, 181, 0, 80, 42, 17, 1, 4, 188, 10, 181, 0, 83, 42, 17, 1, 4, 188, 10]
theorem ac_cX12_init_176 : AL cX12_init 176 kb_cX12_init_176 := AL.of (m := 20) (by decide +kernel)
theorem dX12_init_178 : decode cX12_init 178 = .ok (.putfield 80, 3) := o181 ac_cX12_init_176 2 0 80 rfl
theorem dX12_init_181 : decode cX12_init 181 = .ok (.aload_n 0, 1) := o42 ac_cX12_init_176 5 rfl
theorem dX12_init_182 : decode cX12_init 182 = .ok (.sipush 260, 3) := o17p ac_cX12_init_176 6 1 4 rfl rfl
theorem dX12_init_185 : decode cX12_init 185 = .ok (.newarray .int, 2) := by decide +kernel
theorem dX12_init_187 : decode cX12_init 187 = .ok (.putfield 83, 3) := o181 ac_cX12_init_176 11 0 83 rfl
theorem dX12_init_190 : decode cX12_init 190 = .ok (.aload_n 0, 1) := o42 ac_cX12_init_176 14 rfl
theorem dX12_init_191 : decode cX12_init 191 = .ok (.sipush 260, 3) := o17p ac_cX12_init_176 15 1 4 rfl rfl
theorem dX12_init_194 : decode cX12_init 194 = .ok (.newarray .int, 2) := by decide +kernel
def kb_cX12_init_192 : List Nat := [1, 4, 188, 10, 181, 0, 86, 42, 17, 1, 4, 188, 10, 181, 0, 89, 42, 17, 3, 72]
theorem ac_cX12_init_192 : AL cX12_init 192 kb_cX12_init_192 := AL.of (m := 20) (by decide +kernel)
theorem dX12_init_196 : decode cX12_init 196 = .ok (.putfield 86, 3) := o181 ac_cX12_init_192 4 0 86 rfl
theorem dX12_init_199 : decode cX12_init 199 = .ok (.aload_n 0, 1) := o42 ac_cX12_init_192 7 rfl
theorem dX12_init_200 : decode cX12_init 200 = .ok (.sipush 260, 3) := o17p ac_cX12_init_192 8 1 4 rfl rfl
theorem dX12_init_203 : decode cX12_init 203 = .ok (.newarray .int, 2) := by decide +kernel

theorem dX12_init_205 : decode cX12_init 205 = .ok (.putfield 89, 3) := o181 ac_cX12_init_192 13 0 89 rfl
def kb_cX12_init_208 : List Nat := [42, 17, 3, 72, 188, 10, 181, 0, 92, 42, 17, 3, 72, 188, 10, 181, 0, 95, 42, 16]
theorem ac_cX12_init_208 : AL cX12_init 208 kb_cX12_init_208 := AL.of (m := 20) (by decide +kernel)
theorem dX12_init_208 : decode cX12_init 208 = .ok (.aload_n 0, 1) := o42 ac_cX12_init_208 0 rfl
theorem dX12_init_209 : decode cX12_init 209 = .ok (.sipush 840, 3) := o17p ac_cX12_init_208 1 3 72 rfl rfl
theorem dX12_init_212 : decode cX12_init 212 = .ok (.newarray .int, 2) := by decide +kernel
theorem dX12_init_214 : decode cX12_init 214 = .ok (.putfield 92, 3) := o181 ac_cX12_init_208 6 0 92 rfl
theorem dX12_init_217 : decode cX12_init 217 = .ok (.aload_n 0, 1) := o42 ac_cX12_init_208 9 rfl
theorem dX12_init_218 : decode cX12_init 218 = .ok (.sipush 840, 3) := o17p ac_cX12_init_208 10 3 72 rfl rfl
theorem dX12_init_221 : decode cX12_init 221 = .ok (.newarray .int, 2) := by decide +kernel
theorem dX12_init_223 : decode cX12_init 223 = .ok (.putfield 95, 3) := o181 ac_cX12_init_208 15 0 95 rfl
def kb_cX12_init_224 : List Nat := [0, 95, 42, 16, 64, 188, 10, 181, 0, 98, 42, 16, 9, 188, 10, 181, 0, 101, 42, 17]
theorem ac_cX12_init_224 : AL cX12_init 224 kb_cX12_init_224 := AL.of (m := 20) (by decide +kernel)
theorem dX12_init_226 : decode cX12_init 226 = .ok (.aload_n 0, 1) := o42 ac_cX12_init_224 2 rfl
theorem dX12_init_227 : decode cX12_init 227 = .ok (.bipush 64, 2) := o16p ac_cX12_init_224 3 64 rfl rfl
theorem dX12_init_229 : decode cX12_init 229 = .ok (.newarray .int, 2) := by decide +kernel
theorem dX12_init_231 : decode cX12_init 231 = .ok (.putfield 98, 3) := o181 ac_cX12_init_224 7 0 98 rfl
theorem dX12_init_234 : decode cX12_init 234 = .ok (.aload_n 0, 1) := o42 ac_cX12_init_224 10 rfl
theorem dX12_init_235 : decode cX12_init 235 = .ok (.bipush 9, 2) := o16p ac_cX12_init_224 11 9 rfl rfl
theorem dX12_init_237 : decode cX12_init 237 = .ok (.newarray .int, 2) := by decide +kernel
theorem dX12_init_239 : decode cX12_init 239 = .ok (.putfield 101, 3) := o181 ac_cX12_init_224 15 0 101 rfl
def kb_cX12_init_240 : List Nat := [0, 101, 42, 17, 1, 144, 188, 10, 181, 0, 104, 42, 16, 29, 188, 10, 181, 0, 107, 42]
theorem ac_cX12_init_240 : AL cX12_init 240 kb_cX12_init_240 := AL.of (m := 20) (by decide +kernel)
theorem dX12_init_242 : decode cX12_init 242 = .ok (.aload_n 0, 1) := o42 ac_cX12_init_240 2 rfl
theorem dX12_init_243 : decode cX12_init 243 = .ok (.sipush 400, 3) := o17p ac_cX12_init_240 3 1 144 rfl rfl
theorem dX12_init_246 : decode cX12_init 246 = .ok (.newarray .int, 2) := by decide +kernel
theorem dX12_init_248 : decode cX12_init 248 = .ok (.putfield 104, 3) := o181 ac_cX12_init_240 8 0 104 rfl
theorem dX12_init_251 : decode cX12_init 251 = .ok (.aload_n 0, 1) := o42 ac_cX12_init_240 11 rfl
theorem dX12_init_252 : decode cX12_init 252 = .ok (.bipush 29, 2) := o16p ac_cX12_init_240 12 29 rfl rfl
theorem dX12_init_254 : decode cX12_init 254 = .ok (.newarray .int, 2) := by decide +kernel
def kb_cX12_init_256 : List Nat := [181, 0, 107, 42, 16, 29, 188, 10, 181, 0, 110, 42, 17, 4, 136, 188, 10, 181, 0, 113]
theorem ac_cX12_init_256 : AL cX12_init 256 kb_cX12_init_256 := AL.of (m := 20) (by decide +kernel)
theorem dX12_init_256 : decode cX12_init 256 = .ok (.putfield 107, 3) := o181 ac_cX12_init_256 0 0 107 rfl
theorem dX12_init_259 : decode cX12_init 259 = .ok (.aload_n 0, 1) := o42 ac_cX12_init_256 3 rfl
theorem dX12_init_260 : decode cX12_init 260 = .ok (.bipush 29, 2) := o16p ac_cX12_init_256 4 29 rfl rfl
theorem dX12_init_262 : decode cX12_init 262 = .ok (.newarray .int, 2) := by decide +kernel
theorem dX12_init_264 : decode cX12_init 264 = .ok (.putfield 110, 3) := o181 ac_cX12_init_256 8 0 110 rfl
theorem dX12_init_267 : decode cX12_init 267 = .ok (.aload_n 0, 1) := o42 ac_cX12_init_256 11 rfl
theorem dX12_init_268 : decode cX12_init 268 = .ok (.sipush 1160, 3) := o17p ac_cX12_init_256 12 4 136 rfl rfl
theorem dX12_init_271 : decode cX12_init 271 = .ok (.newarray .int, 2) := by decide +kernel
def kb_cX12_init_272 : List Nat := [10, 181, 0, 113, 42, 16, 16, 188, 10, 181, 0, 116, 42, 17, 4, 0, 188, 10, 181, 0]
theorem ac_cX12_init_272 : AL cX12_init 272 kb_cX12_init_272 := AL.of (m := 20) (by decide +kernel)
theorem dX12_init_273 : decode cX12_init 273 = .ok (.putfield 113, 3) := o181 ac_cX12_init_272 1 0 113 rfl
theorem dX12_init_276 : decode cX12_init 276 = .ok (.aload_n 0, 1) := o42 ac_cX12_init_272 4 rfl
theorem dX12_init_277 : decode cX12_init 277 = .ok (.bipush 16, 2) := o16p ac_cX12_init_272 5 16 rfl rfl
theorem dX12_init_279 : decode cX12_init 279 = .ok (.newarray .int, 2) := by decide +kernel
theorem dX12_init_281 : decode cX12_init 281 = .ok (.putfield 116, 3) := o181 ac_cX12_init_272 9 0 116 rfl
theorem dX12_init_284 : decode cX12_init 284 = .ok (.aload_n 0, 1) := o42 ac_cX12_init_272 12 rfl
theorem dX12_init_285 : decode cX12_init 285 = .ok (.sipush 1024, 3) := o17p ac_cX12_init_272 13 4 0 rfl rfl
theorem dX12_init_288 : decode cX12_init 288 = .ok (.newarray .int, 2) := by decide +kernel
def kb_cX12_init_288 : List Nat := [188, 10, 181, 0, 119, 42, 16, 7, 188, 10, 181, 0, 122, 42, 16, 20, 188, 10, 181, 0]
theorem ac_cX12_init_288 : AL cX12_init 288 kb_cX12_init_288 := AL.of (m := 20) (by decide +kernel)
theorem dX12_init_290 : decode cX12_init 290 = .ok (.putfield 119, 3) := o181 ac_cX12_init_288 2 0 119 rfl
theorem dX12_init_293 : decode cX12_init 293 = .ok (.aload_n 0, 1) := o42 ac_cX12_init_288 5 rfl
theorem dX12_init_294 : decode cX12_init 294 = .ok (.bipush 7, 2) := o16p ac_cX12_init_288 6 7 rfl rfl
theorem dX12_init_296 : decode cX12_init 296 = .ok (.newarray .int, 2) := by decide +kernel
theorem dX12_init_298 : decode cX12_init 298 = .ok (.putfield 122, 3) := o181 ac_cX12_init_288 10 0 122 rfl
theorem dX12_init_301 : decode cX12_init 301 = .ok (.aload_n 0, 1) := o42 ac_cX12_init_288 13 rfl
theorem dX12_init_302 : decode cX12_init 302 = .ok (.bipush 20, 2) := o16p ac_cX12_init_288 14 20 rfl rfl
theorem dX12_init_304 : decode cX12_init 304 = .ok (.newarray .int, 2) := by decide +kernel
def kb_cX12_init_304 : List Nat := [188, 10, 181, 0, 125, 42, 16, 20, 188, 4, 181, 0, 128, 42, 16, 41, 188, 10, 181, 0]
theorem ac_cX12_init_304 : AL cX12_init 304 kb_cX12_init_304 := AL.of (m := 20) (by decide +kernel)
theorem dX12_init_306 : decode cX12_init 306 = .ok (.putfield 125, 3) := o181 ac_cX12_init_304 2 0 125 rfl
theorem dX12_init_309 : decode cX12_init 309 = .ok (.aload_n 0, 1) := o42 ac_cX12_init_304 5 rfl
theorem dX12_init_310 : decode cX12_init 310 = .ok (.bipush 20, 2) := o16p ac_cX12_init_304 6 20 rfl rfl
theorem dX12_init_312 : decode cX12_init 312 = .ok (.newarray .boolean, 2) := by decide +kernel
theorem dX12_init_314 : decode cX12_init 314 = .ok (.putfield 128, 3) := o181 ac_cX12_init_304 10 0 128 rfl
theorem dX12_init_317 : decode cX12_init 317 = .ok (.aload_n 0, 1) := o42 ac_cX12_init_304 13 rfl
theorem dX12_init_318 : decode cX12_init 318 = .ok (.bipush 41, 2) := o16p ac_cX12_init_304 14 41 rfl rfl
theorem dX12_init_320 : decode cX12_init 320 = .ok (.newarray .int, 2) := by decide +kernel
def kb_cX12_init_320 : List Nat := [188, 10, 181, 0, 131, 42, 6, 188, 4, 181, 0, 134, 42, 16, 87, 188, 10, 181, 0, 137]
theorem ac_cX12_init_320 : AL cX12_init 320 kb_cX12_init_320 := AL.of (m := 20) (by decide +kernel)
theorem dX12_init_322 : decode cX12_init 322 = .ok (.putfield 131, 3) := o181 ac_cX12_init_320 2 0 131 rfl
theorem dX12_init_325 : decode cX12_init 325 = .ok (.aload_n 0, 1) := o42 ac_cX12_init_320 5 rfl
theorem dX12_init_326 : decode cX12_init 326 = .ok (.iconst 3, 1) := o6 ac_cX12_init_320 6 rfl
theorem dX12_init_327 : decode cX12_init 327 = .ok (.newarray .boolean, 2) := by decide +kernel
theorem dX12_init_329 : decode cX12_init 329 = .ok (.putfield 134, 3) := o181 ac_cX12_init_320 9 0 134 rfl
theorem dX12_init_332 : decode cX12_init 332 = .ok (.aload_n 0, 1) := o42 ac_cX12_init_320 12 rfl
theorem dX12_init_333 : decode cX12_init 333 = .ok (.bipush 87, 2) := o16p ac_cX12_init_320 13 87 rfl rfl
theorem dX12_init_335 : decode cX12_init 335 = .ok (.newarray .int, 2) := by decide +kernel
def kb_cX12_init_336 : List Nat := [10, 181, 0, 137, 42, 3, 182, 0, 140, 42, 180, 0, 34, 3, 16, 116, 16, 104, 16, 105]
theorem ac_cX12_init_336 : AL cX12_init 336 kb_cX12_init_336 := AL.of (m := 20) (by decide +kernel)
theorem dX12_init_337 : decode cX12_init 337 = .ok (.putfield 137, 3) := o181 ac_cX12_init_336 1 0 137 rfl
theorem dX12_init_340 : decode cX12_init 340 = .ok (.aload_n 0, 1) := o42 ac_cX12_init_336 4 rfl
theorem dX12_init_341 : decode cX12_init 341 = .ok (.iconst 0, 1) := o3 ac_cX12_init_336 5 rfl
theorem dX12_init_342 : decode cX12_init 342 = .ok (.invokevirtual 140, 3) := o182 ac_cX12_init_336 6 0 140 rfl
theorem dX12_init_345 : decode cX12_init 345 = .ok (.aload_n 0, 1) := o42 ac_cX12_init_336 9 rfl
theorem dX12_init_346 : decode cX12_init 346 = .ok (.getfield 34, 3) := o180 ac_cX12_init_336 10 0 34 rfl
theorem dX12_init_349 : decode cX12_init 349 = .ok (.iconst 0, 1) := o3 ac_cX12_init_336 13 rfl
theorem dX12_init_350 : decode cX12_init 350 = .ok (.bipush 116, 2) := o16p ac_cX12_init_336 14 116 rfl rfl
def kb_cX12_init_352 : List Nat := [16, 104, 16, 105, 16, 110, 16, 103, 3, 3, 184, 0, 144, 80, 42, 180, 0, 34, 4, 16]
theorem ac_cX12_init_352 : AL cX12_init 352 kb_cX12_init_352 := AL.of (m := 20) (by decide +kernel)
theorem dX12_init_352 : decode cX12_init 352 = .ok (.bipush 104, 2) := o16p ac_cX12_init_352 0 104 rfl rfl
theorem dX12_init_354 : decode cX12_init 354 = .ok (.bipush 105, 2) := o16p ac_cX12_init_352 2 105 rfl rfl
theorem dX12_init_356 : decode cX12_init 356 = .ok (.bipush 110, 2) := o16p ac_cX12_init_352 4 110 rfl rfl
theorem dX12_init_358 : decode cX12_init 358 = .ok (.bipush 103, 2) := o16p ac_cX12_init_352 6 103 rfl rfl
theorem dX12_init_360 : decode cX12_init 360 = .ok (.iconst 0, 1) := o3 ac_cX12_init_352 8 rfl
theorem dX12_init_361 : decode cX12_init 361 = .ok (.iconst 0, 1) := o3 ac_cX12_init_352 9 rfl
theorem dX12_init_362 : decode cX12_init 362 = .ok (.invokestatic 144, 3) := o184 ac_cX12_init_352 10 0 144 rfl
theorem dX12_init_365 : decode cX12_init 365 = .ok (.lastore, 1) := o80 ac_cX12_init_352 13 rfl
theorem dX12_init_366 : decode cX12_init 366 = .ok (.aload_n 0, 1) := o42 ac_cX12_init_352 14 rfl
theorem dX12_init_367 : decode cX12_init 367 = .ok (.getfield 34, 3) := o180 ac_cX12_init_352 15 0 34 rfl
def kb_cX12_init_368 : List Nat := [0, 34, 4, 16, 112, 16, 97, 16, 116, 16, 116, 16, 101, 16, 114, 16, 110, 184, 0, 144]
theorem ac_cX12_init_368 : AL cX12_init 368 kb_cX12_init_368 := AL.of (m := 20) (by decide +kernel)
theorem dX12_init_370 : decode cX12_init 370 = .ok (.iconst 1, 1) := o4 ac_cX12_init_368 2 rfl
theorem dX12_init_371 : decode cX12_init 371 = .ok (.bipush 112, 2) := o16p ac_cX12_init_368 3 112 rfl rfl
theorem dX12_init_373 : decode cX12_init 373 = .ok (.bipush 97, 2) := o16p ac_cX12_init_368 5 97 rfl rfl
theorem dX12_init_375 : decode cX12_init 375 = .ok (.bipush 116, 2) := o16p ac_cX12_init_368 7 116 rfl rfl
theorem dX12_init_377 : decode cX12_init 377 = .ok (.bipush 116, 2) := o16p ac_cX12_init_368 9 116 rfl rfl
theorem dX12_init_379 : decode cX12_init 379 = .ok (.bipush 101, 2) := o16p ac_cX12_init_368 11 101 rfl rfl
theorem dX12_init_381 : decode cX12_init 381 = .ok (.bipush 114, 2) := o16p ac_cX12_init_368 13 114 rfl rfl
theorem dX12_init_383 : decode cX12_init 383 = .ok (.bipush 110, 2) := o16p ac_cX12_init_368 15 110 rfl rfl
def kb_cX12_init_384 : List Nat := [110, 184, 0, 144, 80, 42, 180, 0, 34, 5, 16, 116, 16, 105, 16, 114, 16, 101, 16, 115]
theorem ac_cX12_init_384 : AL cX12_init 384 kb_cX12_init_384 := AL.of (m := 20) (by decide +kernel)
theorem dX12_init_385 : decode cX12_init 385 = .ok (.invokestatic 144, 3) := o184 ac_cX12_init_384 1 0 144 rfl
theorem dX12_init_388 : decode cX12_init 388 = .ok (.lastore, 1) := o80 ac_cX12_init_384 4 rfl
theorem dX12_init_389 : decode cX12_init 389 = .ok (.aload_n 0, 1) := o42 ac_cX12_init_384 5 rfl
theorem dX12_init_390 : decode cX12_init 390 = .ok (.getfield 34, 3) := o180 ac_cX12_init_384 6 0 34 rfl
theorem dX12_init_393 : decode cX12_init 393 = .ok (.iconst 2, 1) := o5 ac_cX12_init_384 9 rfl
theorem dX12_init_394 : decode cX12_init 394 = .ok (.bipush 116, 2) := o16p ac_cX12_init_384 10 116 rfl rfl
theorem dX12_init_396 : decode cX12_init 396 = .ok (.bipush 105, 2) := o16p ac_cX12_init_384 12 105 rfl rfl
theorem dX12_init_398 : decode cX12_init 398 = .ok (.bipush 114, 2) := o16p ac_cX12_init_384 14 114 rfl rfl
def kb_cX12_init_400 : List Nat := [16, 101, 16, 115, 3, 3, 184, 0, 144, 80, 42, 180, 0, 34, 6, 16, 100, 16, 114, 16]
theorem ac_cX12_init_400 : AL cX12_init 400 kb_cX12_init_400 := AL.of (m := 20) (by decide +kernel)
theorem dX12_init_400 : decode cX12_init 400 = .ok (.bipush 101, 2) := o16p ac_cX12_init_400 0 101 rfl rfl
theorem dX12_init_402 : decode cX12_init 402 = .ok (.bipush 115, 2) := o16p ac_cX12_init_400 2 115 rfl rfl

theorem dX12_init_404 : decode cX12_init 404 = .ok (.iconst 0, 1) := o3 ac_cX12_init_400 4 rfl
theorem dX12_init_405 : decode cX12_init 405 = .ok (.iconst 0, 1) := o3 ac_cX12_init_400 5 rfl
theorem dX12_init_406 : decode cX12_init 406 = .ok (.invokestatic 144, 3) := o184 ac_cX12_init_400 6 0 144 rfl
theorem dX12_init_409 : decode cX12_init 409 = .ok (.lastore, 1) := o80 ac_cX12_init_400 9 rfl
theorem dX12_init_410 : decode cX12_init 410 = .ok (.aload_n 0, 1) := o42 ac_cX12_init_400 10 rfl
theorem dX12_init_411 : decode cX12_init 411 = .ok (.getfield 34, 3) := o180 ac_cX12_init_400 11 0 34 rfl
theorem dX12_init_414 : decode cX12_init 414 = .ok (.iconst 3, 1) := o6 ac_cX12_init_400 14 rfl
theorem dX12_init_415 : decode cX12_init 415 = .ok (.bipush 100, 2) := o16p ac_cX12_init_400 15 100 rfl rfl
def kb_cX12_init_416 : List Nat := [100, 16, 114, 16, 111, 16, 112, 16, 115, 3, 3, 184, 0, 144, 80, 42, 180, 0, 34, 7]
theorem ac_cX12_init_416 : AL cX12_init 416 kb_cX12_init_416 := AL.of (m := 20) (by decide +kernel)
theorem dX12_init_417 : decode cX12_init 417 = .ok (.bipush 114, 2) := o16p ac_cX12_init_416 1 114 rfl rfl
theorem dX12_init_419 : decode cX12_init 419 = .ok (.bipush 111, 2) := o16p ac_cX12_init_416 3 111 rfl rfl
theorem dX12_init_421 : decode cX12_init 421 = .ok (.bipush 112, 2) := o16p ac_cX12_init_416 5 112 rfl rfl
theorem dX12_init_423 : decode cX12_init 423 = .ok (.bipush 115, 2) := o16p ac_cX12_init_416 7 115 rfl rfl
theorem dX12_init_425 : decode cX12_init 425 = .ok (.iconst 0, 1) := o3 ac_cX12_init_416 9 rfl
theorem dX12_init_426 : decode cX12_init 426 = .ok (.iconst 0, 1) := o3 ac_cX12_init_416 10 rfl
theorem dX12_init_427 : decode cX12_init 427 = .ok (.invokestatic 144, 3) := o184 ac_cX12_init_416 11 0 144 rfl
theorem dX12_init_430 : decode cX12_init 430 = .ok (.lastore, 1) := o80 ac_cX12_init_416 14 rfl
theorem dX12_init_431 : decode cX12_init 431 = .ok (.aload_n 0, 1) := o42 ac_cX12_init_416 15 rfl
def kb_cX12_init_432 : List Nat := [180, 0, 34, 7, 16, 102, 16, 111, 16, 114, 16, 99, 16, 101, 3, 3, 184, 0, 144, 80]
theorem ac_cX12_init_432 : AL cX12_init 432 kb_cX12_init_432 := AL.of (m := 20) (by decide +kernel)
theorem dX12_init_432 : decode cX12_init 432 = .ok (.getfield 34, 3) := o180 ac_cX12_init_432 0 0 34 rfl
theorem dX12_init_435 : decode cX12_init 435 = .ok (.iconst 4, 1) := o7 ac_cX12_init_432 3 rfl
theorem dX12_init_436 : decode cX12_init 436 = .ok (.bipush 102, 2) := o16p ac_cX12_init_432 4 102 rfl rfl
theorem dX12_init_438 : decode cX12_init 438 = .ok (.bipush 111, 2) := o16p ac_cX12_init_432 6 111 rfl rfl
theorem dX12_init_440 : decode cX12_init 440 = .ok (.bipush 114, 2) := o16p ac_cX12_init_432 8 114 rfl rfl
theorem dX12_init_442 : decode cX12_init 442 = .ok (.bipush 99, 2) := o16p ac_cX12_init_432 10 99 rfl rfl
theorem dX12_init_444 : decode cX12_init 444 = .ok (.bipush 101, 2) := o16p ac_cX12_init_432 12 101 rfl rfl
theorem dX12_init_446 : decode cX12_init 446 = .ok (.iconst 0, 1) := o3 ac_cX12_init_432 14 rfl
theorem dX12_init_447 : decode cX12_init 447 = .ok (.iconst 0, 1) := o3 ac_cX12_init_432 15 rfl
def kb_cX12_init_448 : List Nat := [184, 0, 144, 80, 42, 180, 0, 34, 8, 16, 112, 16, 97, 16, 121, 16, 115, 3, 3, 3]
theorem ac_cX12_init_448 : AL cX12_init 448 kb_cX12_init_448 := AL.of (m := 20) (by decide +kernel)
theorem dX12_init_448 : decode cX12_init 448 = .ok (.invokestatic 144, 3) := o184 ac_cX12_init_448 0 0 144 rfl
theorem dX12_init_451 : decode cX12_init 451 = .ok (.lastore, 1) := o80 ac_cX12_init_448 3 rfl
theorem dX12_init_452 : decode cX12_init 452 = .ok (.aload_n 0, 1) := o42 ac_cX12_init_448 4 rfl
theorem dX12_init_453 : decode cX12_init 453 = .ok (.getfield 34, 3) := o180 ac_cX12_init_448 5 0 34 rfl
theorem dX12_init_456 : decode cX12_init 456 = .ok (.iconst 5, 1) := o8 ac_cX12_init_448 8 rfl
theorem dX12_init_457 : decode cX12_init 457 = .ok (.bipush 112, 2) := o16p ac_cX12_init_448 9 112 rfl rfl
theorem dX12_init_459 : decode cX12_init 459 = .ok (.bipush 97, 2) := o16p ac_cX12_init_448 11 97 rfl rfl
theorem dX12_init_461 : decode cX12_init 461 = .ok (.bipush 121, 2) := o16p ac_cX12_init_448 13 121 rfl rfl
theorem dX12_init_463 : decode cX12_init 463 = .ok (.bipush 115, 2) := o16p ac_cX12_init_448 15 115 rfl rfl
def kb_cX12_init_464 : List Nat := [115, 3, 3, 3, 184, 0, 144, 80, 42, 180, 0, 34, 16, 6, 16, 114, 16, 101, 16, 115]
theorem ac_cX12_init_464 : AL cX12_init 464 kb_cX12_init_464 := AL.of (m := 20) (by decide +kernel)
theorem dX12_init_465 : decode cX12_init 465 = .ok (.iconst 0, 1) := o3 ac_cX12_init_464 1 rfl
theorem dX12_init_466 : decode cX12_init 466 = .ok (.iconst 0, 1) := o3 ac_cX12_init_464 2 rfl
theorem dX12_init_467 : decode cX12_init 467 = .ok (.iconst 0, 1) := o3 ac_cX12_init_464 3 rfl
theorem dX12_init_468 : decode cX12_init 468 = .ok (.invokestatic 144, 3) := o184 ac_cX12_init_464 4 0 144 rfl
theorem dX12_init_471 : decode cX12_init 471 = .ok (.lastore, 1) := o80 ac_cX12_init_464 7 rfl
theorem dX12_init_472 : decode cX12_init 472 = .ok (.aload_n 0, 1) := o42 ac_cX12_init_464 8 rfl
theorem dX12_init_473 : decode cX12_init 473 = .ok (.getfield 34, 3) := o180 ac_cX12_init_464 9 0 34 rfl
theorem dX12_init_476 : decode cX12_init 476 = .ok (.bipush 6, 2) := o16p ac_cX12_init_464 12 6 rfl rfl
theorem dX12_init_478 : decode cX12_init 478 = .ok (.bipush 114, 2) := o16p ac_cX12_init_464 14 114 rfl rfl
def kb_cX12_init_480 : List Nat := [16, 101, 16, 115, 16, 116, 16, 115, 3, 3, 184, 0, 144, 80, 42, 180, 0, 34, 16, 7]
theorem ac_cX12_init_480 : AL cX12_init 480 kb_cX12_init_480 := AL.of (m := 20) (by decide +kernel)
theorem dX12_init_480 : decode cX12_init 480 = .ok (.bipush 101, 2) := o16p ac_cX12_init_480 0 101 rfl rfl
theorem dX12_init_482 : decode cX12_init 482 = .ok (.bipush 115, 2) := o16p ac_cX12_init_480 2 115 rfl rfl
theorem dX12_init_484 : decode cX12_init 484 = .ok (.bipush 116, 2) := o16p ac_cX12_init_480 4 116 rfl rfl
theorem dX12_init_486 : decode cX12_init 486 = .ok (.bipush 115, 2) := o16p ac_cX12_init_480 6 115 rfl rfl
theorem dX12_init_488 : decode cX12_init 488 = .ok (.iconst 0, 1) := o3 ac_cX12_init_480 8 rfl
theorem dX12_init_489 : decode cX12_init 489 = .ok (.iconst 0, 1) := o3 ac_cX12_init_480 9 rfl
theorem dX12_init_490 : decode cX12_init 490 = .ok (.invokestatic 144, 3) := o184 ac_cX12_init_480 10 0 144 rfl
theorem dX12_init_493 : decode cX12_init 493 = .ok (.lastore, 1) := o80 ac_cX12_init_480 13 rfl
theorem dX12_init_494 : decode cX12_init 494 = .ok (.aload_n 0, 1) := o42 ac_cX12_init_480 14 rfl
theorem dX12_init_495 : decode cX12_init 495 = .ok (.getfield 34, 3) := o180 ac_cX12_init_480 15 0 34 rfl
def kb_cX12_init_496 : List Nat := [0, 34, 16, 7, 16, 115, 16, 101, 16, 101, 16, 100, 3, 3, 3, 184, 0, 144, 80, 42]
theorem ac_cX12_init_496 : AL cX12_init 496 kb_cX12_init_496 := AL.of (m := 20) (by decide +kernel)
theorem dX12_init_498 : decode cX12_init 498 = .ok (.bipush 7, 2) := o16p ac_cX12_init_496 2 7 rfl rfl
theorem dX12_init_500 : decode cX12_init 500 = .ok (.bipush 115, 2) := o16p ac_cX12_init_496 4 115 rfl rfl
theorem dX12_init_502 : decode cX12_init 502 = .ok (.bipush 101, 2) := o16p ac_cX12_init_496 6 101 rfl rfl
theorem dX12_init_504 : decode cX12_init 504 = .ok (.bipush 101, 2) := o16p ac_cX12_init_496 8 101 rfl rfl
theorem dX12_init_506 : decode cX12_init 506 = .ok (.bipush 100, 2) := o16p ac_cX12_init_496 10 100 rfl rfl
theorem dX12_init_508 : decode cX12_init 508 = .ok (.iconst 0, 1) := o3 ac_cX12_init_496 12 rfl
theorem dX12_init_509 : decode cX12_init 509 = .ok (.iconst 0, 1) := o3 ac_cX12_init_496 13 rfl
theorem dX12_init_510 : decode cX12_init 510 = .ok (.iconst 0, 1) := o3 ac_cX12_init_496 14 rfl
theorem dX12_init_511 : decode cX12_init 511 = .ok (.invokestatic 144, 3) := o184 ac_cX12_init_496 15 0 144 rfl
def kb_cX12_init_512 : List Nat := [0, 144, 80, 42, 180, 0, 34, 16, 8, 16, 105, 16, 102, 3, 3, 3, 3, 3, 184, 0]
theorem ac_cX12_init_512 : AL cX12_init 512 kb_cX12_init_512 := AL.of (m := 20) (by decide +kernel)
theorem dX12_init_514 : decode cX12_init 514 = .ok (.lastore, 1) := o80 ac_cX12_init_512 2 rfl
theorem dX12_init_515 : decode cX12_init 515 = .ok (.aload_n 0, 1) := o42 ac_cX12_init_512 3 rfl
theorem dX12_init_516 : decode cX12_init 516 = .ok (.getfield 34, 3) := o180 ac_cX12_init_512 4 0 34 rfl
theorem dX12_init_519 : decode cX12_init 519 = .ok (.bipush 8, 2) := o16p ac_cX12_init_512 7 8 rfl rfl
theorem dX12_init_521 : decode cX12_init 521 = .ok (.bipush 105, 2) := o16p ac_cX12_init_512 9 105 rfl rfl
theorem dX12_init_523 : decode cX12_init 523 = .ok (.bipush 102, 2) := o16p ac_cX12_init_512 11 102 rfl rfl
theorem dX12_init_525 : decode cX12_init 525 = .ok (.iconst 0, 1) := o3 ac_cX12_init_512 13 rfl
theorem dX12_init_526 : decode cX12_init 526 = .ok (.iconst 0, 1) := o3 ac_cX12_init_512 14 rfl
theorem dX12_init_527 : decode cX12_init 527 = .ok (.iconst 0, 1) := o3 ac_cX12_init_512 15 rfl
def kb_cX12_init_528 : List Nat := [3, 3, 184, 0, 144, 80, 42, 180, 0, 34, 16, 9, 16, 116, 16, 104, 16, 101, 16, 110]
theorem ac_cX12_init_528 : AL cX12_init 528 kb_cX12_init_528 := AL.of (m := 20) (by decide +kernel)
theorem dX12_init_528 : decode cX12_init 528 = .ok (.iconst 0, 1) := o3 ac_cX12_init_528 0 rfl
theorem dX12_init_529 : decode cX12_init 529 = .ok (.iconst 0, 1) := o3 ac_cX12_init_528 1 rfl
theorem dX12_init_530 : decode cX12_init 530 = .ok (.invokestatic 144, 3) := o184 ac_cX12_init_528 2 0 144 rfl
theorem dX12_init_533 : decode cX12_init 533 = .ok (.lastore, 1) := o80 ac_cX12_init_528 5 rfl
theorem dX12_init_534 : decode cX12_init 534 = .ok (.aload_n 0, 1) := o42 ac_cX12_init_528 6 rfl
theorem dX12_init_535 : decode cX12_init 535 = .ok (.getfield 34, 3) := o180 ac_cX12_init_528 7 0 34 rfl
theorem dX12_init_538 : decode cX12_init 538 = .ok (.bipush 9, 2) := o16p ac_cX12_init_528 10 9 rfl rfl
theorem dX12_init_540 : decode cX12_init 540 = .ok (.bipush 116, 2) := o16p ac_cX12_init_528 12 116 rfl rfl
theorem dX12_init_542 : decode cX12_init 542 = .ok (.bipush 104, 2) := o16p ac_cX12_init_528 14 104 rfl rfl
def kb_cX12_init_544 : List Nat := [16, 101, 16, 110, 3, 3, 3, 184, 0, 144, 80, 42, 180, 0, 34, 16, 10, 16, 101, 16]
theorem ac_cX12_init_544 : AL cX12_init 544 kb_cX12_init_544 := AL.of (m := 20) (by decide +kernel)
theorem dX12_init_544 : decode cX12_init 544 = .ok (.bipush 101, 2) := o16p ac_cX12_init_544 0 101 rfl rfl
theorem dX12_init_546 : decode cX12_init 546 = .ok (.bipush 110, 2) := o16p ac_cX12_init_544 2 110 rfl rfl
theorem dX12_init_548 : decode cX12_init 548 = .ok (.iconst 0, 1) := o3 ac_cX12_init_544 4 rfl
theorem dX12_init_549 : decode cX12_init 549 = .ok (.iconst 0, 1) := o3 ac_cX12_init_544 5 rfl
theorem dX12_init_550 : decode cX12_init 550 = .ok (.iconst 0, 1) := o3 ac_cX12_init_544 6 rfl
theorem dX12_init_551 : decode cX12_init 551 = .ok (.invokestatic 144, 3) := o184 ac_cX12_init_544 7 0 144 rfl
theorem dX12_init_554 : decode cX12_init 554 = .ok (.lastore, 1) := o80 ac_cX12_init_544 10 rfl
theorem dX12_init_555 : decode cX12_init 555 = .ok (.aload_n 0, 1) := o42 ac_cX12_init_544 11 rfl
theorem dX12_init_556 : decode cX12_init 556 = .ok (.getfield 34, 3) := o180 ac_cX12_init_544 12 0 34 rfl
theorem dX12_init_559 : decode cX12_init 559 = .ok (.bipush 10, 2) := o16p ac_cX12_init_544 15 10 rfl rfl
def kb_cX12_init_560 : List Nat := [10, 16, 101, 16, 108, 16, 115, 16, 101, 3, 3, 3, 184, 0, 144, 80, 42, 180, 0, 34]
theorem ac_cX12_init_560 : AL cX12_init 560 kb_cX12_init_560 := AL.of (m := 20) (by decide +kernel)
theorem dX12_init_561 : decode cX12_init 561 = .ok (.bipush 101, 2) := o16p ac_cX12_init_560 1 101 rfl rfl
theorem dX12_init_563 : decode cX12_init 563 = .ok (.bipush 108, 2) := o16p ac_cX12_init_560 3 108 rfl rfl
theorem dX12_init_565 : decode cX12_init 565 = .ok (.bipush 115, 2) := o16p ac_cX12_init_560 5 115 rfl rfl
theorem dX12_init_567 : decode cX12_init 567 = .ok (.bipush 101, 2) := o16p ac_cX12_init_560 7 101 rfl rfl
theorem dX12_init_569 : decode cX12_init 569 = .ok (.iconst 0, 1) := o3 ac_cX12_init_560 9 rfl
theorem dX12_init_570 : decode cX12_init 570 = .ok (.iconst 0, 1) := o3 ac_cX12_init_560 10 rfl
theorem dX12_init_571 : decode cX12_init 571 = .ok (.iconst 0, 1) := o3 ac_cX12_init_560 11 rfl
theorem dX12_init_572 : decode cX12_init 572 = .ok (.invokestatic 144, 3) := o184 ac_cX12_init_560 12 0 144 rfl
theorem dX12_init_575 : decode cX12_init 575 = .ok (.lastore, 1) := o80 ac_cX12_init_560 15 rfl

def kb_cX12_init_576 : List Nat := [42, 180, 0, 34, 16, 11, 16, 119, 16, 101, 16, 105, 16, 103, 16, 104, 16, 116, 3, 184]
theorem ac_cX12_init_576 : AL cX12_init 576 kb_cX12_init_576 := AL.of (m := 20) (by decide +kernel)
theorem dX12_init_576 : decode cX12_init 576 = .ok (.aload_n 0, 1) := o42 ac_cX12_init_576 0 rfl
theorem dX12_init_577 : decode cX12_init 577 = .ok (.getfield 34, 3) := o180 ac_cX12_init_576 1 0 34 rfl
theorem dX12_init_580 : decode cX12_init 580 = .ok (.bipush 11, 2) := o16p ac_cX12_init_576 4 11 rfl rfl
theorem dX12_init_582 : decode cX12_init 582 = .ok (.bipush 119, 2) := o16p ac_cX12_init_576 6 119 rfl rfl
theorem dX12_init_584 : decode cX12_init 584 = .ok (.bipush 101, 2) := o16p ac_cX12_init_576 8 101 rfl rfl
theorem dX12_init_586 : decode cX12_init 586 = .ok (.bipush 105, 2) := o16p ac_cX12_init_576 10 105 rfl rfl
theorem dX12_init_588 : decode cX12_init 588 = .ok (.bipush 103, 2) := o16p ac_cX12_init_576 12 103 rfl rfl
theorem dX12_init_590 : decode cX12_init 590 = .ok (.bipush 104, 2) := o16p ac_cX12_init_576 14 104 rfl rfl
def kb_cX12_init_592 : List Nat := [16, 116, 3, 184, 0, 144, 80, 42, 180, 0, 34, 16, 12, 16, 101, 16, 100, 16, 103, 16]
theorem ac_cX12_init_592 : AL cX12_init 592 kb_cX12_init_592 := AL.of (m := 20) (by decide +kernel)
theorem dX12_init_592 : decode cX12_init 592 = .ok (.bipush 116, 2) := o16p ac_cX12_init_592 0 116 rfl rfl
theorem dX12_init_594 : decode cX12_init 594 = .ok (.iconst 0, 1) := o3 ac_cX12_init_592 2 rfl
theorem dX12_init_595 : decode cX12_init 595 = .ok (.invokestatic 144, 3) := o184 ac_cX12_init_592 3 0 144 rfl
theorem dX12_init_598 : decode cX12_init 598 = .ok (.lastore, 1) := o80 ac_cX12_init_592 6 rfl
theorem dX12_init_599 : decode cX12_init 599 = .ok (.aload_n 0, 1) := o42 ac_cX12_init_592 7 rfl
theorem dX12_init_600 : decode cX12_init 600 = .ok (.getfield 34, 3) := o180 ac_cX12_init_592 8 0 34 rfl
theorem dX12_init_603 : decode cX12_init 603 = .ok (.bipush 12, 2) := o16p ac_cX12_init_592 11 12 rfl rfl
theorem dX12_init_605 : decode cX12_init 605 = .ok (.bipush 101, 2) := o16p ac_cX12_init_592 13 101 rfl rfl
theorem dX12_init_607 : decode cX12_init 607 = .ok (.bipush 100, 2) := o16p ac_cX12_init_592 15 100 rfl rfl
def kb_cX12_init_608 : List Nat := [100, 16, 103, 16, 101, 3, 3, 3, 184, 0, 144, 80, 42, 180, 0, 34, 16, 13, 16, 104]
theorem ac_cX12_init_608 : AL cX12_init 608 kb_cX12_init_608 := AL.of (m := 20) (by decide +kernel)
theorem dX12_init_609 : decode cX12_init 609 = .ok (.bipush 103, 2) := o16p ac_cX12_init_608 1 103 rfl rfl
theorem dX12_init_611 : decode cX12_init 611 = .ok (.bipush 101, 2) := o16p ac_cX12_init_608 3 101 rfl rfl
theorem dX12_init_613 : decode cX12_init 613 = .ok (.iconst 0, 1) := o3 ac_cX12_init_608 5 rfl
theorem dX12_init_614 : decode cX12_init 614 = .ok (.iconst 0, 1) := o3 ac_cX12_init_608 6 rfl
theorem dX12_init_615 : decode cX12_init 615 = .ok (.iconst 0, 1) := o3 ac_cX12_init_608 7 rfl
theorem dX12_init_616 : decode cX12_init 616 = .ok (.invokestatic 144, 3) := o184 ac_cX12_init_608 8 0 144 rfl
theorem dX12_init_619 : decode cX12_init 619 = .ok (.lastore, 1) := o80 ac_cX12_init_608 11 rfl
theorem dX12_init_620 : decode cX12_init 620 = .ok (.aload_n 0, 1) := o42 ac_cX12_init_608 12 rfl
theorem dX12_init_621 : decode cX12_init 621 = .ok (.getfield 34, 3) := o180 ac_cX12_init_608 13 0 34 rfl
def kb_cX12_init_624 : List Nat := [16, 13, 16, 104, 16, 101, 16, 105, 16, 103, 16, 104, 16, 116, 3, 184, 0, 144, 80, 42]
theorem ac_cX12_init_624 : AL cX12_init 624 kb_cX12_init_624 := AL.of (m := 20) (by decide +kernel)
theorem dX12_init_624 : decode cX12_init 624 = .ok (.bipush 13, 2) := o16p ac_cX12_init_624 0 13 rfl rfl
theorem dX12_init_626 : decode cX12_init 626 = .ok (.bipush 104, 2) := o16p ac_cX12_init_624 2 104 rfl rfl
theorem dX12_init_628 : decode cX12_init 628 = .ok (.bipush 101, 2) := o16p ac_cX12_init_624 4 101 rfl rfl
theorem dX12_init_630 : decode cX12_init 630 = .ok (.bipush 105, 2) := o16p ac_cX12_init_624 6 105 rfl rfl
theorem dX12_init_632 : decode cX12_init 632 = .ok (.bipush 103, 2) := o16p ac_cX12_init_624 8 103 rfl rfl
theorem dX12_init_634 : decode cX12_init 634 = .ok (.bipush 104, 2) := o16p ac_cX12_init_624 10 104 rfl rfl
theorem dX12_init_636 : decode cX12_init 636 = .ok (.bipush 116, 2) := o16p ac_cX12_init_624 12 116 rfl rfl
theorem dX12_init_638 : decode cX12_init 638 = .ok (.iconst 0, 1) := o3 ac_cX12_init_624 14 rfl
theorem dX12_init_639 : decode cX12_init 639 = .ok (.invokestatic 144, 3) := o184 ac_cX12_init_624 15 0 144 rfl
def kb_cX12_init_640 : List Nat := [0, 144, 80, 42, 180, 0, 34, 16, 14, 16, 98, 16, 101, 16, 97, 16, 116, 3, 3, 3]
theorem ac_cX12_init_640 : AL cX12_init 640 kb_cX12_init_640 := AL.of (m := 20) (by decide +kernel)
theorem dX12_init_642 : decode cX12_init 642 = .ok (.lastore, 1) := o80 ac_cX12_init_640 2 rfl
theorem dX12_init_643 : decode cX12_init 643 = .ok (.aload_n 0, 1) := o42 ac_cX12_init_640 3 rfl
theorem dX12_init_644 : decode cX12_init 644 = .ok (.getfield 34, 3) := o180 ac_cX12_init_640 4 0 34 rfl
theorem dX12_init_647 : decode cX12_init 647 = .ok (.bipush 14, 2) := o16p ac_cX12_init_640 7 14 rfl rfl
theorem dX12_init_649 : decode cX12_init 649 = .ok (.bipush 98, 2) := o16p ac_cX12_init_640 9 98 rfl rfl
theorem dX12_init_651 : decode cX12_init 651 = .ok (.bipush 101, 2) := o16p ac_cX12_init_640 11 101 rfl rfl
theorem dX12_init_653 : decode cX12_init 653 = .ok (.bipush 97, 2) := o16p ac_cX12_init_640 13 97 rfl rfl
theorem dX12_init_655 : decode cX12_init 655 = .ok (.bipush 116, 2) := o16p ac_cX12_init_640 15 116 rfl rfl
def kb_cX12_init_656 : List Nat := [116, 3, 3, 3, 184, 0, 144, 80, 42, 180, 0, 34, 16, 15, 16, 116, 16, 105, 16, 114]
theorem ac_cX12_init_656 : AL cX12_init 656 kb_cX12_init_656 := AL.of (m := 20) (by decide +kernel)
theorem dX12_init_657 : decode cX12_init 657 = .ok (.iconst 0, 1) := o3 ac_cX12_init_656 1 rfl
theorem dX12_init_658 : decode cX12_init 658 = .ok (.iconst 0, 1) := o3 ac_cX12_init_656 2 rfl
theorem dX12_init_659 : decode cX12_init 659 = .ok (.iconst 0, 1) := o3 ac_cX12_init_656 3 rfl
theorem dX12_init_660 : decode cX12_init 660 = .ok (.invokestatic 144, 3) := o184 ac_cX12_init_656 4 0 144 rfl
theorem dX12_init_663 : decode cX12_init 663 = .ok (.lastore, 1) := o80 ac_cX12_init_656 7 rfl
theorem dX12_init_664 : decode cX12_init 664 = .ok (.aload_n 0, 1) := o42 ac_cX12_init_656 8 rfl
theorem dX12_init_665 : decode cX12_init 665 = .ok (.getfield 34, 3) := o180 ac_cX12_init_656 9 0 34 rfl
theorem dX12_init_668 : decode cX12_init 668 = .ok (.bipush 15, 2) := o16p ac_cX12_init_656 12 15 rfl rfl
theorem dX12_init_670 : decode cX12_init 670 = .ok (.bipush 116, 2) := o16p ac_cX12_init_656 14 116 rfl rfl
def kb_cX12_init_672 : List Nat := [16, 105, 16, 114, 16, 101, 16, 100, 3, 3, 184, 0, 144, 80, 42, 180, 0, 34, 16, 16]
theorem ac_cX12_init_672 : AL cX12_init 672 kb_cX12_init_672 := AL.of (m := 20) (by decide +kernel)
theorem dX12_init_672 : decode cX12_init 672 = .ok (.bipush 105, 2) := o16p ac_cX12_init_672 0 105 rfl rfl
theorem dX12_init_674 : decode cX12_init 674 = .ok (.bipush 114, 2) := o16p ac_cX12_init_672 2 114 rfl rfl
theorem dX12_init_676 : decode cX12_init 676 = .ok (.bipush 101, 2) := o16p ac_cX12_init_672 4 101 rfl rfl
theorem dX12_init_678 : decode cX12_init 678 = .ok (.bipush 100, 2) := o16p ac_cX12_init_672 6 100 rfl rfl
theorem dX12_init_680 : decode cX12_init 680 = .ok (.iconst 0, 1) := o3 ac_cX12_init_672 8 rfl
theorem dX12_init_681 : decode cX12_init 681 = .ok (.iconst 0, 1) := o3 ac_cX12_init_672 9 rfl
theorem dX12_init_682 : decode cX12_init 682 = .ok (.invokestatic 144, 3) := o184 ac_cX12_init_672 10 0 144 rfl
theorem dX12_init_685 : decode cX12_init 685 = .ok (.lastore, 1) := o80 ac_cX12_init_672 13 rfl
theorem dX12_init_686 : decode cX12_init 686 = .ok (.aload_n 0, 1) := o42 ac_cX12_init_672 14 rfl
theorem dX12_init_687 : decode cX12_init 687 = .ok (.getfield 34, 3) := o180 ac_cX12_init_672 15 0 34 rfl
def kb_cX12_init_688 : List Nat := [0, 34, 16, 16, 16, 117, 16, 112, 3, 3, 3, 3, 3, 184, 0, 144, 80, 42, 180, 0]
theorem ac_cX12_init_688 : AL cX12_init 688 kb_cX12_init_688 := AL.of (m := 20) (by decide +kernel)
theorem dX12_init_690 : decode cX12_init 690 = .ok (.bipush 16, 2) := o16p ac_cX12_init_688 2 16 rfl rfl
theorem dX12_init_692 : decode cX12_init 692 = .ok (.bipush 117, 2) := o16p ac_cX12_init_688 4 117 rfl rfl
theorem dX12_init_694 : decode cX12_init 694 = .ok (.bipush 112, 2) := o16p ac_cX12_init_688 6 112 rfl rfl
theorem dX12_init_696 : decode cX12_init 696 = .ok (.iconst 0, 1) := o3 ac_cX12_init_688 8 rfl
theorem dX12_init_697 : decode cX12_init 697 = .ok (.iconst 0, 1) := o3 ac_cX12_init_688 9 rfl
theorem dX12_init_698 : decode cX12_init 698 = .ok (.iconst 0, 1) := o3 ac_cX12_init_688 10 rfl
theorem dX12_init_699 : decode cX12_init 699 = .ok (.iconst 0, 1) := o3 ac_cX12_init_688 11 rfl
theorem dX12_init_700 : decode cX12_init 700 = .ok (.iconst 0, 1) := o3 ac_cX12_init_688 12 rfl
theorem dX12_init_701 : decode cX12_init 701 = .ok (.invokestatic 144, 3) := o184 ac_cX12_init_688 13 0 144 rfl
def kb_cX12_init_704 : List Nat := [80, 42, 180, 0, 34, 16, 17, 16, 119, 16, 104, 16, 105, 16, 99, 16, 104, 3, 3, 184]
theorem ac_cX12_init_704 : AL cX12_init 704 kb_cX12_init_704 := AL.of (m := 20) (by decide +kernel)
theorem dX12_init_704 : decode cX12_init 704 = .ok (.lastore, 1) := o80 ac_cX12_init_704 0 rfl
theorem dX12_init_705 : decode cX12_init 705 = .ok (.aload_n 0, 1) := o42 ac_cX12_init_704 1 rfl
theorem dX12_init_706 : decode cX12_init 706 = .ok (.getfield 34, 3) := o180 ac_cX12_init_704 2 0 34 rfl
theorem dX12_init_709 : decode cX12_init 709 = .ok (.bipush 17, 2) := o16p ac_cX12_init_704 5 17 rfl rfl
theorem dX12_init_711 : decode cX12_init 711 = .ok (.bipush 119, 2) := o16p ac_cX12_init_704 7 119 rfl rfl
theorem dX12_init_713 : decode cX12_init 713 = .ok (.bipush 104, 2) := o16p ac_cX12_init_704 9 104 rfl rfl
theorem dX12_init_715 : decode cX12_init 715 = .ok (.bipush 105, 2) := o16p ac_cX12_init_704 11 105 rfl rfl
theorem dX12_init_717 : decode cX12_init 717 = .ok (.bipush 99, 2) := o16p ac_cX12_init_704 13 99 rfl rfl
theorem dX12_init_719 : decode cX12_init 719 = .ok (.bipush 104, 2) := o16p ac_cX12_init_704 15 104 rfl rfl
def kb_cX12_init_720 : List Nat := [104, 3, 3, 184, 0, 144, 80, 42, 180, 0, 34, 16, 18, 16, 99, 16, 97, 16, 117, 16]
theorem ac_cX12_init_720 : AL cX12_init 720 kb_cX12_init_720 := AL.of (m := 20) (by decide +kernel)
theorem dX12_init_721 : decode cX12_init 721 = .ok (.iconst 0, 1) := o3 ac_cX12_init_720 1 rfl
theorem dX12_init_722 : decode cX12_init 722 = .ok (.iconst 0, 1) := o3 ac_cX12_init_720 2 rfl
theorem dX12_init_723 : decode cX12_init 723 = .ok (.invokestatic 144, 3) := o184 ac_cX12_init_720 3 0 144 rfl
theorem dX12_init_726 : decode cX12_init 726 = .ok (.lastore, 1) := o80 ac_cX12_init_720 6 rfl
theorem dX12_init_727 : decode cX12_init 727 = .ok (.aload_n 0, 1) := o42 ac_cX12_init_720 7 rfl
theorem dX12_init_728 : decode cX12_init 728 = .ok (.getfield 34, 3) := o180 ac_cX12_init_720 8 0 34 rfl
theorem dX12_init_731 : decode cX12_init 731 = .ok (.bipush 18, 2) := o16p ac_cX12_init_720 11 18 rfl rfl
theorem dX12_init_733 : decode cX12_init 733 = .ok (.bipush 99, 2) := o16p ac_cX12_init_720 13 99 rfl rfl
theorem dX12_init_735 : decode cX12_init 735 = .ok (.bipush 97, 2) := o16p ac_cX12_init_720 15 97 rfl rfl
def kb_cX12_init_736 : List Nat := [97, 16, 117, 16, 103, 16, 104, 16, 116, 3, 184, 0, 144, 80, 42, 180, 0, 34, 16, 19]
theorem ac_cX12_init_736 : AL cX12_init 736 kb_cX12_init_736 := AL.of (m := 20) (by decide +kernel)
theorem dX12_init_737 : decode cX12_init 737 = .ok (.bipush 117, 2) := o16p ac_cX12_init_736 1 117 rfl rfl
theorem dX12_init_739 : decode cX12_init 739 = .ok (.bipush 103, 2) := o16p ac_cX12_init_736 3 103 rfl rfl
theorem dX12_init_741 : decode cX12_init 741 = .ok (.bipush 104, 2) := o16p ac_cX12_init_736 5 104 rfl rfl
theorem dX12_init_743 : decode cX12_init 743 = .ok (.bipush 116, 2) := o16p ac_cX12_init_736 7 116 rfl rfl
theorem dX12_init_745 : decode cX12_init 745 = .ok (.iconst 0, 1) := o3 ac_cX12_init_736 9 rfl
theorem dX12_init_746 : decode cX12_init 746 = .ok (.invokestatic 144, 3) := o184 ac_cX12_init_736 10 0 144 rfl
theorem dX12_init_749 : decode cX12_init 749 = .ok (.lastore, 1) := o80 ac_cX12_init_736 13 rfl
theorem dX12_init_750 : decode cX12_init 750 = .ok (.aload_n 0, 1) := o42 ac_cX12_init_736 14 rfl
theorem dX12_init_751 : decode cX12_init 751 = .ok (.getfield 34, 3) := o180 ac_cX12_init_736 15 0 34 rfl
def kb_cX12_init_752 : List Nat := [0, 34, 16, 19, 16, 104, 16, 97, 16, 110, 16, 100, 3, 3, 3, 184, 0, 144, 80, 42]
theorem ac_cX12_init_752 : AL cX12_init 752 kb_cX12_init_752 := AL.of (m := 20) (by decide +kernel)
theorem dX12_init_754 : decode cX12_init 754 = .ok (.bipush 19, 2) := o16p ac_cX12_init_752 2 19 rfl rfl
theorem dX12_init_756 : decode cX12_init 756 = .ok (.bipush 104, 2) := o16p ac_cX12_init_752 4 104 rfl rfl

theorem dX12_init_758 : decode cX12_init 758 = .ok (.bipush 97, 2) := o16p ac_cX12_init_752 6 97 rfl rfl
theorem dX12_init_760 : decode cX12_init 760 = .ok (.bipush 110, 2) := o16p ac_cX12_init_752 8 110 rfl rfl
theorem dX12_init_762 : decode cX12_init 762 = .ok (.bipush 100, 2) := o16p ac_cX12_init_752 10 100 rfl rfl
theorem dX12_init_764 : decode cX12_init 764 = .ok (.iconst 0, 1) := o3 ac_cX12_init_752 12 rfl
theorem dX12_init_765 : decode cX12_init 765 = .ok (.iconst 0, 1) := o3 ac_cX12_init_752 13 rfl
theorem dX12_init_766 : decode cX12_init 766 = .ok (.iconst 0, 1) := o3 ac_cX12_init_752 14 rfl
theorem dX12_init_767 : decode cX12_init 767 = .ok (.invokestatic 144, 3) := o184 ac_cX12_init_752 15 0 144 rfl
def kb_cX12_init_768 : List Nat := [0, 144, 80, 42, 182, 0, 148, 42, 182, 0, 151, 177]
theorem ac_cX12_init_768 : AL cX12_init 768 kb_cX12_init_768 := AL.of (m := 12) (by decide +kernel)
theorem dX12_init_770 : decode cX12_init 770 = .ok (.lastore, 1) := o80 ac_cX12_init_768 2 rfl
theorem dX12_init_771 : decode cX12_init 771 = .ok (.aload_n 0, 1) := o42 ac_cX12_init_768 3 rfl
theorem dX12_init_772 : decode cX12_init 772 = .ok (.invokevirtual 148, 3) := o182 ac_cX12_init_768 4 0 148 rfl
theorem dX12_init_775 : decode cX12_init 775 = .ok (.aload_n 0, 1) := o42 ac_cX12_init_768 7 rfl
theorem dX12_init_776 : decode cX12_init 776 = .ok (.invokevirtual 151, 3) := o182 ac_cX12_init_768 8 0 151 rfl
theorem dX12_init_779 : decode cX12_init 779 = .ok (.return_, 1) := o177 ac_cX12_init_768 11 rfl

def idM : List Nat := [236, 237, 238, 239, 240, 241, 242, 243, 244, 245, 246, 247, 248, 249, 250, 251, 252, 253, 254, 255, 256, 257, 258, 259, 260, 261, 262, 263, 264, 265, 266, 267, 268, 269, 270, 271, 272, 273, 274, 275, 276]
theorem idM_in : ∀ i, 236 ≤ i ∧ i < 277 → i ∈ idM := by
  have h : ∀ k, k < 41 → 236 + k ∈ idM := by decide +kernel
  intro i hi
  have := h (i - 236) (by omega)
  rwa [show 236 + (i - 236) = i by omega] at this
set_option maxHeartbeats 40000000 in
set_option maxRecDepth 100000 in
theorem m_tail {Γ : GT} {ad : Nat → Nat} {ca : Nat → ClassId} {l0 : Launch} {D0 : va_G} (C : CT idM ad ca Γ cX12_init yX12_init.cls l0 D0 2 48 1) (Rt : RV idM ad ca Γ cX12_init (fun σ => agree idM σ s0)) : AW idM ad ca Γ 340 [some (.ref (ad 236))] [] (hI (fun _ _ => 0, fun _ _ => 0, fun _ => 0) 236 17 (-1)) := by
  have hid := idM_in
  show AW idM ad ca _ 340 [some (.ref (ad 236))] [] _
  refine a_aload_n C dX12_init_340 (i := 0) rfl rfl ?_
  refine a_iconst C dX12_init_341 (v := 0) rfl ?_
  refine a_callVv C (i := 236) kd_236 (hid 236 (by decide)) ⟨_, _, rfl⟩ (by decide) (i_plain hid) mi_X12_plain ml_RX12_140 rfl rfl (Nat.le_of_ble_eq_true rfl) (Nat.le_of_ble_eq_true rfl) (Nat.le_of_ble_eq_true rfl) dX12_init_342 (fun σ2 q3 => ?_)
  subst q3
  refine a_aload_n C dX12_init_345 (i := 0) rfl rfl ?_
  refine a_get C fl_RX12_34 (i := 236) kd_236 (hid 236 (by decide)) (v := .ref (ad 243)) rfl dX12_init_346 ?_
  refine a_iconst C dX12_init_349 (v := 0) rfl ?_
  refine a_bipush C dX12_init_350 (v := 116) rfl ?_
  refine a_bipush C dX12_init_352 (v := 104) rfl ?_
  refine a_bipush C dX12_init_354 (v := 105) rfl ?_
  refine a_bipush C dX12_init_356 (v := 110) rfl ?_
  refine a_bipush C dX12_init_358 (v := 103) rfl ?_
  refine a_iconst C dX12_init_360 (v := 0) rfl ?_
  refine a_iconst C dX12_init_361 (v := 0) rfl ?_
  refine a_callSl C (i_word_0 hid) ms_X12_word ml_RX12_144 rfl rfl (Nat.le_of_ble_eq_true rfl) (Nat.le_of_ble_eq_true rfl) (Nat.le_of_ble_eq_true rfl) dX12_init_362 (fun r4 σ5 q6 => ?_)
  obtain ⟨rfl, q6⟩ := q6
  rw [q6]
  refine a_last C (i := 243) 0 kd_243 (hid 243 (by decide)) (by decide) rfl (by rw [al_243]; decide) dX12_init_365 ?_
  refine a_aload_n C dX12_init_366 (i := 0) rfl rfl ?_
  refine a_get C fl_RX12_34 (i := 236) kd_236 (hid 236 (by decide)) (v := .ref (ad 243)) rfl dX12_init_367 ?_
  refine a_iconst C dX12_init_370 (v := 1) rfl ?_
  refine a_bipush C dX12_init_371 (v := 112) rfl ?_
  refine a_bipush C dX12_init_373 (v := 97) rfl ?_
  refine a_bipush C dX12_init_375 (v := 116) rfl ?_
  refine a_bipush C dX12_init_377 (v := 116) rfl ?_
  refine a_bipush C dX12_init_379 (v := 101) rfl ?_
  refine a_bipush C dX12_init_381 (v := 114) rfl ?_
  refine a_bipush C dX12_init_383 (v := 110) rfl ?_
  refine a_callSl C (i_word_1 hid) ms_X12_word ml_RX12_144 rfl rfl (Nat.le_of_ble_eq_true rfl) (Nat.le_of_ble_eq_true rfl) (Nat.le_of_ble_eq_true rfl) dX12_init_385 (fun r7 σ8 q9 => ?_)
  obtain ⟨rfl, q9⟩ := q9
  rw [q9]
  refine a_last C (i := 243) 1 kd_243 (hid 243 (by decide)) (by decide) rfl (by rw [al_243]; decide) dX12_init_388 ?_
  refine a_aload_n C dX12_init_389 (i := 0) rfl rfl ?_
  refine a_get C fl_RX12_34 (i := 236) kd_236 (hid 236 (by decide)) (v := .ref (ad 243)) rfl dX12_init_390 ?_
  refine a_iconst C dX12_init_393 (v := 2) rfl ?_
  refine a_bipush C dX12_init_394 (v := 116) rfl ?_
  refine a_bipush C dX12_init_396 (v := 105) rfl ?_
  refine a_bipush C dX12_init_398 (v := 114) rfl ?_
  refine a_bipush C dX12_init_400 (v := 101) rfl ?_
  refine a_bipush C dX12_init_402 (v := 115) rfl ?_
  refine a_iconst C dX12_init_404 (v := 0) rfl ?_
  refine a_iconst C dX12_init_405 (v := 0) rfl ?_
  refine a_callSl C (i_word_2 hid) ms_X12_word ml_RX12_144 rfl rfl (Nat.le_of_ble_eq_true rfl) (Nat.le_of_ble_eq_true rfl) (Nat.le_of_ble_eq_true rfl) dX12_init_406 (fun r10 σ11 q12 => ?_)
  obtain ⟨rfl, q12⟩ := q12
  rw [q12]
  refine a_last C (i := 243) 2 kd_243 (hid 243 (by decide)) (by decide) rfl (by rw [al_243]; decide) dX12_init_409 ?_
  refine a_aload_n C dX12_init_410 (i := 0) rfl rfl ?_
  refine a_get C fl_RX12_34 (i := 236) kd_236 (hid 236 (by decide)) (v := .ref (ad 243)) rfl dX12_init_411 ?_
  refine a_iconst C dX12_init_414 (v := 3) rfl ?_
  refine a_bipush C dX12_init_415 (v := 100) rfl ?_
  refine a_bipush C dX12_init_417 (v := 114) rfl ?_
  refine a_bipush C dX12_init_419 (v := 111) rfl ?_
  refine a_bipush C dX12_init_421 (v := 112) rfl ?_
  refine a_bipush C dX12_init_423 (v := 115) rfl ?_
  refine a_iconst C dX12_init_425 (v := 0) rfl ?_
  refine a_iconst C dX12_init_426 (v := 0) rfl ?_
  refine a_callSl C (i_word_3 hid) ms_X12_word ml_RX12_144 rfl rfl (Nat.le_of_ble_eq_true rfl) (Nat.le_of_ble_eq_true rfl) (Nat.le_of_ble_eq_true rfl) dX12_init_427 (fun r13 σ14 q15 => ?_)
  obtain ⟨rfl, q15⟩ := q15
  rw [q15]
  refine a_last C (i := 243) 3 kd_243 (hid 243 (by decide)) (by decide) rfl (by rw [al_243]; decide) dX12_init_430 ?_
  refine a_aload_n C dX12_init_431 (i := 0) rfl rfl ?_
  refine a_get C fl_RX12_34 (i := 236) kd_236 (hid 236 (by decide)) (v := .ref (ad 243)) rfl dX12_init_432 ?_
  refine a_iconst C dX12_init_435 (v := 4) rfl ?_
  refine a_bipush C dX12_init_436 (v := 102) rfl ?_
  refine a_bipush C dX12_init_438 (v := 111) rfl ?_
  refine a_bipush C dX12_init_440 (v := 114) rfl ?_
  refine a_bipush C dX12_init_442 (v := 99) rfl ?_
  refine a_bipush C dX12_init_444 (v := 101) rfl ?_
  refine a_iconst C dX12_init_446 (v := 0) rfl ?_
  refine a_iconst C dX12_init_447 (v := 0) rfl ?_
  refine a_callSl C (i_word_4 hid) ms_X12_word ml_RX12_144 rfl rfl (Nat.le_of_ble_eq_true rfl) (Nat.le_of_ble_eq_true rfl) (Nat.le_of_ble_eq_true rfl) dX12_init_448 (fun r16 σ17 q18 => ?_)
  obtain ⟨rfl, q18⟩ := q18
  rw [q18]
  refine a_last C (i := 243) 4 kd_243 (hid 243 (by decide)) (by decide) rfl (by rw [al_243]; decide) dX12_init_451 ?_
  refine a_aload_n C dX12_init_452 (i := 0) rfl rfl ?_
  refine a_get C fl_RX12_34 (i := 236) kd_236 (hid 236 (by decide)) (v := .ref (ad 243)) rfl dX12_init_453 ?_
  refine a_iconst C dX12_init_456 (v := 5) rfl ?_
  refine a_bipush C dX12_init_457 (v := 112) rfl ?_
  refine a_bipush C dX12_init_459 (v := 97) rfl ?_
  refine a_bipush C dX12_init_461 (v := 121) rfl ?_
  refine a_bipush C dX12_init_463 (v := 115) rfl ?_
  refine a_iconst C dX12_init_465 (v := 0) rfl ?_
  refine a_iconst C dX12_init_466 (v := 0) rfl ?_
  refine a_iconst C dX12_init_467 (v := 0) rfl ?_
  refine a_callSl C (i_word_5 hid) ms_X12_word ml_RX12_144 rfl rfl (Nat.le_of_ble_eq_true rfl) (Nat.le_of_ble_eq_true rfl) (Nat.le_of_ble_eq_true rfl) dX12_init_468 (fun r19 σ20 q21 => ?_)
  obtain ⟨rfl, q21⟩ := q21
  rw [q21]
  refine a_last C (i := 243) 5 kd_243 (hid 243 (by decide)) (by decide) rfl (by rw [al_243]; decide) dX12_init_471 ?_
  refine a_aload_n C dX12_init_472 (i := 0) rfl rfl ?_
  refine a_get C fl_RX12_34 (i := 236) kd_236 (hid 236 (by decide)) (v := .ref (ad 243)) rfl dX12_init_473 ?_
  refine a_bipush C dX12_init_476 (v := 6) rfl ?_
  refine a_bipush C dX12_init_478 (v := 114) rfl ?_
  refine a_bipush C dX12_init_480 (v := 101) rfl ?_
  refine a_bipush C dX12_init_482 (v := 115) rfl ?_
  refine a_bipush C dX12_init_484 (v := 116) rfl ?_
  refine a_bipush C dX12_init_486 (v := 115) rfl ?_
  refine a_iconst C dX12_init_488 (v := 0) rfl ?_
  refine a_iconst C dX12_init_489 (v := 0) rfl ?_
  refine a_callSl C (i_word_6 hid) ms_X12_word ml_RX12_144 rfl rfl (Nat.le_of_ble_eq_true rfl) (Nat.le_of_ble_eq_true rfl) (Nat.le_of_ble_eq_true rfl) dX12_init_490 (fun r22 σ23 q24 => ?_)
  obtain ⟨rfl, q24⟩ := q24
  rw [q24]
  refine a_last C (i := 243) 6 kd_243 (hid 243 (by decide)) (by decide) rfl (by rw [al_243]; decide) dX12_init_493 ?_
  refine a_aload_n C dX12_init_494 (i := 0) rfl rfl ?_
  refine a_get C fl_RX12_34 (i := 236) kd_236 (hid 236 (by decide)) (v := .ref (ad 243)) rfl dX12_init_495 ?_
  refine a_bipush C dX12_init_498 (v := 7) rfl ?_
  refine a_bipush C dX12_init_500 (v := 115) rfl ?_
  refine a_bipush C dX12_init_502 (v := 101) rfl ?_
  refine a_bipush C dX12_init_504 (v := 101) rfl ?_
  refine a_bipush C dX12_init_506 (v := 100) rfl ?_
  refine a_iconst C dX12_init_508 (v := 0) rfl ?_
  refine a_iconst C dX12_init_509 (v := 0) rfl ?_
  refine a_iconst C dX12_init_510 (v := 0) rfl ?_
  refine a_callSl C (i_word_7 hid) ms_X12_word ml_RX12_144 rfl rfl (Nat.le_of_ble_eq_true rfl) (Nat.le_of_ble_eq_true rfl) (Nat.le_of_ble_eq_true rfl) dX12_init_511 (fun r25 σ26 q27 => ?_)
  obtain ⟨rfl, q27⟩ := q27
  rw [q27]
  refine a_last C (i := 243) 7 kd_243 (hid 243 (by decide)) (by decide) rfl (by rw [al_243]; decide) dX12_init_514 ?_
  refine a_aload_n C dX12_init_515 (i := 0) rfl rfl ?_
  refine a_get C fl_RX12_34 (i := 236) kd_236 (hid 236 (by decide)) (v := .ref (ad 243)) rfl dX12_init_516 ?_
  refine a_bipush C dX12_init_519 (v := 8) rfl ?_
  refine a_bipush C dX12_init_521 (v := 105) rfl ?_
  refine a_bipush C dX12_init_523 (v := 102) rfl ?_
  refine a_iconst C dX12_init_525 (v := 0) rfl ?_
  refine a_iconst C dX12_init_526 (v := 0) rfl ?_
  refine a_iconst C dX12_init_527 (v := 0) rfl ?_
  refine a_iconst C dX12_init_528 (v := 0) rfl ?_
  refine a_iconst C dX12_init_529 (v := 0) rfl ?_
  refine a_callSl C (i_word_8 hid) ms_X12_word ml_RX12_144 rfl rfl (Nat.le_of_ble_eq_true rfl) (Nat.le_of_ble_eq_true rfl) (Nat.le_of_ble_eq_true rfl) dX12_init_530 (fun r28 σ29 q30 => ?_)
  obtain ⟨rfl, q30⟩ := q30
  rw [q30]
  refine a_last C (i := 243) 8 kd_243 (hid 243 (by decide)) (by decide) rfl (by rw [al_243]; decide) dX12_init_533 ?_
  refine a_aload_n C dX12_init_534 (i := 0) rfl rfl ?_
  refine a_get C fl_RX12_34 (i := 236) kd_236 (hid 236 (by decide)) (v := .ref (ad 243)) rfl dX12_init_535 ?_
  refine a_bipush C dX12_init_538 (v := 9) rfl ?_
  refine a_bipush C dX12_init_540 (v := 116) rfl ?_
  refine a_bipush C dX12_init_542 (v := 104) rfl ?_
  refine a_bipush C dX12_init_544 (v := 101) rfl ?_
  refine a_bipush C dX12_init_546 (v := 110) rfl ?_
  refine a_iconst C dX12_init_548 (v := 0) rfl ?_
  refine a_iconst C dX12_init_549 (v := 0) rfl ?_
  refine a_iconst C dX12_init_550 (v := 0) rfl ?_
  refine a_callSl C (i_word_9 hid) ms_X12_word ml_RX12_144 rfl rfl (Nat.le_of_ble_eq_true rfl) (Nat.le_of_ble_eq_true rfl) (Nat.le_of_ble_eq_true rfl) dX12_init_551 (fun r31 σ32 q33 => ?_)
  obtain ⟨rfl, q33⟩ := q33
  rw [q33]
  refine a_last C (i := 243) 9 kd_243 (hid 243 (by decide)) (by decide) rfl (by rw [al_243]; decide) dX12_init_554 ?_
  refine a_aload_n C dX12_init_555 (i := 0) rfl rfl ?_
  refine a_get C fl_RX12_34 (i := 236) kd_236 (hid 236 (by decide)) (v := .ref (ad 243)) rfl dX12_init_556 ?_
  refine a_bipush C dX12_init_559 (v := 10) rfl ?_
  refine a_bipush C dX12_init_561 (v := 101) rfl ?_
  refine a_bipush C dX12_init_563 (v := 108) rfl ?_
  refine a_bipush C dX12_init_565 (v := 115) rfl ?_
  refine a_bipush C dX12_init_567 (v := 101) rfl ?_
  refine a_iconst C dX12_init_569 (v := 0) rfl ?_
  refine a_iconst C dX12_init_570 (v := 0) rfl ?_
  refine a_iconst C dX12_init_571 (v := 0) rfl ?_
  refine a_callSl C (i_word_10 hid) ms_X12_word ml_RX12_144 rfl rfl (Nat.le_of_ble_eq_true rfl) (Nat.le_of_ble_eq_true rfl) (Nat.le_of_ble_eq_true rfl) dX12_init_572 (fun r34 σ35 q36 => ?_)
  obtain ⟨rfl, q36⟩ := q36
  rw [q36]
  refine a_last C (i := 243) 10 kd_243 (hid 243 (by decide)) (by decide) rfl (by rw [al_243]; decide) dX12_init_575 ?_
  refine a_aload_n C dX12_init_576 (i := 0) rfl rfl ?_
  refine a_get C fl_RX12_34 (i := 236) kd_236 (hid 236 (by decide)) (v := .ref (ad 243)) rfl dX12_init_577 ?_
  refine a_bipush C dX12_init_580 (v := 11) rfl ?_
  refine a_bipush C dX12_init_582 (v := 119) rfl ?_
  refine a_bipush C dX12_init_584 (v := 101) rfl ?_
  refine a_bipush C dX12_init_586 (v := 105) rfl ?_
  refine a_bipush C dX12_init_588 (v := 103) rfl ?_
  refine a_bipush C dX12_init_590 (v := 104) rfl ?_
  refine a_bipush C dX12_init_592 (v := 116) rfl ?_
  refine a_iconst C dX12_init_594 (v := 0) rfl ?_
  refine a_callSl C (i_word_11 hid) ms_X12_word ml_RX12_144 rfl rfl (Nat.le_of_ble_eq_true rfl) (Nat.le_of_ble_eq_true rfl) (Nat.le_of_ble_eq_true rfl) dX12_init_595 (fun r37 σ38 q39 => ?_)
  obtain ⟨rfl, q39⟩ := q39
  rw [q39]
  refine a_last C (i := 243) 11 kd_243 (hid 243 (by decide)) (by decide) rfl (by rw [al_243]; decide) dX12_init_598 ?_
  refine a_aload_n C dX12_init_599 (i := 0) rfl rfl ?_
  refine a_get C fl_RX12_34 (i := 236) kd_236 (hid 236 (by decide)) (v := .ref (ad 243)) rfl dX12_init_600 ?_
  refine a_bipush C dX12_init_603 (v := 12) rfl ?_
  refine a_bipush C dX12_init_605 (v := 101) rfl ?_
  refine a_bipush C dX12_init_607 (v := 100) rfl ?_
  refine a_bipush C dX12_init_609 (v := 103) rfl ?_
  refine a_bipush C dX12_init_611 (v := 101) rfl ?_
  refine a_iconst C dX12_init_613 (v := 0) rfl ?_
  refine a_iconst C dX12_init_614 (v := 0) rfl ?_
  refine a_iconst C dX12_init_615 (v := 0) rfl ?_
  refine a_callSl C (i_word_12 hid) ms_X12_word ml_RX12_144 rfl rfl (Nat.le_of_ble_eq_true rfl) (Nat.le_of_ble_eq_true rfl) (Nat.le_of_ble_eq_true rfl) dX12_init_616 (fun r40 σ41 q42 => ?_)
  obtain ⟨rfl, q42⟩ := q42
  rw [q42]
  refine a_last C (i := 243) 12 kd_243 (hid 243 (by decide)) (by decide) rfl (by rw [al_243]; decide) dX12_init_619 ?_
  refine a_aload_n C dX12_init_620 (i := 0) rfl rfl ?_
  refine a_get C fl_RX12_34 (i := 236) kd_236 (hid 236 (by decide)) (v := .ref (ad 243)) rfl dX12_init_621 ?_
  refine a_bipush C dX12_init_624 (v := 13) rfl ?_
  refine a_bipush C dX12_init_626 (v := 104) rfl ?_
  refine a_bipush C dX12_init_628 (v := 101) rfl ?_
  refine a_bipush C dX12_init_630 (v := 105) rfl ?_
  refine a_bipush C dX12_init_632 (v := 103) rfl ?_
  refine a_bipush C dX12_init_634 (v := 104) rfl ?_
  refine a_bipush C dX12_init_636 (v := 116) rfl ?_
  refine a_iconst C dX12_init_638 (v := 0) rfl ?_
  refine a_callSl C (i_word_13 hid) ms_X12_word ml_RX12_144 rfl rfl (Nat.le_of_ble_eq_true rfl) (Nat.le_of_ble_eq_true rfl) (Nat.le_of_ble_eq_true rfl) dX12_init_639 (fun r43 σ44 q45 => ?_)
  obtain ⟨rfl, q45⟩ := q45
  rw [q45]
  refine a_last C (i := 243) 13 kd_243 (hid 243 (by decide)) (by decide) rfl (by rw [al_243]; decide) dX12_init_642 ?_
  refine a_aload_n C dX12_init_643 (i := 0) rfl rfl ?_
  refine a_get C fl_RX12_34 (i := 236) kd_236 (hid 236 (by decide)) (v := .ref (ad 243)) rfl dX12_init_644 ?_
  refine a_bipush C dX12_init_647 (v := 14) rfl ?_
  refine a_bipush C dX12_init_649 (v := 98) rfl ?_
  refine a_bipush C dX12_init_651 (v := 101) rfl ?_
  refine a_bipush C dX12_init_653 (v := 97) rfl ?_
  refine a_bipush C dX12_init_655 (v := 116) rfl ?_
  refine a_iconst C dX12_init_657 (v := 0) rfl ?_
  refine a_iconst C dX12_init_658 (v := 0) rfl ?_
  refine a_iconst C dX12_init_659 (v := 0) rfl ?_
  refine a_callSl C (i_word_14 hid) ms_X12_word ml_RX12_144 rfl rfl (Nat.le_of_ble_eq_true rfl) (Nat.le_of_ble_eq_true rfl) (Nat.le_of_ble_eq_true rfl) dX12_init_660 (fun r46 σ47 q48 => ?_)
  obtain ⟨rfl, q48⟩ := q48
  rw [q48]
  refine a_last C (i := 243) 14 kd_243 (hid 243 (by decide)) (by decide) rfl (by rw [al_243]; decide) dX12_init_663 ?_
  refine a_aload_n C dX12_init_664 (i := 0) rfl rfl ?_
  refine a_get C fl_RX12_34 (i := 236) kd_236 (hid 236 (by decide)) (v := .ref (ad 243)) rfl dX12_init_665 ?_
  refine a_bipush C dX12_init_668 (v := 15) rfl ?_
  refine a_bipush C dX12_init_670 (v := 116) rfl ?_
  refine a_bipush C dX12_init_672 (v := 105) rfl ?_
  refine a_bipush C dX12_init_674 (v := 114) rfl ?_
  refine a_bipush C dX12_init_676 (v := 101) rfl ?_
  refine a_bipush C dX12_init_678 (v := 100) rfl ?_
  refine a_iconst C dX12_init_680 (v := 0) rfl ?_
  refine a_iconst C dX12_init_681 (v := 0) rfl ?_
  refine a_callSl C (i_word_15 hid) ms_X12_word ml_RX12_144 rfl rfl (Nat.le_of_ble_eq_true rfl) (Nat.le_of_ble_eq_true rfl) (Nat.le_of_ble_eq_true rfl) dX12_init_682 (fun r49 σ50 q51 => ?_)
  obtain ⟨rfl, q51⟩ := q51
  rw [q51]
  refine a_last C (i := 243) 15 kd_243 (hid 243 (by decide)) (by decide) rfl (by rw [al_243]; decide) dX12_init_685 ?_
  refine a_aload_n C dX12_init_686 (i := 0) rfl rfl ?_
  refine a_get C fl_RX12_34 (i := 236) kd_236 (hid 236 (by decide)) (v := .ref (ad 243)) rfl dX12_init_687 ?_
  refine a_bipush C dX12_init_690 (v := 16) rfl ?_
  refine a_bipush C dX12_init_692 (v := 117) rfl ?_
  refine a_bipush C dX12_init_694 (v := 112) rfl ?_
  refine a_iconst C dX12_init_696 (v := 0) rfl ?_
  refine a_iconst C dX12_init_697 (v := 0) rfl ?_
  refine a_iconst C dX12_init_698 (v := 0) rfl ?_
  refine a_iconst C dX12_init_699 (v := 0) rfl ?_
  refine a_iconst C dX12_init_700 (v := 0) rfl ?_
  refine a_callSl C (i_word_16 hid) ms_X12_word ml_RX12_144 rfl rfl (Nat.le_of_ble_eq_true rfl) (Nat.le_of_ble_eq_true rfl) (Nat.le_of_ble_eq_true rfl) dX12_init_701 (fun r52 σ53 q54 => ?_)
  obtain ⟨rfl, q54⟩ := q54
  rw [q54]
  refine a_last C (i := 243) 16 kd_243 (hid 243 (by decide)) (by decide) rfl (by rw [al_243]; decide) dX12_init_704 ?_
  refine a_aload_n C dX12_init_705 (i := 0) rfl rfl ?_
  refine a_get C fl_RX12_34 (i := 236) kd_236 (hid 236 (by decide)) (v := .ref (ad 243)) rfl dX12_init_706 ?_
  refine a_bipush C dX12_init_709 (v := 17) rfl ?_
  refine a_bipush C dX12_init_711 (v := 119) rfl ?_
  refine a_bipush C dX12_init_713 (v := 104) rfl ?_
  refine a_bipush C dX12_init_715 (v := 105) rfl ?_
  refine a_bipush C dX12_init_717 (v := 99) rfl ?_
  refine a_bipush C dX12_init_719 (v := 104) rfl ?_
  refine a_iconst C dX12_init_721 (v := 0) rfl ?_
  refine a_iconst C dX12_init_722 (v := 0) rfl ?_
  refine a_callSl C (i_word_17 hid) ms_X12_word ml_RX12_144 rfl rfl (Nat.le_of_ble_eq_true rfl) (Nat.le_of_ble_eq_true rfl) (Nat.le_of_ble_eq_true rfl) dX12_init_723 (fun r55 σ56 q57 => ?_)
  obtain ⟨rfl, q57⟩ := q57
  rw [q57]
  refine a_last C (i := 243) 17 kd_243 (hid 243 (by decide)) (by decide) rfl (by rw [al_243]; decide) dX12_init_726 ?_
  refine a_aload_n C dX12_init_727 (i := 0) rfl rfl ?_
  refine a_get C fl_RX12_34 (i := 236) kd_236 (hid 236 (by decide)) (v := .ref (ad 243)) rfl dX12_init_728 ?_
  refine a_bipush C dX12_init_731 (v := 18) rfl ?_
  refine a_bipush C dX12_init_733 (v := 99) rfl ?_
  refine a_bipush C dX12_init_735 (v := 97) rfl ?_
  refine a_bipush C dX12_init_737 (v := 117) rfl ?_
  refine a_bipush C dX12_init_739 (v := 103) rfl ?_
  refine a_bipush C dX12_init_741 (v := 104) rfl ?_
  refine a_bipush C dX12_init_743 (v := 116) rfl ?_
  refine a_iconst C dX12_init_745 (v := 0) rfl ?_
  refine a_callSl C (i_word_18 hid) ms_X12_word ml_RX12_144 rfl rfl (Nat.le_of_ble_eq_true rfl) (Nat.le_of_ble_eq_true rfl) (Nat.le_of_ble_eq_true rfl) dX12_init_746 (fun r58 σ59 q60 => ?_)
  obtain ⟨rfl, q60⟩ := q60
  rw [q60]
  refine a_last C (i := 243) 18 kd_243 (hid 243 (by decide)) (by decide) rfl (by rw [al_243]; decide) dX12_init_749 ?_
  refine a_aload_n C dX12_init_750 (i := 0) rfl rfl ?_
  refine a_get C fl_RX12_34 (i := 236) kd_236 (hid 236 (by decide)) (v := .ref (ad 243)) rfl dX12_init_751 ?_
  refine a_bipush C dX12_init_754 (v := 19) rfl ?_
  refine a_bipush C dX12_init_756 (v := 104) rfl ?_
  refine a_bipush C dX12_init_758 (v := 97) rfl ?_
  refine a_bipush C dX12_init_760 (v := 110) rfl ?_
  refine a_bipush C dX12_init_762 (v := 100) rfl ?_
  refine a_iconst C dX12_init_764 (v := 0) rfl ?_
  refine a_iconst C dX12_init_765 (v := 0) rfl ?_
  refine a_iconst C dX12_init_766 (v := 0) rfl ?_
  refine a_callSl C (i_word_19 hid) ms_X12_word ml_RX12_144 rfl rfl (Nat.le_of_ble_eq_true rfl) (Nat.le_of_ble_eq_true rfl) (Nat.le_of_ble_eq_true rfl) dX12_init_767 (fun r61 σ62 q63 => ?_)
  obtain ⟨rfl, q63⟩ := q63
  rw [q63]
  refine a_last C (i := 243) 19 kd_243 (hid 243 (by decide)) (by decide) rfl (by rw [al_243]; decide) dX12_init_770 ?_
  refine a_aload_n C dX12_init_771 (i := 0) rfl rfl ?_
  refine a_callVv C (i := 236) kd_236 (hid 236 (by decide)) ⟨_, _, rfl⟩ (by decide) (i_begins hid rfl rfl rfl rfl) mi_X12_begins ml_RX12_148 rfl rfl (Nat.le_of_ble_eq_true rfl) (Nat.le_of_ble_eq_true rfl) (Nat.le_of_ble_eq_true rfl) dX12_init_772 (fun σ65 q66 => ?_)
  subst q66
  refine a_aload_n C dX12_init_775 (i := 0) rfl rfl ?_
  refine a_callVv C (i := 236) kd_236 (hid 236 (by decide)) ⟨_, _, rfl⟩ (by decide) (i_keepsRow hid rfl rfl rfl rfl rfl rfl rfl rfl rfl rfl rfl rfl rfl rfl rfl rfl rfl rfl rfl rfl rfl rfl rfl rfl rfl rfl rfl rfl rfl) mi_X12_keepsRow ml_RX12_151 rfl rfl (Nat.le_of_ble_eq_true rfl) (Nat.le_of_ble_eq_true rfl) (Nat.le_of_ble_eq_true rfl) dX12_init_776 (fun σ68 q69 => ?_)
  subst q69
  refine a_vret Rt dX12_init_779 ⟨fun i hi => ?_, fun h => absurd h (by decide)⟩
  simp only [idM, List.mem_cons, List.not_mem_nil, or_false] at hi
  rcases hi with rfl | rfl | rfl | rfl | rfl | rfl | rfl | rfl | rfl | rfl | rfl | rfl | rfl | rfl | rfl | rfl | rfl | rfl | rfl | rfl | rfl | rfl | rfl | rfl | rfl | rfl | rfl | rfl | rfl | rfl | rfl | rfl | rfl | rfl | rfl | rfl | rfl | rfl | rfl | rfl | rfl
  · decide +kernel
  · intro j _; exact ⟨rfl, rfl⟩
  · intro j _; exact ⟨rfl, rfl⟩
  · intro j _; exact ⟨rfl, rfl⟩
  · intro j _; exact ⟨rfl, rfl⟩
  · intro j _; exact ⟨rfl, rfl⟩
  · intro j _; exact ⟨rfl, rfl⟩
  · decide +kernel
  · intro j _; exact ⟨rfl, rfl⟩
  · decide +kernel
  · intro j _; exact ⟨rfl, rfl⟩
  · intro j _; exact ⟨rfl, rfl⟩
  · intro j _; exact ⟨rfl, rfl⟩
  · decide +kernel
  · intro j _; exact ⟨rfl, rfl⟩
  · intro j _; exact ⟨rfl, rfl⟩
  · decide +kernel
  · decide +kernel
  · decide +kernel
  · decide +kernel
  · intro j _; exact ⟨rfl, rfl⟩
  · intro j _; exact ⟨rfl, rfl⟩
  · intro j _; exact ⟨rfl, rfl⟩
  · intro j _; exact ⟨rfl, rfl⟩
  · intro j _; exact ⟨rfl, rfl⟩
  · intro j _; exact ⟨rfl, rfl⟩
  · intro j _; exact ⟨rfl, rfl⟩
  · intro j _; exact ⟨rfl, rfl⟩
  · intro j _; exact ⟨rfl, rfl⟩
  · intro j _; exact ⟨rfl, rfl⟩
  · decide +kernel
  · decide +kernel
  · intro j _; exact ⟨rfl, rfl⟩
  · intro j _; exact ⟨rfl, rfl⟩
  · intro j _; exact ⟨rfl, rfl⟩
  · intro j _; exact ⟨rfl, rfl⟩
  · intro j _; exact ⟨rfl, rfl⟩
  · intro j _; exact ⟨rfl, rfl⟩
  · intro j _; exact ⟨rfl, rfl⟩
  · intro j _; exact ⟨rfl, rfl⟩
  · intro j _; exact ⟨rfl, rfl⟩

/-! arrays just made, one behind another: number, length, kind; address, array class -/
abbrev ZT : Type := (Nat × Nat × Nat) × Nat × ClassId
def zW (z : ZT) : Nat × va_E := (z.2.1, .inl (z.2.2, z.1.2.1, if z.1.2.2 = 23 then .inr (.inl (fun _ => 0)) else .inl (fun _ => 0)))
def zT (z : ZT) : ClassId × FieldType := (z.2.2, aty z.1.2.2)
def zAd (b : Nat) (Z : List ZT) (i : Nat) : Nat := match Z[i - b]? with
  | some z => z.2.1
  | none => 0
def zCa (b : Nat) (Z : List ZT) (i : Nat) : ClassId := match Z[i - b]? with
  | some z => z.2.2
  | none => (Z.head?.map (fun z => z.2.2)).getD default
theorem zAd_at {b k : Nat} {Z : List ZT} {z : ZT} (h : Z[k]? = some z) : zAd b Z (b + k) = z.2.1 := by
  unfold zAd
  rw [Nat.add_sub_cancel_left, h]
theorem zCa_at {b k : Nat} {Z : List ZT} {z : ZT} (h : Z[k]? = some z) : zCa b Z (b + k) = z.2.2 := by
  unfold zCa
  rw [Nat.add_sub_cancel_left, h]
def zOk (b : Nat) (N : List (Nat × Nat × Nat)) : Bool := match N with
  | [] => true
  | x :: N => x.1 == b && al x.1 == x.2.1 && kd x.1 == x.2.2 && Nat.ble 20 x.2.2 && Nat.ble x.2.2 23 && zOk (b + 1) N
theorem zOk_at : ∀ {N : List (Nat × Nat × Nat)} {b k : Nat} {x : Nat × Nat × Nat}, zOk b N = true → N[k]? = some x → x.1 = b + k ∧ al x.1 = x.2.1 ∧ kd x.1 = x.2.2 ∧ 20 ≤ x.2.2 ∧ x.2.2 ≤ 23
  | [], b, k, x, h, hx => by simp at hx
  | y :: N, b, 0, x, h, hx => by
    simp only [zOk, Bool.and_eq_true, beq_iff_eq] at h
    obtain ⟨⟨⟨⟨⟨h1, h2⟩, h3⟩, h4⟩, h5⟩, -⟩ := h
    simp at hx
    subst hx
    exact ⟨h1, h2, h3, Nat.le_of_ble_eq_true h4, Nat.le_of_ble_eq_true h5⟩
  | y :: N, b, k + 1, x, h, hx => by
    simp only [zOk, Bool.and_eq_true] at h
    have hx' : N[k]? = some x := by simpa using hx
    have := zOk_at h.2 hx'
    exact ⟨by omega, this.2⟩
theorem ceK_arr {ad : Nat → Nat} {ca : Nat → ClassId} {n i : Nat} {g : Nat → Int32} {gl : Nat → Int64} {tx : Nat → Nat} (h1 : 20 ≤ n) (h2 : n ≤ 23) : ceK ad ca n i g gl tx = .inl (ca i, al i, if n = 23 then .inr (.inl gl) else .inl g) := by
  unfold ceK
  rw [if_neg (by omega)]
  by_cases h : n = 23
  · rw [if_pos h, if_pos h]
  · rw [if_neg h, if_neg h, if_pos (by omega)]
theorem z_cell {Z : List ZT} {b k : Nat} {z : ZT} {ad : Nat → Nat} {ca : Nat → ClassId} {g : Nat → Int32} {gl : Nat → Int64} {tx : Nat → Nat} (hN : zOk b (Z.map (fun z => z.1)) = true) (hz : Z[k]? = some z) (ha : ad (b + k) = z.2.1) (hc : ca (b + k) = z.2.2) (hg : g = fun _ => 0) (hgl : gl = fun _ => 0) : (ad z.1.1, ceK ad ca (kd z.1.1) z.1.1 g gl tx) = zW z := by
  have hx : (Z.map (fun z => z.1))[k]? = some z.1 := by rw [List.getElem?_map, hz]; rfl
  obtain ⟨h1, h2, h3, h4, h5⟩ := zOk_at hN hx
  rw [h3, ceK_arr h4 h5, h2, h1, ha, hc, hg, hgl]
  rfl
theorem z_world {Z : List ZT} {b : Nat} {ad : Nat → Nat} {ca : Nat → ClassId} {σ : HS} (hN : zOk b (Z.map (fun z => z.1)) = true) (ha : ∀ k z, Z[k]? = some z → ad (b + k) = z.2.1) (hc : ∀ k z, Z[k]? = some z → ca (b + k) = z.2.2) (h0 : ∀ i, b ≤ i → σ.1 i = fun _ => 0) (h1 : ∀ i, σ.2.1 i = fun _ => 0) : Z.map zW = mw (Z.map (fun z => z.1.1)) ad ca σ := by
  unfold mw
  rw [List.map_map]
  apply List.map_congr_left
  intro z hz
  obtain ⟨k, hk⟩ := List.getElem?_of_mem hz
  have hx : (Z.map (fun z => z.1))[k]? = some z.1 := by rw [List.getElem?_map, hk]; rfl
  have hb := (zOk_at hN hx).1
  have hb2 : b ≤ z.1.1 := by omega
  exact (z_cell hN hk (ha k z hk) (hc k z hk) (h0 _ hb2) (h1 _)).symm
theorem z_types {Z : List ZT} {b : Nat} {ca : Nat → ClassId} (hN : zOk b (Z.map (fun z => z.1)) = true) (hc : ∀ k z, Z[k]? = some z → ca (b + k) = z.2.2) : ∀ i ∈ Z.map (fun z => z.1.1), (ca i, aty (kd i)) ∈ Z.map zT := by
  intro i hi
  obtain ⟨z, hz, rfl⟩ := List.mem_map.mp hi
  obtain ⟨k, hk⟩ := List.getElem?_of_mem hz
  have hx : (Z.map (fun z => z.1))[k]? = some z.1 := by rw [List.getElem?_map, hk]; rfl
  obtain ⟨h1, h2, h3, h4, h5⟩ := zOk_at hN hx
  refine List.mem_map.mpr ⟨z, hz, ?_⟩
  show (z.2.2, aty z.1.2.2) = _
  rw [h3, h1, hc k z hk]
theorem m_world {Z : List ZT} {a : Nat} {ad : Nat → Nat} {ca : Nat → ClassId} {F : List Value} (hI1 : idM = 236 :: Z.map (fun z => z.1.1)) (hN : zOk 237 (Z.map (fun z => z.1)) = true) (ea : ad 236 = a) (ha : ∀ k z, Z[k]? = some z → ad (237 + k) = z.2.1) (hc : ∀ k z, Z[k]? = some z → ca (237 + k) = z.2.2)
    (hF : F = fsK ad 11 236 ((hI (fun _ _ => 0, fun _ _ => 0, fun _ => 0) 236 17 (-1)).1 236) ((hI (fun _ _ => 0, fun _ _ => 0, fun _ => 0) 236 17 (-1)).2.2)) : (a, .inr (11, F)) :: Z.map zW = mw idM ad ca (hI (fun _ _ => 0, fun _ _ => 0, fun _ => 0) 236 17 (-1)) := by
  rw [hI1, z_world (σ := hI (fun _ _ => 0, fun _ _ => 0, fun _ => 0) 236 17 (-1)) hN ha hc (fun i hi => hI_o (by omega)) (fun i => rfl)]
  unfold mw
  rw [List.map_cons, hF, ea, kd_236, ceK_ob (by decide)]
theorem m_types {Z : List ZT} {ca : Nat → ClassId} (hI1 : idM = 236 :: Z.map (fun z => z.1.1)) (hN : zOk 237 (Z.map (fun z => z.1)) = true) (hc : ∀ k z, Z[k]? = some z → ca (237 + k) = z.2.2) : ∀ q ∈ tys idM ca, q ∈ Z.map zT := by
  intro q hq
  obtain ⟨i, hi, rfl⟩ := List.mem_map.mp hq
  obtain ⟨h1, h2⟩ := List.mem_filter.mp hi
  rw [hI1] at h1
  rcases List.mem_cons.mp h1 with rfl | h1
  · rw [kd_236] at h2
    exact absurd h2 (by decide)
  · exact z_types hN hc i h1

