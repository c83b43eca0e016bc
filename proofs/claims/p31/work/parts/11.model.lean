theorem i32_m1 {x : Int32} (h : ¬ x < 0) : -1 < x := by
  have h1 := i32_nlt h
  rw [Int32.le_iff_toInt_le] at h1
  rw [Int32.lt_iff_toInt_lt]
  have e0 : (0 : Int32).toInt = 0 := by decide
  have e1 : (-1 : Int32).toInt = -1 := by decide
  omega
theorem dX12_in_0 : decode cX12_in 0 = .ok (.iload_n 0, 1) := by decide +kernel
theorem dX12_in_1 : decode cX12_in 1 = .ok (.iload_n 1, 1) := by decide +kernel
theorem dX12_in_2 : decode cX12_in 2 = .ok (.if_icmp .lt 12, 3) := by decide +kernel
theorem dX12_in_5 : decode cX12_in 5 = .ok (.iload_n 0, 1) := by decide +kernel
theorem dX12_in_6 : decode cX12_in 6 = .ok (.iload_n 2, 1) := by decide +kernel
theorem dX12_in_7 : decode cX12_in 7 = .ok (.if_icmp .gt 7, 3) := by decide +kernel
theorem dX12_in_10 : decode cX12_in 10 = .ok (.iconst 1, 1) := by decide +kernel
theorem dX12_in_11 : decode cX12_in 11 = .ok (.goto 4, 3) := by decide +kernel
theorem dX12_in_15 : decode cX12_in 15 = .ok (.ireturn, 1) := by decide +kernel
set_option maxHeartbeats 4000000 in
set_option maxRecDepth 100000 in
theorem m_in_yes {l : Launch} {D : va_G} {ids : List Nat} {ad : Nat → Nat} {ca : Nat → ClassId} {σ : HS} {p0 a b : Int32} (hid : ∀ i, i < 277 → i ∈ ids) (h1 : ¬ p0 < a) (h2 : p0 ≤ b) : Ki l D ids ad ca yX12_in cX12_in 3 .boolean 0 0 [.int p0, .int a, .int b] σ (fun r σ1 => r = 1 ∧ σ1 = σ) := by
  refine Ki.of (by decide) (Nat.le_of_ble_eq_true rfl) 0 (fun Γ C Rt => ?_)
  show AW ids ad ca Γ 0 [some (.int p0), some (.int a), some (.int b)] [] σ
  refine a_iload_n C dX12_in_0 (i := 0) rfl rfl ?_
  refine a_iload_n C dX12_in_1 (i := 1) rfl rfl ?_
  refine a_ic_lt C dX12_in_2 (tgt := 14) rfl (fun c1 => absurd c1 (h1)) (fun c1 => ?_)
  refine a_iload_n C dX12_in_5 (i := 0) rfl rfl ?_
  refine a_iload_n C dX12_in_6 (i := 2) rfl rfl ?_
  refine a_ic_gt C dX12_in_7 (tgt := 14) rfl (fun c2 => absurd c2 (Int32.not_lt.mpr h2)) (fun c2 => ?_)
  refine a_iconst C dX12_in_10 (v := 1) rfl ?_
  refine a_goto C dX12_in_11 (tgt := 15) rfl ?_
  exact a_iret Rt dX12_in_15 rfl (⟨rfl, rfl⟩)
theorem dX12_in_14 : decode cX12_in 14 = .ok (.iconst 0, 1) := by decide +kernel
set_option maxHeartbeats 4000000 in
set_option maxRecDepth 100000 in
theorem m_in_no {l : Launch} {D : va_G} {ids : List Nat} {ad : Nat → Nat} {ca : Nat → ClassId} {σ : HS} {p0 a b : Int32} (hid : ∀ i, i < 277 → i ∈ ids) (ho : p0 < a ∨ b < p0) : Ki l D ids ad ca yX12_in cX12_in 3 .boolean 0 0 [.int p0, .int a, .int b] σ (fun r σ1 => r = 0 ∧ σ1 = σ) := by
  refine Ki.of (by decide) (Nat.le_of_ble_eq_true rfl) 0 (fun Γ C Rt => ?_)
  show AW ids ad ca Γ 0 [some (.int p0), some (.int a), some (.int b)] [] σ
  refine a_iload_n C dX12_in_0 (i := 0) rfl rfl ?_
  refine a_iload_n C dX12_in_1 (i := 1) rfl rfl ?_
  refine a_ic_lt C dX12_in_2 (tgt := 14) rfl (fun c1 => ?_) (fun c1 => ?_)
  ·
    refine a_iconst C dX12_in_14 (v := 0) rfl ?_
    exact a_iret Rt dX12_in_15 rfl (⟨rfl, rfl⟩)
  ·
    refine a_iload_n C dX12_in_5 (i := 0) rfl rfl ?_
    refine a_iload_n C dX12_in_6 (i := 2) rfl rfl ?_
    refine a_ic_gt C dX12_in_7 (tgt := 14) rfl (fun c2 => ?_) (fun c2 => absurd c2 (fun q => q (ho.resolve_left c1)))
    refine a_iconst C dX12_in_14 (v := 0) rfl ?_
    exact a_iret Rt dX12_in_15 rfl (⟨rfl, rfl⟩)
theorem dX12_isThing_0 : decode cX12_isThing 0 = .ok (.iload_n 1, 1) := by decide +kernel
theorem dX12_isThing_1 : decode cX12_isThing 1 = .ok (.iconst 0, 1) := by decide +kernel
theorem dX12_isThing_2 : decode cX12_isThing 2 = .ok (.aload_n 0, 1) := by decide +kernel
theorem dX12_isThing_3 : decode cX12_isThing 3 = .ok (.getfield 43, 3) := by decide +kernel
theorem dX12_isThing_6 : decode cX12_isThing 6 = .ok (.aload_n 0, 1) := by decide +kernel
theorem dX12_isThing_7 : decode cX12_isThing 7 = .ok (.getfield 221, 3) := by decide +kernel
theorem dX12_isThing_10 : decode cX12_isThing 10 = .ok (.iaload, 1) := by decide +kernel
theorem dX12_isThing_11 : decode cX12_isThing 11 = .ok (.iconst 1, 1) := by decide +kernel
theorem dX12_isThing_12 : decode cX12_isThing 12 = .ok (.isub, 1) := by decide +kernel
theorem dX12_isThing_13 : decode cX12_isThing 13 = .ok (.invokestatic 301, 3) := by decide +kernel
theorem dX12_isThing_16 : decode cX12_isThing 16 = .ok (.ireturn, 1) := by decide +kernel
set_option maxHeartbeats 4000000 in
set_option maxRecDepth 100000 in
theorem m_isThing {l : Launch} {D : va_G} {ids : List Nat} {ad : Nat → Nat} {ca : Nat → ClassId} {σ : HS} {p0 : Int32} (hid : ∀ i, i < 277 → i ∈ ids) (h_236_18 : σ.1 236 18 = 0) (h_245_0 : σ.1 245 0 = 0) : Ki l D ids ad ca yX12_isThing cX12_isThing 2 .boolean 1 22 [.ref (ad 236), .int p0] σ (fun r σ1 => r = 0 ∧ σ1 = σ) := by
  refine Ki.of (by decide) (Nat.le_of_ble_eq_true rfl) 0 (fun Γ C Rt => ?_)
  show AW ids ad ca Γ 0 [some (.ref (ad 236)), some (.int p0)] [] σ
  refine a_iload_n C dX12_isThing_0 (i := 1) rfl rfl ?_
  refine a_iconst C dX12_isThing_1 (v := 0) rfl ?_
  refine a_aload_n C dX12_isThing_2 (i := 0) rfl rfl ?_
  refine a_get C fl_RX12_43 (i := 236) kd_236 (hid 236 (by decide)) (v := .ref (ad 245)) rfl dX12_isThing_3 ?_
  refine a_aload_n C dX12_isThing_6 (i := 0) rfl rfl ?_
  refine a_get C fl_RX12_221 (i := 236) kd_236 (hid 236 (by decide)) (v := .int 0) (congrArg (fun z => some (Value.int z)) h_236_18) dX12_isThing_7 ?_
  refine a_iald C (i := 245) 0 kd_245 (hid 245 (by decide)) (by decide) rfl (by rw [al_245]; decide) dX12_isThing_10 (v := 0) h_245_0 ?_
  refine a_iconst C dX12_isThing_11 (v := 1) rfl ?_
  refine a_isub C dX12_isThing_12 ?_
  refine a_callSi C (m_in_no hid ((Classical.em (p0 < 0)).imp id i32_m1)) ms_X12_in ml_RX12_301 rfl rfl (Nat.le_of_ble_eq_true rfl) (Nat.le_of_ble_eq_true rfl) (Nat.le_of_ble_eq_true rfl) dX12_isThing_13 (fun r1 σ2 q3 => ?_)
  obtain ⟨rfl, q3⟩ := q3
  rw [q3]
  exact a_iret Rt dX12_isThing_16 rfl (⟨rfl, rfl⟩)
theorem dX12_isPattern_0 : decode cX12_isPattern 0 = .ok (.iload_n 1, 1) := by decide +kernel
theorem dX12_isPattern_1 : decode cX12_isPattern 1 = .ok (.iconst 0, 1) := by decide +kernel
theorem dX12_isPattern_2 : decode cX12_isPattern 2 = .ok (.aload_n 0, 1) := by decide +kernel
theorem dX12_isPattern_3 : decode cX12_isPattern 3 = .ok (.getfield 55, 3) := by decide +kernel
theorem dX12_isPattern_6 : decode cX12_isPattern 6 = .ok (.aload_n 0, 1) := by decide +kernel
theorem dX12_isPattern_7 : decode cX12_isPattern 7 = .ok (.getfield 221, 3) := by decide +kernel
theorem dX12_isPattern_10 : decode cX12_isPattern 10 = .ok (.iaload, 1) := by decide +kernel
theorem dX12_isPattern_11 : decode cX12_isPattern 11 = .ok (.iconst 1, 1) := by decide +kernel
theorem dX12_isPattern_12 : decode cX12_isPattern 12 = .ok (.isub, 1) := by decide +kernel
theorem dX12_isPattern_13 : decode cX12_isPattern 13 = .ok (.invokestatic 301, 3) := by decide +kernel
theorem dX12_isPattern_16 : decode cX12_isPattern 16 = .ok (.ireturn, 1) := by decide +kernel
set_option maxHeartbeats 4000000 in
set_option maxRecDepth 100000 in
theorem m_isPattern {l : Launch} {D : va_G} {ids : List Nat} {ad : Nat → Nat} {ca : Nat → ClassId} {σ : HS} {p0 : Int32} (hid : ∀ i, i < 277 → i ∈ ids) (h_236_18 : σ.1 236 18 = 0) (h_249_0 : σ.1 249 0 = 0) : Ki l D ids ad ca yX12_isPattern cX12_isPattern 2 .boolean 1 22 [.ref (ad 236), .int p0] σ (fun r σ1 => r = 0 ∧ σ1 = σ) := by
  refine Ki.of (by decide) (Nat.le_of_ble_eq_true rfl) 0 (fun Γ C Rt => ?_)
  show AW ids ad ca Γ 0 [some (.ref (ad 236)), some (.int p0)] [] σ
  refine a_iload_n C dX12_isPattern_0 (i := 1) rfl rfl ?_
  refine a_iconst C dX12_isPattern_1 (v := 0) rfl ?_
  refine a_aload_n C dX12_isPattern_2 (i := 0) rfl rfl ?_
  refine a_get C fl_RX12_55 (i := 236) kd_236 (hid 236 (by decide)) (v := .ref (ad 249)) rfl dX12_isPattern_3 ?_
  refine a_aload_n C dX12_isPattern_6 (i := 0) rfl rfl ?_
  refine a_get C fl_RX12_221 (i := 236) kd_236 (hid 236 (by decide)) (v := .int 0) (congrArg (fun z => some (Value.int z)) h_236_18) dX12_isPattern_7 ?_
  refine a_iald C (i := 249) 0 kd_249 (hid 249 (by decide)) (by decide) rfl (by rw [al_249]; decide) dX12_isPattern_10 (v := 0) h_249_0 ?_
  refine a_iconst C dX12_isPattern_11 (v := 1) rfl ?_
  refine a_isub C dX12_isPattern_12 ?_
  refine a_callSi C (m_in_no hid ((Classical.em (p0 < 0)).imp id i32_m1)) ms_X12_in ml_RX12_301 rfl rfl (Nat.le_of_ble_eq_true rfl) (Nat.le_of_ble_eq_true rfl) (Nat.le_of_ble_eq_true rfl) dX12_isPattern_13 (fun r1 σ2 q3 => ?_)
  obtain ⟨rfl, q3⟩ := q3
  rw [q3]
  exact a_iret Rt dX12_isPattern_16 rfl (⟨rfl, rfl⟩)
theorem dX12_isLong_0 : decode cX12_isLong 0 = .ok (.iload_n 0, 1) := by decide +kernel
theorem dX12_isLong_1 : decode cX12_isLong 1 = .ok (.iconst 0, 1) := by decide +kernel
theorem dX12_isLong_2 : decode cX12_isLong 2 = .ok (.bipush 60, 2) := by decide +kernel
theorem dX12_isLong_4 : decode cX12_isLong 4 = .ok (.invokestatic 301, 3) := by decide +kernel
theorem dX12_isLong_7 : decode cX12_isLong 7 = .ok (.ireturn, 1) := by decide +kernel
set_option maxHeartbeats 4000000 in
set_option maxRecDepth 100000 in
theorem m_isLong_yes {l : Launch} {D : va_G} {ids : List Nat} {ad : Nat → Nat} {ca : Nat → ClassId} {σ : HS} {m : Nat} (hid : ∀ i, i < 277 → i ∈ ids) (hm : m ≤ 60) : Ki l D ids ad ca yX12_isLong cX12_isLong 1 .boolean 1 22 [.int (nI m)] σ (fun r σ1 => r = 1 ∧ σ1 = σ) := by
  refine Ki.of (by decide) (Nat.le_of_ble_eq_true rfl) 0 (fun Γ C Rt => ?_)
  show AW ids ad ca Γ 0 [some (.int (nI m))] [] σ
  refine a_iload_n C dX12_isLong_0 (i := 0) rfl rfl ?_
  refine a_iconst C dX12_isLong_1 (v := 0) rfl ?_
  refine a_bipush C dX12_isLong_2 (v := 60) rfl ?_
  refine a_callSi C (m_in_yes hid (nI_nlt (a := (m)) (b := 0) (by omega) (by omega)) (nI_le (a := (m)) (b := 60) (by omega) (by omega))) ms_X12_in ml_RX12_301 rfl rfl (Nat.le_of_ble_eq_true rfl) (Nat.le_of_ble_eq_true rfl) (Nat.le_of_ble_eq_true rfl) dX12_isLong_4 (fun r1 σ2 q3 => ?_)
  obtain ⟨rfl, q3⟩ := q3
  rw [q3]
  exact a_iret Rt dX12_isLong_7 rfl (⟨rfl, rfl⟩)
set_option maxHeartbeats 4000000 in
set_option maxRecDepth 100000 in
theorem m_isLong_no {l : Launch} {D : va_G} {ids : List Nat} {ad : Nat → Nat} {ca : Nat → ClassId} {σ : HS} {p0 : Int32} (hid : ∀ i, i < 277 → i ∈ ids) (ho : p0 < 0 ∨ 60 < p0) : Ki l D ids ad ca yX12_isLong cX12_isLong 1 .boolean 1 22 [.int p0] σ (fun r σ1 => r = 0 ∧ σ1 = σ) := by
  refine Ki.of (by decide) (Nat.le_of_ble_eq_true rfl) 0 (fun Γ C Rt => ?_)
  show AW ids ad ca Γ 0 [some (.int p0)] [] σ
  refine a_iload_n C dX12_isLong_0 (i := 0) rfl rfl ?_
  refine a_iconst C dX12_isLong_1 (v := 0) rfl ?_
  refine a_bipush C dX12_isLong_2 (v := 60) rfl ?_
  refine a_callSi C (m_in_no hid ho) ms_X12_in ml_RX12_301 rfl rfl (Nat.le_of_ble_eq_true rfl) (Nat.le_of_ble_eq_true rfl) (Nat.le_of_ble_eq_true rfl) dX12_isLong_4 (fun r1 σ2 q3 => ?_)
  obtain ⟨rfl, q3⟩ := q3
  rw [q3]
  exact a_iret Rt dX12_isLong_7 rfl (⟨rfl, rfl⟩)
theorem dX12_isSome_0 : decode cX12_isSome 0 = .ok (.iload_n 0, 1) := by decide +kernel
theorem dX12_isSome_1 : decode cX12_isSome 1 = .ok (.iconst 1, 1) := by decide +kernel
theorem dX12_isSome_2 : decode cX12_isSome 2 = .ok (.bipush 60, 2) := by decide +kernel
theorem dX12_isSome_4 : decode cX12_isSome 4 = .ok (.invokestatic 301, 3) := by decide +kernel
theorem dX12_isSome_7 : decode cX12_isSome 7 = .ok (.ireturn, 1) := by decide +kernel
set_option maxHeartbeats 4000000 in
set_option maxRecDepth 100000 in
theorem m_isSome_yes {l : Launch} {D : va_G} {ids : List Nat} {ad : Nat → Nat} {ca : Nat → ClassId} {σ : HS} {m : Nat} (hid : ∀ i, i < 277 → i ∈ ids) (h1 : 1 ≤ m) (hm : m ≤ 60) : Ki l D ids ad ca yX12_isSome cX12_isSome 1 .boolean 1 22 [.int (nI m)] σ (fun r σ1 => r = 1 ∧ σ1 = σ) := by
  refine Ki.of (by decide) (Nat.le_of_ble_eq_true rfl) 0 (fun Γ C Rt => ?_)
  show AW ids ad ca Γ 0 [some (.int (nI m))] [] σ
  refine a_iload_n C dX12_isSome_0 (i := 0) rfl rfl ?_
  refine a_iconst C dX12_isSome_1 (v := 1) rfl ?_
  refine a_bipush C dX12_isSome_2 (v := 60) rfl ?_
  refine a_callSi C (m_in_yes hid (nI_nlt (a := (m)) (b := 1) (by omega) (by omega)) (nI_le (a := (m)) (b := 60) (by omega) (by omega))) ms_X12_in ml_RX12_301 rfl rfl (Nat.le_of_ble_eq_true rfl) (Nat.le_of_ble_eq_true rfl) (Nat.le_of_ble_eq_true rfl) dX12_isSome_4 (fun r1 σ2 q3 => ?_)
  obtain ⟨rfl, q3⟩ := q3
  rw [q3]
  exact a_iret Rt dX12_isSome_7 rfl (⟨rfl, rfl⟩)
set_option maxHeartbeats 4000000 in
set_option maxRecDepth 100000 in
theorem m_isSome_no {l : Launch} {D : va_G} {ids : List Nat} {ad : Nat → Nat} {ca : Nat → ClassId} {σ : HS} {p0 : Int32} (hid : ∀ i, i < 277 → i ∈ ids) (ho : p0 < 1 ∨ 60 < p0) : Ki l D ids ad ca yX12_isSome cX12_isSome 1 .boolean 1 22 [.int p0] σ (fun r σ1 => r = 0 ∧ σ1 = σ) := by
  refine Ki.of (by decide) (Nat.le_of_ble_eq_true rfl) 0 (fun Γ C Rt => ?_)
  show AW ids ad ca Γ 0 [some (.int p0)] [] σ
  refine a_iload_n C dX12_isSome_0 (i := 0) rfl rfl ?_
  refine a_iconst C dX12_isSome_1 (v := 1) rfl ?_
  refine a_bipush C dX12_isSome_2 (v := 60) rfl ?_
  refine a_callSi C (m_in_no hid ho) ms_X12_in ml_RX12_301 rfl rfl (Nat.le_of_ble_eq_true rfl) (Nat.le_of_ble_eq_true rfl) (Nat.le_of_ble_eq_true rfl) dX12_isSome_4 (fun r1 σ2 q3 => ?_)
  obtain ⟨rfl, q3⟩ := q3
  rw [q3]
  exact a_iret Rt dX12_isSome_7 rfl (⟨rfl, rfl⟩)
theorem dX12_held_0 : decode cX12_held 0 = .ok (.iload_n 0, 1) := by decide +kernel
theorem dX12_held_1 : decode cX12_held 1 = .ok (.iload_n 1, 1) := by decide +kernel
theorem dX12_held_2 : decode cX12_held 2 = .ok (.if_icmp .ge 7, 3) := by decide +kernel
theorem dX12_held_5 : decode cX12_held 5 = .ok (.iload_n 1, 1) := by decide +kernel
theorem dX12_held_6 : decode cX12_held 6 = .ok (.goto 13, 3) := by decide +kernel
theorem dX12_held_19 : decode cX12_held 19 = .ok (.ireturn, 1) := by decide +kernel
set_option maxHeartbeats 4000000 in
set_option maxRecDepth 100000 in
theorem m_held {l : Launch} {D : va_G} {ids : List Nat} {ad : Nat → Nat} {ca : Nat → ClassId} {σ : HS} (hid : ∀ i, i < 277 → i ∈ ids) : Ki l D ids ad ca yX12_held cX12_held 3 .int 0 0 [.int (-1), .int 0, .int 999] σ (fun r σ1 => r = 0 ∧ σ1 = σ) := by
  refine Ki.of (by decide) (Nat.le_of_ble_eq_true rfl) 0 (fun Γ C Rt => ?_)
  show AW ids ad ca Γ 0 [some (.int (-1)), some (.int 0), some (.int 999)] [] σ
  refine a_iload_n C dX12_held_0 (i := 0) rfl rfl ?_
  refine a_iload_n C dX12_held_1 (i := 1) rfl rfl ?_
  refine a_ic_ge C dX12_held_2 (tgt := 9) rfl (fun h => absurd h (by decide)) (fun _ => ?_)
  refine a_iload_n C dX12_held_5 (i := 1) rfl rfl ?_
  refine a_goto C dX12_held_6 (tgt := 19) rfl ?_
  exact a_iret Rt dX12_held_19 rfl (⟨rfl, rfl⟩)
theorem dX12_bits_0 : decode cX12_bits 0 = .ok (.iconst 0, 1) := by decide +kernel
theorem dX12_bits_1 : decode cX12_bits 1 = .ok (.istore_n 1, 1) := by decide +kernel
theorem dX12_bits_2 : decode cX12_bits 2 = .ok (.iconst 0, 1) := by decide +kernel
theorem dX12_bits_3 : decode cX12_bits 3 = .ok (.istore_n 2, 1) := by decide +kernel
theorem dX12_bits_4 : decode cX12_bits 4 = .ok (.iload_n 2, 1) := by decide +kernel
theorem dX12_bits_5 : decode cX12_bits 5 = .ok (.bipush 10, 2) := by decide +kernel
theorem dX12_bits_7 : decode cX12_bits 7 = .ok (.if_icmp .ge 17, 3) := by decide +kernel
theorem dX12_bits_10 : decode cX12_bits 10 = .ok (.iload_n 1, 1) := by decide +kernel
theorem dX12_bits_11 : decode cX12_bits 11 = .ok (.iload_n 0, 1) := by decide +kernel
theorem dX12_bits_12 : decode cX12_bits 12 = .ok (.iload_n 2, 1) := by decide +kernel
theorem dX12_bits_13 : decode cX12_bits 13 = .ok (.ishr, 1) := by decide +kernel
theorem dX12_bits_14 : decode cX12_bits 14 = .ok (.iconst 1, 1) := by decide +kernel
theorem dX12_bits_15 : decode cX12_bits 15 = .ok (.iand, 1) := by decide +kernel
theorem dX12_bits_16 : decode cX12_bits 16 = .ok (.iadd, 1) := by decide +kernel
theorem dX12_bits_17 : decode cX12_bits 17 = .ok (.istore_n 1, 1) := by decide +kernel
theorem dX12_bits_18 : decode cX12_bits 18 = .ok (.iinc 2 1, 3) := by decide +kernel
theorem dX12_bits_21 : decode cX12_bits 21 = .ok (.goto (-17), 3) := by decide +kernel
theorem dX12_bits_24 : decode cX12_bits 24 = .ok (.iload_n 1, 1) := by decide +kernel
theorem dX12_bits_25 : decode cX12_bits 25 = .ok (.ireturn, 1) := by decide +kernel
set_option maxHeartbeats 4000000 in
set_option maxRecDepth 100000 in
theorem m_bits {l : Launch} {D : va_G} {ids : List Nat} {ad : Nat → Nat} {ca : Nat → ClassId} {σ : HS} (hid : ∀ i, i < 277 → i ∈ ids) : Ki l D ids ad ca yX12_bits cX12_bits 3 .int 0 0 [.int 0] σ (fun r σ1 => r = 0 ∧ σ1 = σ) := by
  refine Ki.of (by decide) (Nat.le_of_ble_eq_true rfl) 2 (fun Γ C Rt => ?_)
  show AW ids ad ca Γ 0 [some (.int 0), none, none] [] σ
  refine a_iconst C dX12_bits_0 (v := 0) rfl ?_
  refine a_istore_n C dX12_bits_1 (i := 1) rfl (by decide) rfl (vs1 := [some (.int 0), some (.int 0), none]) rfl ?_
  refine a_iconst C dX12_bits_2 (v := 0) rfl ?_
  refine a_istore_n C dX12_bits_3 (i := 2) rfl (by decide) rfl (vs1 := [some (.int 0), some (.int 0), some (.int 0)]) rfl ?_
  refine a_iload_n C dX12_bits_4 (i := 2) rfl rfl ?_
  refine a_bipush C dX12_bits_5 (v := 10) rfl ?_
  refine a_ic_ge C dX12_bits_7 (tgt := 24) rfl (fun h => absurd h (by decide)) (fun _ => ?_)
  refine a_iload_n C dX12_bits_10 (i := 1) rfl rfl ?_
  refine a_iload_n C dX12_bits_11 (i := 0) rfl rfl ?_
  refine a_iload_n C dX12_bits_12 (i := 2) rfl rfl ?_
  refine a_ishr C dX12_bits_13 ?_
  refine a_iconst C dX12_bits_14 (v := 1) rfl ?_
  refine a_iand C dX12_bits_15 ?_
  refine a_iadd C dX12_bits_16 ?_
  refine a_istore_n C dX12_bits_17 (i := 1) rfl (by decide) rfl (vs1 := [some (.int 0), some (.int 0), some (.int 0)]) rfl ?_
  refine a_iinc C dX12_bits_18 rfl (v := 1) rfl (by decide) rfl (vs1 := [some (.int 0), some (.int 0), some (.int 1)]) rfl ?_
  refine a_goto C dX12_bits_21 (tgt := 4) rfl ?_
  refine a_iload_n C dX12_bits_4 (i := 2) rfl rfl ?_
  refine a_bipush C dX12_bits_5 (v := 10) rfl ?_
  refine a_ic_ge C dX12_bits_7 (tgt := 24) rfl (fun h => absurd h (by decide)) (fun _ => ?_)
  refine a_iload_n C dX12_bits_10 (i := 1) rfl rfl ?_
  refine a_iload_n C dX12_bits_11 (i := 0) rfl rfl ?_
  refine a_iload_n C dX12_bits_12 (i := 2) rfl rfl ?_
  refine a_ishr C dX12_bits_13 ?_
  refine a_iconst C dX12_bits_14 (v := 1) rfl ?_
  refine a_iand C dX12_bits_15 ?_
  refine a_iadd C dX12_bits_16 ?_
  refine a_istore_n C dX12_bits_17 (i := 1) rfl (by decide) rfl (vs1 := [some (.int 0), some (.int 0), some (.int 1)]) rfl ?_
  refine a_iinc C dX12_bits_18 rfl (v := 2) rfl (by decide) rfl (vs1 := [some (.int 0), some (.int 0), some (.int 2)]) rfl ?_
  refine a_goto C dX12_bits_21 (tgt := 4) rfl ?_
  refine a_iload_n C dX12_bits_4 (i := 2) rfl rfl ?_
  refine a_bipush C dX12_bits_5 (v := 10) rfl ?_
  refine a_ic_ge C dX12_bits_7 (tgt := 24) rfl (fun h => absurd h (by decide)) (fun _ => ?_)
  refine a_iload_n C dX12_bits_10 (i := 1) rfl rfl ?_
  refine a_iload_n C dX12_bits_11 (i := 0) rfl rfl ?_
  refine a_iload_n C dX12_bits_12 (i := 2) rfl rfl ?_
  refine a_ishr C dX12_bits_13 ?_
  refine a_iconst C dX12_bits_14 (v := 1) rfl ?_
  refine a_iand C dX12_bits_15 ?_
  refine a_iadd C dX12_bits_16 ?_
  refine a_istore_n C dX12_bits_17 (i := 1) rfl (by decide) rfl (vs1 := [some (.int 0), some (.int 0), some (.int 2)]) rfl ?_
  refine a_iinc C dX12_bits_18 rfl (v := 3) rfl (by decide) rfl (vs1 := [some (.int 0), some (.int 0), some (.int 3)]) rfl ?_
  refine a_goto C dX12_bits_21 (tgt := 4) rfl ?_
  refine a_iload_n C dX12_bits_4 (i := 2) rfl rfl ?_
  refine a_bipush C dX12_bits_5 (v := 10) rfl ?_
  refine a_ic_ge C dX12_bits_7 (tgt := 24) rfl (fun h => absurd h (by decide)) (fun _ => ?_)
  refine a_iload_n C dX12_bits_10 (i := 1) rfl rfl ?_
  refine a_iload_n C dX12_bits_11 (i := 0) rfl rfl ?_
  refine a_iload_n C dX12_bits_12 (i := 2) rfl rfl ?_
  refine a_ishr C dX12_bits_13 ?_
  refine a_iconst C dX12_bits_14 (v := 1) rfl ?_
  refine a_iand C dX12_bits_15 ?_
  refine a_iadd C dX12_bits_16 ?_
  refine a_istore_n C dX12_bits_17 (i := 1) rfl (by decide) rfl (vs1 := [some (.int 0), some (.int 0), some (.int 3)]) rfl ?_
  refine a_iinc C dX12_bits_18 rfl (v := 4) rfl (by decide) rfl (vs1 := [some (.int 0), some (.int 0), some (.int 4)]) rfl ?_
  refine a_goto C dX12_bits_21 (tgt := 4) rfl ?_
  refine a_iload_n C dX12_bits_4 (i := 2) rfl rfl ?_
  refine a_bipush C dX12_bits_5 (v := 10) rfl ?_
  refine a_ic_ge C dX12_bits_7 (tgt := 24) rfl (fun h => absurd h (by decide)) (fun _ => ?_)
  refine a_iload_n C dX12_bits_10 (i := 1) rfl rfl ?_
  refine a_iload_n C dX12_bits_11 (i := 0) rfl rfl ?_
  refine a_iload_n C dX12_bits_12 (i := 2) rfl rfl ?_
  refine a_ishr C dX12_bits_13 ?_
  refine a_iconst C dX12_bits_14 (v := 1) rfl ?_
  refine a_iand C dX12_bits_15 ?_
  refine a_iadd C dX12_bits_16 ?_
  refine a_istore_n C dX12_bits_17 (i := 1) rfl (by decide) rfl (vs1 := [some (.int 0), some (.int 0), some (.int 4)]) rfl ?_
  refine a_iinc C dX12_bits_18 rfl (v := 5) rfl (by decide) rfl (vs1 := [some (.int 0), some (.int 0), some (.int 5)]) rfl ?_
  refine a_goto C dX12_bits_21 (tgt := 4) rfl ?_
  refine a_iload_n C dX12_bits_4 (i := 2) rfl rfl ?_
  refine a_bipush C dX12_bits_5 (v := 10) rfl ?_
  refine a_ic_ge C dX12_bits_7 (tgt := 24) rfl (fun h => absurd h (by decide)) (fun _ => ?_)
  refine a_iload_n C dX12_bits_10 (i := 1) rfl rfl ?_
  refine a_iload_n C dX12_bits_11 (i := 0) rfl rfl ?_
  refine a_iload_n C dX12_bits_12 (i := 2) rfl rfl ?_
  refine a_ishr C dX12_bits_13 ?_
  refine a_iconst C dX12_bits_14 (v := 1) rfl ?_
  refine a_iand C dX12_bits_15 ?_
  refine a_iadd C dX12_bits_16 ?_
  refine a_istore_n C dX12_bits_17 (i := 1) rfl (by decide) rfl (vs1 := [some (.int 0), some (.int 0), some (.int 5)]) rfl ?_
  refine a_iinc C dX12_bits_18 rfl (v := 6) rfl (by decide) rfl (vs1 := [some (.int 0), some (.int 0), some (.int 6)]) rfl ?_
  refine a_goto C dX12_bits_21 (tgt := 4) rfl ?_
  refine a_iload_n C dX12_bits_4 (i := 2) rfl rfl ?_
  refine a_bipush C dX12_bits_5 (v := 10) rfl ?_
  refine a_ic_ge C dX12_bits_7 (tgt := 24) rfl (fun h => absurd h (by decide)) (fun _ => ?_)
  refine a_iload_n C dX12_bits_10 (i := 1) rfl rfl ?_
  refine a_iload_n C dX12_bits_11 (i := 0) rfl rfl ?_
  refine a_iload_n C dX12_bits_12 (i := 2) rfl rfl ?_
  refine a_ishr C dX12_bits_13 ?_
  refine a_iconst C dX12_bits_14 (v := 1) rfl ?_
  refine a_iand C dX12_bits_15 ?_
  refine a_iadd C dX12_bits_16 ?_
  refine a_istore_n C dX12_bits_17 (i := 1) rfl (by decide) rfl (vs1 := [some (.int 0), some (.int 0), some (.int 6)]) rfl ?_
  refine a_iinc C dX12_bits_18 rfl (v := 7) rfl (by decide) rfl (vs1 := [some (.int 0), some (.int 0), some (.int 7)]) rfl ?_
  refine a_goto C dX12_bits_21 (tgt := 4) rfl ?_
  refine a_iload_n C dX12_bits_4 (i := 2) rfl rfl ?_
  refine a_bipush C dX12_bits_5 (v := 10) rfl ?_
  refine a_ic_ge C dX12_bits_7 (tgt := 24) rfl (fun h => absurd h (by decide)) (fun _ => ?_)
  refine a_iload_n C dX12_bits_10 (i := 1) rfl rfl ?_
  refine a_iload_n C dX12_bits_11 (i := 0) rfl rfl ?_
  refine a_iload_n C dX12_bits_12 (i := 2) rfl rfl ?_
  refine a_ishr C dX12_bits_13 ?_
  refine a_iconst C dX12_bits_14 (v := 1) rfl ?_
  refine a_iand C dX12_bits_15 ?_
  refine a_iadd C dX12_bits_16 ?_
  refine a_istore_n C dX12_bits_17 (i := 1) rfl (by decide) rfl (vs1 := [some (.int 0), some (.int 0), some (.int 7)]) rfl ?_
  refine a_iinc C dX12_bits_18 rfl (v := 8) rfl (by decide) rfl (vs1 := [some (.int 0), some (.int 0), some (.int 8)]) rfl ?_
  refine a_goto C dX12_bits_21 (tgt := 4) rfl ?_
  refine a_iload_n C dX12_bits_4 (i := 2) rfl rfl ?_
  refine a_bipush C dX12_bits_5 (v := 10) rfl ?_
  refine a_ic_ge C dX12_bits_7 (tgt := 24) rfl (fun h => absurd h (by decide)) (fun _ => ?_)
  refine a_iload_n C dX12_bits_10 (i := 1) rfl rfl ?_
  refine a_iload_n C dX12_bits_11 (i := 0) rfl rfl ?_
  refine a_iload_n C dX12_bits_12 (i := 2) rfl rfl ?_
  refine a_ishr C dX12_bits_13 ?_
  refine a_iconst C dX12_bits_14 (v := 1) rfl ?_
  refine a_iand C dX12_bits_15 ?_
  refine a_iadd C dX12_bits_16 ?_
  refine a_istore_n C dX12_bits_17 (i := 1) rfl (by decide) rfl (vs1 := [some (.int 0), some (.int 0), some (.int 8)]) rfl ?_
  refine a_iinc C dX12_bits_18 rfl (v := 9) rfl (by decide) rfl (vs1 := [some (.int 0), some (.int 0), some (.int 9)]) rfl ?_
  refine a_goto C dX12_bits_21 (tgt := 4) rfl ?_
  refine a_iload_n C dX12_bits_4 (i := 2) rfl rfl ?_
  refine a_bipush C dX12_bits_5 (v := 10) rfl ?_
  refine a_ic_ge C dX12_bits_7 (tgt := 24) rfl (fun h => absurd h (by decide)) (fun _ => ?_)
  refine a_iload_n C dX12_bits_10 (i := 1) rfl rfl ?_
  refine a_iload_n C dX12_bits_11 (i := 0) rfl rfl ?_
  refine a_iload_n C dX12_bits_12 (i := 2) rfl rfl ?_
  refine a_ishr C dX12_bits_13 ?_
  refine a_iconst C dX12_bits_14 (v := 1) rfl ?_
  refine a_iand C dX12_bits_15 ?_
  refine a_iadd C dX12_bits_16 ?_
  refine a_istore_n C dX12_bits_17 (i := 1) rfl (by decide) rfl (vs1 := [some (.int 0), some (.int 0), some (.int 9)]) rfl ?_
  refine a_iinc C dX12_bits_18 rfl (v := 10) rfl (by decide) rfl (vs1 := [some (.int 0), some (.int 0), some (.int 10)]) rfl ?_
  refine a_goto C dX12_bits_21 (tgt := 4) rfl ?_
  refine a_iload_n C dX12_bits_4 (i := 2) rfl rfl ?_
  refine a_bipush C dX12_bits_5 (v := 10) rfl ?_
  refine a_ic_ge C dX12_bits_7 (tgt := 24) rfl (fun _ => ?_) (fun h => absurd h (by decide))
  refine a_iload_n C dX12_bits_24 (i := 1) rfl rfl ?_
  exact a_iret Rt dX12_bits_25 rfl (⟨rfl, rfl⟩)
theorem dX12_thingsSo_0 : decode cX12_thingsSo 0 = .ok (.iconst 0, 1) := by decide +kernel
theorem dX12_thingsSo_1 : decode cX12_thingsSo 1 = .ok (.istore_n 2, 1) := by decide +kernel
theorem dX12_thingsSo_2 : decode cX12_thingsSo 2 = .ok (.iconst 0, 1) := by decide +kernel
theorem dX12_thingsSo_3 : decode cX12_thingsSo 3 = .ok (.istore_n 3, 1) := by decide +kernel
theorem dX12_thingsSo_4 : decode cX12_thingsSo 4 = .ok (.iload_n 3, 1) := by decide +kernel
theorem dX12_thingsSo_5 : decode cX12_thingsSo 5 = .ok (.aload_n 0, 1) := by decide +kernel
theorem dX12_thingsSo_6 : decode cX12_thingsSo 6 = .ok (.getfield 43, 3) := by decide +kernel
theorem dX12_thingsSo_9 : decode cX12_thingsSo 9 = .ok (.aload_n 0, 1) := by decide +kernel
theorem dX12_thingsSo_10 : decode cX12_thingsSo 10 = .ok (.getfield 221, 3) := by decide +kernel
theorem dX12_thingsSo_13 : decode cX12_thingsSo 13 = .ok (.iaload, 1) := by decide +kernel
theorem dX12_thingsSo_14 : decode cX12_thingsSo 14 = .ok (.if_icmp .ge 25, 3) := by decide +kernel
theorem dX12_thingsSo_39 : decode cX12_thingsSo 39 = .ok (.iload_n 2, 1) := by decide +kernel
theorem dX12_thingsSo_40 : decode cX12_thingsSo 40 = .ok (.ireturn, 1) := by decide +kernel
set_option maxHeartbeats 4000000 in
set_option maxRecDepth 100000 in
theorem m_thingsSo {l : Launch} {D : va_G} {ids : List Nat} {ad : Nat → Nat} {ca : Nat → ClassId} {σ : HS} {p0 : Int32} (hid : ∀ i, i < 277 → i ∈ ids) (h_236_18 : σ.1 236 18 = 0) (h_245_0 : σ.1 245 0 = 0) : Ki l D ids ad ca yX12_thingsSo cX12_thingsSo 4 .int 0 0 [.ref (ad 236), .int p0] σ (fun r σ1 => r = 0 ∧ σ1 = σ) := by
  refine Ki.of (by decide) (Nat.le_of_ble_eq_true rfl) 2 (fun Γ C Rt => ?_)
  show AW ids ad ca Γ 0 [some (.ref (ad 236)), some (.int p0), none, none] [] σ
  refine a_iconst C dX12_thingsSo_0 (v := 0) rfl ?_
  refine a_istore_n C dX12_thingsSo_1 (i := 2) rfl (by decide) rfl (vs1 := [some (.ref (ad 236)), some (.int p0), some (.int 0), none]) rfl ?_
  refine a_iconst C dX12_thingsSo_2 (v := 0) rfl ?_
  refine a_istore_n C dX12_thingsSo_3 (i := 3) rfl (by decide) rfl (vs1 := [some (.ref (ad 236)), some (.int p0), some (.int 0), some (.int 0)]) rfl ?_
  refine a_iload_n C dX12_thingsSo_4 (i := 3) rfl rfl ?_
  refine a_aload_n C dX12_thingsSo_5 (i := 0) rfl rfl ?_
  refine a_get C fl_RX12_43 (i := 236) kd_236 (hid 236 (by decide)) (v := .ref (ad 245)) rfl dX12_thingsSo_6 ?_
  refine a_aload_n C dX12_thingsSo_9 (i := 0) rfl rfl ?_
  refine a_get C fl_RX12_221 (i := 236) kd_236 (hid 236 (by decide)) (v := .int 0) (congrArg (fun z => some (Value.int z)) h_236_18) dX12_thingsSo_10 ?_
  refine a_iald C (i := 245) 0 kd_245 (hid 245 (by decide)) (by decide) rfl (by rw [al_245]; decide) dX12_thingsSo_13 (v := 0) h_245_0 ?_
  refine a_ic_ge C dX12_thingsSo_14 (tgt := 39) rfl (fun _ => ?_) (fun h => absurd h (by decide))
  refine a_iload_n C dX12_thingsSo_39 (i := 2) rfl rfl ?_
  exact a_iret Rt dX12_thingsSo_40 rfl (⟨rfl, rfl⟩)
theorem dX12_landsAt_0 : decode cX12_landsAt 0 = .ok (.iconst 0, 1) := by decide +kernel
theorem dX12_landsAt_1 : decode cX12_landsAt 1 = .ok (.istore_n 2, 1) := by decide +kernel
theorem dX12_landsAt_2 : decode cX12_landsAt 2 = .ok (.iconst 0, 1) := by decide +kernel
theorem dX12_landsAt_3 : decode cX12_landsAt 3 = .ok (.istore_n 3, 1) := by decide +kernel
theorem dX12_landsAt_4 : decode cX12_landsAt 4 = .ok (.iload_n 3, 1) := by decide +kernel
theorem dX12_landsAt_5 : decode cX12_landsAt 5 = .ok (.aload_n 0, 1) := by decide +kernel
theorem dX12_landsAt_6 : decode cX12_landsAt 6 = .ok (.getfield 43, 3) := by decide +kernel
theorem dX12_landsAt_9 : decode cX12_landsAt 9 = .ok (.aload_n 0, 1) := by decide +kernel
theorem dX12_landsAt_10 : decode cX12_landsAt 10 = .ok (.getfield 221, 3) := by decide +kernel
theorem dX12_landsAt_13 : decode cX12_landsAt 13 = .ok (.iaload, 1) := by decide +kernel
theorem dX12_landsAt_14 : decode cX12_landsAt 14 = .ok (.if_icmp .ge 21, 3) := by decide +kernel
theorem dX12_landsAt_35 : decode cX12_landsAt 35 = .ok (.iload_n 2, 1) := by decide +kernel
theorem dX12_landsAt_36 : decode cX12_landsAt 36 = .ok (.ireturn, 1) := by decide +kernel
set_option maxHeartbeats 4000000 in
set_option maxRecDepth 100000 in
theorem m_landsAt {l : Launch} {D : va_G} {ids : List Nat} {ad : Nat → Nat} {ca : Nat → ClassId} {σ : HS} {p0 : Int32} (hid : ∀ i, i < 277 → i ∈ ids) (h_236_18 : σ.1 236 18 = 0) (h_245_0 : σ.1 245 0 = 0) : Ki l D ids ad ca yX12_landsAt cX12_landsAt 4 .int 0 0 [.ref (ad 236), .int p0] σ (fun r σ1 => r = 0 ∧ σ1 = σ) := by
  refine Ki.of (by decide) (Nat.le_of_ble_eq_true rfl) 2 (fun Γ C Rt => ?_)
  show AW ids ad ca Γ 0 [some (.ref (ad 236)), some (.int p0), none, none] [] σ
  refine a_iconst C dX12_landsAt_0 (v := 0) rfl ?_
  refine a_istore_n C dX12_landsAt_1 (i := 2) rfl (by decide) rfl (vs1 := [some (.ref (ad 236)), some (.int p0), some (.int 0), none]) rfl ?_
  refine a_iconst C dX12_landsAt_2 (v := 0) rfl ?_
  refine a_istore_n C dX12_landsAt_3 (i := 3) rfl (by decide) rfl (vs1 := [some (.ref (ad 236)), some (.int p0), some (.int 0), some (.int 0)]) rfl ?_
  refine a_iload_n C dX12_landsAt_4 (i := 3) rfl rfl ?_
  refine a_aload_n C dX12_landsAt_5 (i := 0) rfl rfl ?_
  refine a_get C fl_RX12_43 (i := 236) kd_236 (hid 236 (by decide)) (v := .ref (ad 245)) rfl dX12_landsAt_6 ?_
  refine a_aload_n C dX12_landsAt_9 (i := 0) rfl rfl ?_
  refine a_get C fl_RX12_221 (i := 236) kd_236 (hid 236 (by decide)) (v := .int 0) (congrArg (fun z => some (Value.int z)) h_236_18) dX12_landsAt_10 ?_
  refine a_iald C (i := 245) 0 kd_245 (hid 245 (by decide)) (by decide) rfl (by rw [al_245]; decide) dX12_landsAt_13 (v := 0) h_245_0 ?_
  refine a_ic_ge C dX12_landsAt_14 (tgt := 35) rfl (fun _ => ?_) (fun h => absurd h (by decide))
  refine a_iload_n C dX12_landsAt_35 (i := 2) rfl rfl ?_
  exact a_iret Rt dX12_landsAt_36 rfl (⟨rfl, rfl⟩)
theorem dX12_catchesNow_0 : decode cX12_catchesNow 0 = .ok (.iconst 0, 1) := by decide +kernel
theorem dX12_catchesNow_1 : decode cX12_catchesNow 1 = .ok (.istore_n 1, 1) := by decide +kernel
theorem dX12_catchesNow_2 : decode cX12_catchesNow 2 = .ok (.iload_n 1, 1) := by decide +kernel
theorem dX12_catchesNow_3 : decode cX12_catchesNow 3 = .ok (.aload_n 0, 1) := by decide +kernel
theorem dX12_catchesNow_4 : decode cX12_catchesNow 4 = .ok (.getfield 43, 3) := by decide +kernel
theorem dX12_catchesNow_7 : decode cX12_catchesNow 7 = .ok (.aload_n 0, 1) := by decide +kernel
theorem dX12_catchesNow_8 : decode cX12_catchesNow 8 = .ok (.getfield 221, 3) := by decide +kernel
theorem dX12_catchesNow_11 : decode cX12_catchesNow 11 = .ok (.iaload, 1) := by decide +kernel
theorem dX12_catchesNow_12 : decode cX12_catchesNow 12 = .ok (.if_icmp .ge 20, 3) := by decide +kernel
theorem dX12_catchesNow_32 : decode cX12_catchesNow 32 = .ok (.bipush (-2), 2) := by decide +kernel
theorem dX12_catchesNow_34 : decode cX12_catchesNow 34 = .ok (.ireturn, 1) := by decide +kernel
set_option maxHeartbeats 4000000 in
set_option maxRecDepth 100000 in
theorem m_catchesNow {l : Launch} {D : va_G} {ids : List Nat} {ad : Nat → Nat} {ca : Nat → ClassId} {σ : HS} (hid : ∀ i, i < 277 → i ∈ ids) (h_236_18 : σ.1 236 18 = 0) (h_245_0 : σ.1 245 0 = 0) : Ki l D ids ad ca yX12_catchesNow cX12_catchesNow 2 .int 0 0 [.ref (ad 236)] σ (fun r σ1 => r = (-2) ∧ σ1 = σ) := by
  refine Ki.of (by decide) (Nat.le_of_ble_eq_true rfl) 1 (fun Γ C Rt => ?_)
  show AW ids ad ca Γ 0 [some (.ref (ad 236)), none] [] σ
  refine a_iconst C dX12_catchesNow_0 (v := 0) rfl ?_
  refine a_istore_n C dX12_catchesNow_1 (i := 1) rfl (by decide) rfl (vs1 := [some (.ref (ad 236)), some (.int 0)]) rfl ?_
  refine a_iload_n C dX12_catchesNow_2 (i := 1) rfl rfl ?_
  refine a_aload_n C dX12_catchesNow_3 (i := 0) rfl rfl ?_
  refine a_get C fl_RX12_43 (i := 236) kd_236 (hid 236 (by decide)) (v := .ref (ad 245)) rfl dX12_catchesNow_4 ?_
  refine a_aload_n C dX12_catchesNow_7 (i := 0) rfl rfl ?_
  refine a_get C fl_RX12_221 (i := 236) kd_236 (hid 236 (by decide)) (v := .int 0) (congrArg (fun z => some (Value.int z)) h_236_18) dX12_catchesNow_8 ?_
  refine a_iald C (i := 245) 0 kd_245 (hid 245 (by decide)) (by decide) rfl (by rw [al_245]; decide) dX12_catchesNow_11 (v := 0) h_245_0 ?_
  refine a_ic_ge C dX12_catchesNow_12 (tgt := 32) rfl (fun _ => ?_) (fun h => absurd h (by decide))
  refine a_bipush C dX12_catchesNow_32 (v := (-2)) rfl ?_
  exact a_iret Rt dX12_catchesNow_34 rfl (⟨rfl, rfl⟩)
theorem dX12_heightNow_0 : decode cX12_heightNow 0 = .ok (.aload_n 0, 1) := by decide +kernel
theorem dX12_heightNow_1 : decode cX12_heightNow 1 = .ok (.getfield 110, 3) := by decide +kernel
theorem dX12_heightNow_4 : decode cX12_heightNow 4 = .ok (.bipush 28, 2) := by decide +kernel
theorem dX12_heightNow_6 : decode cX12_heightNow 6 = .ok (.iaload, 1) := by decide +kernel
theorem dX12_heightNow_7 : decode cX12_heightNow 7 = .ok (.ifCond .lt 11, 3) := by decide +kernel
theorem dX12_heightNow_18 : decode cX12_heightNow 18 = .ok (.aload_n 0, 1) := by decide +kernel
theorem dX12_heightNow_19 : decode cX12_heightNow 19 = .ok (.getfield 110, 3) := by decide +kernel
theorem dX12_heightNow_22 : decode cX12_heightNow 22 = .ok (.bipush 26, 2) := by decide +kernel
theorem dX12_heightNow_24 : decode cX12_heightNow 24 = .ok (.iaload, 1) := by decide +kernel
theorem dX12_heightNow_25 : decode cX12_heightNow 25 = .ok (.ifCond .ge 7, 3) := by decide +kernel
theorem dX12_heightNow_28 : decode cX12_heightNow 28 = .ok (.iconst 3, 1) := by decide +kernel
theorem dX12_heightNow_29 : decode cX12_heightNow 29 = .ok (.goto 29, 3) := by decide +kernel
theorem dX12_heightNow_58 : decode cX12_heightNow 58 = .ok (.ireturn, 1) := by decide +kernel
set_option maxHeartbeats 4000000 in
set_option maxRecDepth 100000 in
theorem m_heightNow {l : Launch} {D : va_G} {ids : List Nat} {ad : Nat → Nat} {ca : Nat → ClassId} {σ : HS} (hid : ∀ i, i < 277 → i ∈ ids) (h_267_26 : σ.1 267 26 = (-2)) (h_267_28 : σ.1 267 28 = (-1)) : Ki l D ids ad ca yX12_heightNow cX12_heightNow 1 .int 0 0 [.ref (ad 236)] σ (fun r σ1 => r = 3 ∧ σ1 = σ) := by
  refine Ki.of (by decide) (Nat.le_of_ble_eq_true rfl) 0 (fun Γ C Rt => ?_)
  show AW ids ad ca Γ 0 [some (.ref (ad 236))] [] σ
  refine a_aload_n C dX12_heightNow_0 (i := 0) rfl rfl ?_
  refine a_get C fl_RX12_110 (i := 236) kd_236 (hid 236 (by decide)) (v := .ref (ad 267)) rfl dX12_heightNow_1 ?_
  refine a_bipush C dX12_heightNow_4 (v := 28) rfl ?_
  refine a_iald C (i := 267) 28 kd_267 (hid 267 (by decide)) (by decide) rfl (by rw [al_267]; decide) dX12_heightNow_6 (v := (-1)) h_267_28 ?_
  refine a_if_lt C dX12_heightNow_7 (tgt := 18) rfl (fun _ => ?_) (fun h => absurd h (by decide))
  refine a_aload_n C dX12_heightNow_18 (i := 0) rfl rfl ?_
  refine a_get C fl_RX12_110 (i := 236) kd_236 (hid 236 (by decide)) (v := .ref (ad 267)) rfl dX12_heightNow_19 ?_
  refine a_bipush C dX12_heightNow_22 (v := 26) rfl ?_
  refine a_iald C (i := 267) 26 kd_267 (hid 267 (by decide)) (by decide) rfl (by rw [al_267]; decide) dX12_heightNow_24 (v := (-2)) h_267_26 ?_
  refine a_if_ge C dX12_heightNow_25 (tgt := 32) rfl (fun h => absurd h (by decide)) (fun _ => ?_)
  refine a_iconst C dX12_heightNow_28 (v := 3) rfl ?_
  refine a_goto C dX12_heightNow_29 (tgt := 58) rfl ?_
  exact a_iret Rt dX12_heightNow_58 rfl (⟨rfl, rfl⟩)
theorem dX12_weightsOf_0 : decode cX12_weightsOf 0 = .ok (.iconst 0, 1) := by decide +kernel
theorem dX12_weightsOf_1 : decode cX12_weightsOf 1 = .ok (.istore_n 2, 1) := by decide +kernel
theorem dX12_weightsOf_2 : decode cX12_weightsOf 2 = .ok (.iconst 0, 1) := by decide +kernel
theorem dX12_weightsOf_3 : decode cX12_weightsOf 3 = .ok (.istore_n 3, 1) := by decide +kernel
theorem dX12_weightsOf_4 : decode cX12_weightsOf 4 = .ok (.iload_n 3, 1) := by decide +kernel
theorem dX12_weightsOf_5 : decode cX12_weightsOf 5 = .ok (.aload_n 0, 1) := by decide +kernel
theorem dX12_weightsOf_6 : decode cX12_weightsOf 6 = .ok (.getfield 43, 3) := by decide +kernel
theorem dX12_weightsOf_9 : decode cX12_weightsOf 9 = .ok (.aload_n 0, 1) := by decide +kernel
theorem dX12_weightsOf_10 : decode cX12_weightsOf 10 = .ok (.getfield 221, 3) := by decide +kernel
theorem dX12_weightsOf_13 : decode cX12_weightsOf 13 = .ok (.iaload, 1) := by decide +kernel
theorem dX12_weightsOf_14 : decode cX12_weightsOf 14 = .ok (.if_icmp .ge 35, 3) := by decide +kernel
theorem dX12_weightsOf_49 : decode cX12_weightsOf 49 = .ok (.iload_n 2, 1) := by decide +kernel
theorem dX12_weightsOf_50 : decode cX12_weightsOf 50 = .ok (.ireturn, 1) := by decide +kernel
set_option maxHeartbeats 4000000 in
set_option maxRecDepth 100000 in
theorem m_weightsOf {l : Launch} {D : va_G} {ids : List Nat} {ad : Nat → Nat} {ca : Nat → ClassId} {σ : HS} {p0 : Int32} (hid : ∀ i, i < 277 → i ∈ ids) (h_236_18 : σ.1 236 18 = 0) (h_245_0 : σ.1 245 0 = 0) : Ki l D ids ad ca yX12_weightsOf cX12_weightsOf 4 .int 0 0 [.ref (ad 236), .int p0] σ (fun r σ1 => r = 0 ∧ σ1 = σ) := by
  refine Ki.of (by decide) (Nat.le_of_ble_eq_true rfl) 2 (fun Γ C Rt => ?_)
  show AW ids ad ca Γ 0 [some (.ref (ad 236)), some (.int p0), none, none] [] σ
  refine a_iconst C dX12_weightsOf_0 (v := 0) rfl ?_
  refine a_istore_n C dX12_weightsOf_1 (i := 2) rfl (by decide) rfl (vs1 := [some (.ref (ad 236)), some (.int p0), some (.int 0), none]) rfl ?_
  refine a_iconst C dX12_weightsOf_2 (v := 0) rfl ?_
  refine a_istore_n C dX12_weightsOf_3 (i := 3) rfl (by decide) rfl (vs1 := [some (.ref (ad 236)), some (.int p0), some (.int 0), some (.int 0)]) rfl ?_
  refine a_iload_n C dX12_weightsOf_4 (i := 3) rfl rfl ?_
  refine a_aload_n C dX12_weightsOf_5 (i := 0) rfl rfl ?_
  refine a_get C fl_RX12_43 (i := 236) kd_236 (hid 236 (by decide)) (v := .ref (ad 245)) rfl dX12_weightsOf_6 ?_
  refine a_aload_n C dX12_weightsOf_9 (i := 0) rfl rfl ?_
  refine a_get C fl_RX12_221 (i := 236) kd_236 (hid 236 (by decide)) (v := .int 0) (congrArg (fun z => some (Value.int z)) h_236_18) dX12_weightsOf_10 ?_
  refine a_iald C (i := 245) 0 kd_245 (hid 245 (by decide)) (by decide) rfl (by rw [al_245]; decide) dX12_weightsOf_13 (v := 0) h_245_0 ?_
  refine a_ic_ge C dX12_weightsOf_14 (tgt := 49) rfl (fun _ => ?_) (fun h => absurd h (by decide))
  refine a_iload_n C dX12_weightsOf_49 (i := 2) rfl rfl ?_
  exact a_iret Rt dX12_weightsOf_50 rfl (⟨rfl, rfl⟩)
theorem dX12_copies_0 : decode cX12_copies 0 = .ok (.iconst 0, 1) := by decide +kernel
theorem dX12_copies_1 : decode cX12_copies 1 = .ok (.istore_n 1, 1) := by decide +kernel
theorem dX12_copies_2 : decode cX12_copies 2 = .ok (.iload_n 1, 1) := by decide +kernel
theorem dX12_copies_3 : decode cX12_copies 3 = .ok (.bipush 29, 2) := by decide +kernel
theorem dX12_copies_5 : decode cX12_copies 5 = .ok (.if_icmp .ge 21, 3) := by decide +kernel
theorem dX12_copies_8 : decode cX12_copies 8 = .ok (.aload_n 0, 1) := by decide +kernel
theorem dX12_copies_9 : decode cX12_copies 9 = .ok (.getfield 110, 3) := by decide +kernel
theorem dX12_copies_12 : decode cX12_copies 12 = .ok (.iload_n 1, 1) := by decide +kernel
theorem dX12_copies_13 : decode cX12_copies 13 = .ok (.aload_n 0, 1) := by decide +kernel
theorem dX12_copies_14 : decode cX12_copies 14 = .ok (.getfield 107, 3) := by decide +kernel
theorem dX12_copies_17 : decode cX12_copies 17 = .ok (.iload_n 1, 1) := by decide +kernel
theorem dX12_copies_18 : decode cX12_copies 18 = .ok (.iaload, 1) := by decide +kernel
theorem dX12_copies_19 : decode cX12_copies 19 = .ok (.iastore, 1) := by decide +kernel
theorem dX12_copies_20 : decode cX12_copies 20 = .ok (.iinc 1 1, 3) := by decide +kernel
theorem dX12_copies_23 : decode cX12_copies 23 = .ok (.goto (-21), 3) := by decide +kernel
theorem dX12_copies_26 : decode cX12_copies 26 = .ok (.aload_n 0, 1) := by decide +kernel
theorem dX12_copies_27 : decode cX12_copies 27 = .ok (.aload_n 0, 1) := by decide +kernel
theorem dX12_copies_28 : decode cX12_copies 28 = .ok (.getfield 67, 3) := by decide +kernel
theorem dX12_copies_31 : decode cX12_copies 31 = .ok (.aload_n 0, 1) := by decide +kernel
theorem dX12_copies_32 : decode cX12_copies 32 = .ok (.getfield 221, 3) := by decide +kernel
theorem dX12_copies_35 : decode cX12_copies 35 = .ok (.iaload, 1) := by decide +kernel
theorem dX12_copies_36 : decode cX12_copies 36 = .ok (.putfield 305, 3) := by decide +kernel
theorem dX12_copies_39 : decode cX12_copies 39 = .ok (.aload_n 0, 1) := by decide +kernel
theorem dX12_copies_40 : decode cX12_copies 40 = .ok (.iconst 0, 1) := by decide +kernel
theorem dX12_copies_41 : decode cX12_copies 41 = .ok (.putfield 308, 3) := by decide +kernel
theorem dX12_copies_44 : decode cX12_copies 44 = .ok (.return_, 1) := by decide +kernel
set_option maxHeartbeats 4000000 in
set_option maxRecDepth 100000 in
theorem m_copies {l : Launch} {D : va_G} {ids : List Nat} {ad : Nat → Nat} {ca : Nat → ClassId} {σ : HS} (hid : ∀ i, i < 277 → i ∈ ids) (h_236_2 : σ.1 236 2 = 0) (h_236_18 : σ.1 236 18 = 0) (h_236_54 : σ.1 236 54 = 0) (h_236_60 : σ.1 236 60 = 0) (h_253_0 : σ.1 253 0 = 0) (h_266_0 : σ.1 266 0 = 0) (h_266_1 : σ.1 266 1 = 0) (h_266_2 : σ.1 266 2 = 0) (h_266_3 : σ.1 266 3 = 0) (h_266_4 : σ.1 266 4 = 0) (h_266_5 : σ.1 266 5 = 0) (h_266_6 : σ.1 266 6 = 0) (h_266_7 : σ.1 266 7 = 0) (h_266_8 : σ.1 266 8 = 0) (h_266_9 : σ.1 266 9 = 0) (h_266_10 : σ.1 266 10 = 0) (h_266_11 : σ.1 266 11 = 0) (h_266_12 : σ.1 266 12 = 0) (h_266_13 : σ.1 266 13 = 0) (h_266_14 : σ.1 266 14 = 0) (h_266_15 : σ.1 266 15 = 0) (h_266_16 : σ.1 266 16 = 0) (h_266_17 : σ.1 266 17 = 0) (h_266_18 : σ.1 266 18 = 0) (h_266_19 : σ.1 266 19 = 0) (h_266_20 : σ.1 266 20 = 0) (h_266_21 : σ.1 266 21 = 0) (h_266_22 : σ.1 266 22 = 0) (h_266_23 : σ.1 266 23 = 0) (h_266_24 : σ.1 266 24 = 0) (h_266_25 : σ.1 266 25 = 0) (h_266_26 : σ.1 266 26 = (-2)) (h_266_27 : σ.1 266 27 = 0) (h_266_28 : σ.1 266 28 = (-1)) : Kv l D ids ad ca yX12_copies cX12_copies 2 0 0 [.ref (ad 236)] σ (fun σ1 => only [267, 236] σ σ1 ∧ σ1.1 267 0 = 0 ∧ σ1.1 267 1 = 0 ∧ σ1.1 267 2 = 0 ∧ σ1.1 267 3 = 0 ∧ σ1.1 267 4 = 0 ∧ σ1.1 267 5 = 0 ∧ σ1.1 267 6 = 0 ∧ σ1.1 267 7 = 0 ∧ σ1.1 267 8 = 0 ∧ σ1.1 267 9 = 0 ∧ σ1.1 267 10 = 0 ∧ σ1.1 267 11 = 0 ∧ σ1.1 267 12 = 0 ∧ σ1.1 267 13 = 0 ∧ σ1.1 267 14 = 0 ∧ σ1.1 267 15 = 0 ∧ σ1.1 267 16 = 0 ∧ σ1.1 267 17 = 0 ∧ σ1.1 267 18 = 0 ∧ σ1.1 267 19 = 0 ∧ σ1.1 267 20 = 0 ∧ σ1.1 267 21 = 0 ∧ σ1.1 267 22 = 0 ∧ σ1.1 267 23 = 0 ∧ σ1.1 267 24 = 0 ∧ σ1.1 267 25 = 0 ∧ σ1.1 267 26 = (-2) ∧ σ1.1 267 27 = 0 ∧ σ1.1 267 28 = (-1) ∧ σ1.1 236 18 = 0 ∧ σ1.1 236 54 = 0 ∧ σ1.1 236 60 = 0 ∧ σ1.1 236 2 = 0) := by
  refine Kv.of (by decide) (Nat.le_of_ble_eq_true rfl) 1 (fun Γ C Rt => ?_)
  show AW ids ad ca Γ 0 [some (.ref (ad 236)), none] [] σ
  refine a_iconst C dX12_copies_0 (v := 0) rfl ?_
  refine a_istore_n C dX12_copies_1 (i := 1) rfl (by decide) rfl (vs1 := [some (.ref (ad 236)), some (.int 0)]) rfl ?_
  refine a_iload_n C dX12_copies_2 (i := 1) rfl rfl ?_
  refine a_bipush C dX12_copies_3 (v := 29) rfl ?_
  refine a_ic_ge C dX12_copies_5 (tgt := 26) rfl (fun h => absurd h (by decide)) (fun _ => ?_)
  refine a_aload_n C dX12_copies_8 (i := 0) rfl rfl ?_
  refine a_get C fl_RX12_110 (i := 236) kd_236 (hid 236 (by decide)) (v := .ref (ad 267)) rfl dX12_copies_9 ?_
  refine a_iload_n C dX12_copies_12 (i := 1) rfl rfl ?_
  refine a_aload_n C dX12_copies_13 (i := 0) rfl rfl ?_
  refine a_get C fl_RX12_107 (i := 236) kd_236 (hid 236 (by decide)) (v := .ref (ad 266)) rfl dX12_copies_14 ?_
  refine a_iload_n C dX12_copies_17 (i := 1) rfl rfl ?_
  refine a_iald C (i := 266) 0 kd_266 (hid 266 (by decide)) (by decide) rfl (by rw [al_266]; decide) dX12_copies_18 (v := 0) h_266_0 ?_
  refine a_iast C (i := 267) 0 kd_267 (hid 267 (by decide)) (by decide) rfl (by rw [al_267]; decide) dX12_copies_19 ?_
  refine a_iinc C dX12_copies_20 rfl (v := 1) rfl (by decide) rfl (vs1 := [some (.ref (ad 236)), some (.int 1)]) rfl ?_
  refine a_goto C dX12_copies_23 (tgt := 2) rfl ?_
  refine a_iload_n C dX12_copies_2 (i := 1) rfl rfl ?_
  refine a_bipush C dX12_copies_3 (v := 29) rfl ?_
  refine a_ic_ge C dX12_copies_5 (tgt := 26) rfl (fun h => absurd h (by decide)) (fun _ => ?_)
  refine a_aload_n C dX12_copies_8 (i := 0) rfl rfl ?_
  refine a_get C fl_RX12_110 (i := 236) kd_236 (hid 236 (by decide)) (v := .ref (ad 267)) rfl dX12_copies_9 ?_
  refine a_iload_n C dX12_copies_12 (i := 1) rfl rfl ?_
  refine a_aload_n C dX12_copies_13 (i := 0) rfl rfl ?_
  refine a_get C fl_RX12_107 (i := 236) kd_236 (hid 236 (by decide)) (v := .ref (ad 266)) rfl dX12_copies_14 ?_
  refine a_iload_n C dX12_copies_17 (i := 1) rfl rfl ?_
  refine a_iald C (i := 266) 1 kd_266 (hid 266 (by decide)) (by decide) rfl (by rw [al_266]; decide) dX12_copies_18 (v := 0) h_266_1 ?_
  refine a_iast C (i := 267) 1 kd_267 (hid 267 (by decide)) (by decide) rfl (by rw [al_267]; decide) dX12_copies_19 ?_
  refine a_iinc C dX12_copies_20 rfl (v := 2) rfl (by decide) rfl (vs1 := [some (.ref (ad 236)), some (.int 2)]) rfl ?_
  refine a_goto C dX12_copies_23 (tgt := 2) rfl ?_
  refine a_iload_n C dX12_copies_2 (i := 1) rfl rfl ?_
  refine a_bipush C dX12_copies_3 (v := 29) rfl ?_
  refine a_ic_ge C dX12_copies_5 (tgt := 26) rfl (fun h => absurd h (by decide)) (fun _ => ?_)
  refine a_aload_n C dX12_copies_8 (i := 0) rfl rfl ?_
  refine a_get C fl_RX12_110 (i := 236) kd_236 (hid 236 (by decide)) (v := .ref (ad 267)) rfl dX12_copies_9 ?_
  refine a_iload_n C dX12_copies_12 (i := 1) rfl rfl ?_
  refine a_aload_n C dX12_copies_13 (i := 0) rfl rfl ?_
  refine a_get C fl_RX12_107 (i := 236) kd_236 (hid 236 (by decide)) (v := .ref (ad 266)) rfl dX12_copies_14 ?_
  refine a_iload_n C dX12_copies_17 (i := 1) rfl rfl ?_
  refine a_iald C (i := 266) 2 kd_266 (hid 266 (by decide)) (by decide) rfl (by rw [al_266]; decide) dX12_copies_18 (v := 0) h_266_2 ?_
  refine a_iast C (i := 267) 2 kd_267 (hid 267 (by decide)) (by decide) rfl (by rw [al_267]; decide) dX12_copies_19 ?_
  refine a_iinc C dX12_copies_20 rfl (v := 3) rfl (by decide) rfl (vs1 := [some (.ref (ad 236)), some (.int 3)]) rfl ?_
  refine a_goto C dX12_copies_23 (tgt := 2) rfl ?_
  refine a_iload_n C dX12_copies_2 (i := 1) rfl rfl ?_
  refine a_bipush C dX12_copies_3 (v := 29) rfl ?_
  refine a_ic_ge C dX12_copies_5 (tgt := 26) rfl (fun h => absurd h (by decide)) (fun _ => ?_)
  refine a_aload_n C dX12_copies_8 (i := 0) rfl rfl ?_
  refine a_get C fl_RX12_110 (i := 236) kd_236 (hid 236 (by decide)) (v := .ref (ad 267)) rfl dX12_copies_9 ?_
  refine a_iload_n C dX12_copies_12 (i := 1) rfl rfl ?_
  refine a_aload_n C dX12_copies_13 (i := 0) rfl rfl ?_
  refine a_get C fl_RX12_107 (i := 236) kd_236 (hid 236 (by decide)) (v := .ref (ad 266)) rfl dX12_copies_14 ?_
  refine a_iload_n C dX12_copies_17 (i := 1) rfl rfl ?_
  refine a_iald C (i := 266) 3 kd_266 (hid 266 (by decide)) (by decide) rfl (by rw [al_266]; decide) dX12_copies_18 (v := 0) h_266_3 ?_
  refine a_iast C (i := 267) 3 kd_267 (hid 267 (by decide)) (by decide) rfl (by rw [al_267]; decide) dX12_copies_19 ?_
  refine a_iinc C dX12_copies_20 rfl (v := 4) rfl (by decide) rfl (vs1 := [some (.ref (ad 236)), some (.int 4)]) rfl ?_
  refine a_goto C dX12_copies_23 (tgt := 2) rfl ?_
  refine a_iload_n C dX12_copies_2 (i := 1) rfl rfl ?_
  refine a_bipush C dX12_copies_3 (v := 29) rfl ?_
  refine a_ic_ge C dX12_copies_5 (tgt := 26) rfl (fun h => absurd h (by decide)) (fun _ => ?_)
  refine a_aload_n C dX12_copies_8 (i := 0) rfl rfl ?_
  refine a_get C fl_RX12_110 (i := 236) kd_236 (hid 236 (by decide)) (v := .ref (ad 267)) rfl dX12_copies_9 ?_
  refine a_iload_n C dX12_copies_12 (i := 1) rfl rfl ?_
  refine a_aload_n C dX12_copies_13 (i := 0) rfl rfl ?_
  refine a_get C fl_RX12_107 (i := 236) kd_236 (hid 236 (by decide)) (v := .ref (ad 266)) rfl dX12_copies_14 ?_
  refine a_iload_n C dX12_copies_17 (i := 1) rfl rfl ?_
  refine a_iald C (i := 266) 4 kd_266 (hid 266 (by decide)) (by decide) rfl (by rw [al_266]; decide) dX12_copies_18 (v := 0) h_266_4 ?_
  refine a_iast C (i := 267) 4 kd_267 (hid 267 (by decide)) (by decide) rfl (by rw [al_267]; decide) dX12_copies_19 ?_
  refine a_iinc C dX12_copies_20 rfl (v := 5) rfl (by decide) rfl (vs1 := [some (.ref (ad 236)), some (.int 5)]) rfl ?_
  refine a_goto C dX12_copies_23 (tgt := 2) rfl ?_
  refine a_iload_n C dX12_copies_2 (i := 1) rfl rfl ?_
  refine a_bipush C dX12_copies_3 (v := 29) rfl ?_
  refine a_ic_ge C dX12_copies_5 (tgt := 26) rfl (fun h => absurd h (by decide)) (fun _ => ?_)
  refine a_aload_n C dX12_copies_8 (i := 0) rfl rfl ?_
  refine a_get C fl_RX12_110 (i := 236) kd_236 (hid 236 (by decide)) (v := .ref (ad 267)) rfl dX12_copies_9 ?_
  refine a_iload_n C dX12_copies_12 (i := 1) rfl rfl ?_
  refine a_aload_n C dX12_copies_13 (i := 0) rfl rfl ?_
  refine a_get C fl_RX12_107 (i := 236) kd_236 (hid 236 (by decide)) (v := .ref (ad 266)) rfl dX12_copies_14 ?_
  refine a_iload_n C dX12_copies_17 (i := 1) rfl rfl ?_
  refine a_iald C (i := 266) 5 kd_266 (hid 266 (by decide)) (by decide) rfl (by rw [al_266]; decide) dX12_copies_18 (v := 0) h_266_5 ?_
  refine a_iast C (i := 267) 5 kd_267 (hid 267 (by decide)) (by decide) rfl (by rw [al_267]; decide) dX12_copies_19 ?_
  refine a_iinc C dX12_copies_20 rfl (v := 6) rfl (by decide) rfl (vs1 := [some (.ref (ad 236)), some (.int 6)]) rfl ?_
  refine a_goto C dX12_copies_23 (tgt := 2) rfl ?_
  refine a_iload_n C dX12_copies_2 (i := 1) rfl rfl ?_
  refine a_bipush C dX12_copies_3 (v := 29) rfl ?_
  refine a_ic_ge C dX12_copies_5 (tgt := 26) rfl (fun h => absurd h (by decide)) (fun _ => ?_)
  refine a_aload_n C dX12_copies_8 (i := 0) rfl rfl ?_
  refine a_get C fl_RX12_110 (i := 236) kd_236 (hid 236 (by decide)) (v := .ref (ad 267)) rfl dX12_copies_9 ?_
  refine a_iload_n C dX12_copies_12 (i := 1) rfl rfl ?_
  refine a_aload_n C dX12_copies_13 (i := 0) rfl rfl ?_
  refine a_get C fl_RX12_107 (i := 236) kd_236 (hid 236 (by decide)) (v := .ref (ad 266)) rfl dX12_copies_14 ?_
  refine a_iload_n C dX12_copies_17 (i := 1) rfl rfl ?_
  refine a_iald C (i := 266) 6 kd_266 (hid 266 (by decide)) (by decide) rfl (by rw [al_266]; decide) dX12_copies_18 (v := 0) h_266_6 ?_
  refine a_iast C (i := 267) 6 kd_267 (hid 267 (by decide)) (by decide) rfl (by rw [al_267]; decide) dX12_copies_19 ?_
  refine a_iinc C dX12_copies_20 rfl (v := 7) rfl (by decide) rfl (vs1 := [some (.ref (ad 236)), some (.int 7)]) rfl ?_
  refine a_goto C dX12_copies_23 (tgt := 2) rfl ?_
  refine a_iload_n C dX12_copies_2 (i := 1) rfl rfl ?_
  refine a_bipush C dX12_copies_3 (v := 29) rfl ?_
  refine a_ic_ge C dX12_copies_5 (tgt := 26) rfl (fun h => absurd h (by decide)) (fun _ => ?_)
  refine a_aload_n C dX12_copies_8 (i := 0) rfl rfl ?_
  refine a_get C fl_RX12_110 (i := 236) kd_236 (hid 236 (by decide)) (v := .ref (ad 267)) rfl dX12_copies_9 ?_
  refine a_iload_n C dX12_copies_12 (i := 1) rfl rfl ?_
  refine a_aload_n C dX12_copies_13 (i := 0) rfl rfl ?_
  refine a_get C fl_RX12_107 (i := 236) kd_236 (hid 236 (by decide)) (v := .ref (ad 266)) rfl dX12_copies_14 ?_
  refine a_iload_n C dX12_copies_17 (i := 1) rfl rfl ?_
  refine a_iald C (i := 266) 7 kd_266 (hid 266 (by decide)) (by decide) rfl (by rw [al_266]; decide) dX12_copies_18 (v := 0) h_266_7 ?_
  refine a_iast C (i := 267) 7 kd_267 (hid 267 (by decide)) (by decide) rfl (by rw [al_267]; decide) dX12_copies_19 ?_
  refine a_iinc C dX12_copies_20 rfl (v := 8) rfl (by decide) rfl (vs1 := [some (.ref (ad 236)), some (.int 8)]) rfl ?_
  refine a_goto C dX12_copies_23 (tgt := 2) rfl ?_
  refine a_iload_n C dX12_copies_2 (i := 1) rfl rfl ?_
  refine a_bipush C dX12_copies_3 (v := 29) rfl ?_
  refine a_ic_ge C dX12_copies_5 (tgt := 26) rfl (fun h => absurd h (by decide)) (fun _ => ?_)
  refine a_aload_n C dX12_copies_8 (i := 0) rfl rfl ?_
  refine a_get C fl_RX12_110 (i := 236) kd_236 (hid 236 (by decide)) (v := .ref (ad 267)) rfl dX12_copies_9 ?_
  refine a_iload_n C dX12_copies_12 (i := 1) rfl rfl ?_
  refine a_aload_n C dX12_copies_13 (i := 0) rfl rfl ?_
  refine a_get C fl_RX12_107 (i := 236) kd_236 (hid 236 (by decide)) (v := .ref (ad 266)) rfl dX12_copies_14 ?_
  refine a_iload_n C dX12_copies_17 (i := 1) rfl rfl ?_
  refine a_iald C (i := 266) 8 kd_266 (hid 266 (by decide)) (by decide) rfl (by rw [al_266]; decide) dX12_copies_18 (v := 0) h_266_8 ?_
  refine a_iast C (i := 267) 8 kd_267 (hid 267 (by decide)) (by decide) rfl (by rw [al_267]; decide) dX12_copies_19 ?_
  refine a_iinc C dX12_copies_20 rfl (v := 9) rfl (by decide) rfl (vs1 := [some (.ref (ad 236)), some (.int 9)]) rfl ?_
  refine a_goto C dX12_copies_23 (tgt := 2) rfl ?_
  refine a_iload_n C dX12_copies_2 (i := 1) rfl rfl ?_
  refine a_bipush C dX12_copies_3 (v := 29) rfl ?_
  refine a_ic_ge C dX12_copies_5 (tgt := 26) rfl (fun h => absurd h (by decide)) (fun _ => ?_)
  refine a_aload_n C dX12_copies_8 (i := 0) rfl rfl ?_
  refine a_get C fl_RX12_110 (i := 236) kd_236 (hid 236 (by decide)) (v := .ref (ad 267)) rfl dX12_copies_9 ?_
  refine a_iload_n C dX12_copies_12 (i := 1) rfl rfl ?_
  refine a_aload_n C dX12_copies_13 (i := 0) rfl rfl ?_
  refine a_get C fl_RX12_107 (i := 236) kd_236 (hid 236 (by decide)) (v := .ref (ad 266)) rfl dX12_copies_14 ?_
  refine a_iload_n C dX12_copies_17 (i := 1) rfl rfl ?_
  refine a_iald C (i := 266) 9 kd_266 (hid 266 (by decide)) (by decide) rfl (by rw [al_266]; decide) dX12_copies_18 (v := 0) h_266_9 ?_
  refine a_iast C (i := 267) 9 kd_267 (hid 267 (by decide)) (by decide) rfl (by rw [al_267]; decide) dX12_copies_19 ?_
  refine a_iinc C dX12_copies_20 rfl (v := 10) rfl (by decide) rfl (vs1 := [some (.ref (ad 236)), some (.int 10)]) rfl ?_
  refine a_goto C dX12_copies_23 (tgt := 2) rfl ?_
  refine a_iload_n C dX12_copies_2 (i := 1) rfl rfl ?_
  refine a_bipush C dX12_copies_3 (v := 29) rfl ?_
  refine a_ic_ge C dX12_copies_5 (tgt := 26) rfl (fun h => absurd h (by decide)) (fun _ => ?_)
  refine a_aload_n C dX12_copies_8 (i := 0) rfl rfl ?_
  refine a_get C fl_RX12_110 (i := 236) kd_236 (hid 236 (by decide)) (v := .ref (ad 267)) rfl dX12_copies_9 ?_
  refine a_iload_n C dX12_copies_12 (i := 1) rfl rfl ?_
  refine a_aload_n C dX12_copies_13 (i := 0) rfl rfl ?_
  refine a_get C fl_RX12_107 (i := 236) kd_236 (hid 236 (by decide)) (v := .ref (ad 266)) rfl dX12_copies_14 ?_
  refine a_iload_n C dX12_copies_17 (i := 1) rfl rfl ?_
  refine a_iald C (i := 266) 10 kd_266 (hid 266 (by decide)) (by decide) rfl (by rw [al_266]; decide) dX12_copies_18 (v := 0) h_266_10 ?_
  refine a_iast C (i := 267) 10 kd_267 (hid 267 (by decide)) (by decide) rfl (by rw [al_267]; decide) dX12_copies_19 ?_
  refine a_iinc C dX12_copies_20 rfl (v := 11) rfl (by decide) rfl (vs1 := [some (.ref (ad 236)), some (.int 11)]) rfl ?_
  refine a_goto C dX12_copies_23 (tgt := 2) rfl ?_
  refine a_iload_n C dX12_copies_2 (i := 1) rfl rfl ?_
  refine a_bipush C dX12_copies_3 (v := 29) rfl ?_
  refine a_ic_ge C dX12_copies_5 (tgt := 26) rfl (fun h => absurd h (by decide)) (fun _ => ?_)
  refine a_aload_n C dX12_copies_8 (i := 0) rfl rfl ?_
  refine a_get C fl_RX12_110 (i := 236) kd_236 (hid 236 (by decide)) (v := .ref (ad 267)) rfl dX12_copies_9 ?_
  refine a_iload_n C dX12_copies_12 (i := 1) rfl rfl ?_
  refine a_aload_n C dX12_copies_13 (i := 0) rfl rfl ?_
  refine a_get C fl_RX12_107 (i := 236) kd_236 (hid 236 (by decide)) (v := .ref (ad 266)) rfl dX12_copies_14 ?_
  refine a_iload_n C dX12_copies_17 (i := 1) rfl rfl ?_
  refine a_iald C (i := 266) 11 kd_266 (hid 266 (by decide)) (by decide) rfl (by rw [al_266]; decide) dX12_copies_18 (v := 0) h_266_11 ?_
  refine a_iast C (i := 267) 11 kd_267 (hid 267 (by decide)) (by decide) rfl (by rw [al_267]; decide) dX12_copies_19 ?_
  refine a_iinc C dX12_copies_20 rfl (v := 12) rfl (by decide) rfl (vs1 := [some (.ref (ad 236)), some (.int 12)]) rfl ?_
  refine a_goto C dX12_copies_23 (tgt := 2) rfl ?_
  refine a_iload_n C dX12_copies_2 (i := 1) rfl rfl ?_
  refine a_bipush C dX12_copies_3 (v := 29) rfl ?_
  refine a_ic_ge C dX12_copies_5 (tgt := 26) rfl (fun h => absurd h (by decide)) (fun _ => ?_)
  refine a_aload_n C dX12_copies_8 (i := 0) rfl rfl ?_
  refine a_get C fl_RX12_110 (i := 236) kd_236 (hid 236 (by decide)) (v := .ref (ad 267)) rfl dX12_copies_9 ?_
  refine a_iload_n C dX12_copies_12 (i := 1) rfl rfl ?_
  refine a_aload_n C dX12_copies_13 (i := 0) rfl rfl ?_
  refine a_get C fl_RX12_107 (i := 236) kd_236 (hid 236 (by decide)) (v := .ref (ad 266)) rfl dX12_copies_14 ?_
  refine a_iload_n C dX12_copies_17 (i := 1) rfl rfl ?_
  refine a_iald C (i := 266) 12 kd_266 (hid 266 (by decide)) (by decide) rfl (by rw [al_266]; decide) dX12_copies_18 (v := 0) h_266_12 ?_
  refine a_iast C (i := 267) 12 kd_267 (hid 267 (by decide)) (by decide) rfl (by rw [al_267]; decide) dX12_copies_19 ?_
  refine a_iinc C dX12_copies_20 rfl (v := 13) rfl (by decide) rfl (vs1 := [some (.ref (ad 236)), some (.int 13)]) rfl ?_
  refine a_goto C dX12_copies_23 (tgt := 2) rfl ?_
  refine a_iload_n C dX12_copies_2 (i := 1) rfl rfl ?_
  refine a_bipush C dX12_copies_3 (v := 29) rfl ?_
  refine a_ic_ge C dX12_copies_5 (tgt := 26) rfl (fun h => absurd h (by decide)) (fun _ => ?_)
  refine a_aload_n C dX12_copies_8 (i := 0) rfl rfl ?_
  refine a_get C fl_RX12_110 (i := 236) kd_236 (hid 236 (by decide)) (v := .ref (ad 267)) rfl dX12_copies_9 ?_
  refine a_iload_n C dX12_copies_12 (i := 1) rfl rfl ?_
  refine a_aload_n C dX12_copies_13 (i := 0) rfl rfl ?_
  refine a_get C fl_RX12_107 (i := 236) kd_236 (hid 236 (by decide)) (v := .ref (ad 266)) rfl dX12_copies_14 ?_
  refine a_iload_n C dX12_copies_17 (i := 1) rfl rfl ?_
  refine a_iald C (i := 266) 13 kd_266 (hid 266 (by decide)) (by decide) rfl (by rw [al_266]; decide) dX12_copies_18 (v := 0) h_266_13 ?_
  refine a_iast C (i := 267) 13 kd_267 (hid 267 (by decide)) (by decide) rfl (by rw [al_267]; decide) dX12_copies_19 ?_
  refine a_iinc C dX12_copies_20 rfl (v := 14) rfl (by decide) rfl (vs1 := [some (.ref (ad 236)), some (.int 14)]) rfl ?_
  refine a_goto C dX12_copies_23 (tgt := 2) rfl ?_
  refine a_iload_n C dX12_copies_2 (i := 1) rfl rfl ?_
  refine a_bipush C dX12_copies_3 (v := 29) rfl ?_
  refine a_ic_ge C dX12_copies_5 (tgt := 26) rfl (fun h => absurd h (by decide)) (fun _ => ?_)
  refine a_aload_n C dX12_copies_8 (i := 0) rfl rfl ?_
  refine a_get C fl_RX12_110 (i := 236) kd_236 (hid 236 (by decide)) (v := .ref (ad 267)) rfl dX12_copies_9 ?_
  refine a_iload_n C dX12_copies_12 (i := 1) rfl rfl ?_
  refine a_aload_n C dX12_copies_13 (i := 0) rfl rfl ?_
  refine a_get C fl_RX12_107 (i := 236) kd_236 (hid 236 (by decide)) (v := .ref (ad 266)) rfl dX12_copies_14 ?_
  refine a_iload_n C dX12_copies_17 (i := 1) rfl rfl ?_
  refine a_iald C (i := 266) 14 kd_266 (hid 266 (by decide)) (by decide) rfl (by rw [al_266]; decide) dX12_copies_18 (v := 0) h_266_14 ?_
  refine a_iast C (i := 267) 14 kd_267 (hid 267 (by decide)) (by decide) rfl (by rw [al_267]; decide) dX12_copies_19 ?_
  refine a_iinc C dX12_copies_20 rfl (v := 15) rfl (by decide) rfl (vs1 := [some (.ref (ad 236)), some (.int 15)]) rfl ?_
  refine a_goto C dX12_copies_23 (tgt := 2) rfl ?_
  refine a_iload_n C dX12_copies_2 (i := 1) rfl rfl ?_
  refine a_bipush C dX12_copies_3 (v := 29) rfl ?_
  refine a_ic_ge C dX12_copies_5 (tgt := 26) rfl (fun h => absurd h (by decide)) (fun _ => ?_)
  refine a_aload_n C dX12_copies_8 (i := 0) rfl rfl ?_
  refine a_get C fl_RX12_110 (i := 236) kd_236 (hid 236 (by decide)) (v := .ref (ad 267)) rfl dX12_copies_9 ?_
  refine a_iload_n C dX12_copies_12 (i := 1) rfl rfl ?_
  refine a_aload_n C dX12_copies_13 (i := 0) rfl rfl ?_
  refine a_get C fl_RX12_107 (i := 236) kd_236 (hid 236 (by decide)) (v := .ref (ad 266)) rfl dX12_copies_14 ?_
  refine a_iload_n C dX12_copies_17 (i := 1) rfl rfl ?_
  refine a_iald C (i := 266) 15 kd_266 (hid 266 (by decide)) (by decide) rfl (by rw [al_266]; decide) dX12_copies_18 (v := 0) h_266_15 ?_
  refine a_iast C (i := 267) 15 kd_267 (hid 267 (by decide)) (by decide) rfl (by rw [al_267]; decide) dX12_copies_19 ?_
  refine a_iinc C dX12_copies_20 rfl (v := 16) rfl (by decide) rfl (vs1 := [some (.ref (ad 236)), some (.int 16)]) rfl ?_
  refine a_goto C dX12_copies_23 (tgt := 2) rfl ?_
  refine a_iload_n C dX12_copies_2 (i := 1) rfl rfl ?_
  refine a_bipush C dX12_copies_3 (v := 29) rfl ?_
  refine a_ic_ge C dX12_copies_5 (tgt := 26) rfl (fun h => absurd h (by decide)) (fun _ => ?_)
  refine a_aload_n C dX12_copies_8 (i := 0) rfl rfl ?_
  refine a_get C fl_RX12_110 (i := 236) kd_236 (hid 236 (by decide)) (v := .ref (ad 267)) rfl dX12_copies_9 ?_
  refine a_iload_n C dX12_copies_12 (i := 1) rfl rfl ?_
  refine a_aload_n C dX12_copies_13 (i := 0) rfl rfl ?_
  refine a_get C fl_RX12_107 (i := 236) kd_236 (hid 236 (by decide)) (v := .ref (ad 266)) rfl dX12_copies_14 ?_
  refine a_iload_n C dX12_copies_17 (i := 1) rfl rfl ?_
  refine a_iald C (i := 266) 16 kd_266 (hid 266 (by decide)) (by decide) rfl (by rw [al_266]; decide) dX12_copies_18 (v := 0) h_266_16 ?_
  refine a_iast C (i := 267) 16 kd_267 (hid 267 (by decide)) (by decide) rfl (by rw [al_267]; decide) dX12_copies_19 ?_
  refine a_iinc C dX12_copies_20 rfl (v := 17) rfl (by decide) rfl (vs1 := [some (.ref (ad 236)), some (.int 17)]) rfl ?_
  refine a_goto C dX12_copies_23 (tgt := 2) rfl ?_
  refine a_iload_n C dX12_copies_2 (i := 1) rfl rfl ?_
  refine a_bipush C dX12_copies_3 (v := 29) rfl ?_
  refine a_ic_ge C dX12_copies_5 (tgt := 26) rfl (fun h => absurd h (by decide)) (fun _ => ?_)
  refine a_aload_n C dX12_copies_8 (i := 0) rfl rfl ?_
  refine a_get C fl_RX12_110 (i := 236) kd_236 (hid 236 (by decide)) (v := .ref (ad 267)) rfl dX12_copies_9 ?_
  refine a_iload_n C dX12_copies_12 (i := 1) rfl rfl ?_
  refine a_aload_n C dX12_copies_13 (i := 0) rfl rfl ?_
  refine a_get C fl_RX12_107 (i := 236) kd_236 (hid 236 (by decide)) (v := .ref (ad 266)) rfl dX12_copies_14 ?_
  refine a_iload_n C dX12_copies_17 (i := 1) rfl rfl ?_
  refine a_iald C (i := 266) 17 kd_266 (hid 266 (by decide)) (by decide) rfl (by rw [al_266]; decide) dX12_copies_18 (v := 0) h_266_17 ?_
  refine a_iast C (i := 267) 17 kd_267 (hid 267 (by decide)) (by decide) rfl (by rw [al_267]; decide) dX12_copies_19 ?_
  refine a_iinc C dX12_copies_20 rfl (v := 18) rfl (by decide) rfl (vs1 := [some (.ref (ad 236)), some (.int 18)]) rfl ?_
  refine a_goto C dX12_copies_23 (tgt := 2) rfl ?_
  refine a_iload_n C dX12_copies_2 (i := 1) rfl rfl ?_
  refine a_bipush C dX12_copies_3 (v := 29) rfl ?_
  refine a_ic_ge C dX12_copies_5 (tgt := 26) rfl (fun h => absurd h (by decide)) (fun _ => ?_)
  refine a_aload_n C dX12_copies_8 (i := 0) rfl rfl ?_
  refine a_get C fl_RX12_110 (i := 236) kd_236 (hid 236 (by decide)) (v := .ref (ad 267)) rfl dX12_copies_9 ?_
  refine a_iload_n C dX12_copies_12 (i := 1) rfl rfl ?_
  refine a_aload_n C dX12_copies_13 (i := 0) rfl rfl ?_
  refine a_get C fl_RX12_107 (i := 236) kd_236 (hid 236 (by decide)) (v := .ref (ad 266)) rfl dX12_copies_14 ?_
  refine a_iload_n C dX12_copies_17 (i := 1) rfl rfl ?_
  refine a_iald C (i := 266) 18 kd_266 (hid 266 (by decide)) (by decide) rfl (by rw [al_266]; decide) dX12_copies_18 (v := 0) h_266_18 ?_
  refine a_iast C (i := 267) 18 kd_267 (hid 267 (by decide)) (by decide) rfl (by rw [al_267]; decide) dX12_copies_19 ?_
  refine a_iinc C dX12_copies_20 rfl (v := 19) rfl (by decide) rfl (vs1 := [some (.ref (ad 236)), some (.int 19)]) rfl ?_
  refine a_goto C dX12_copies_23 (tgt := 2) rfl ?_
  refine a_iload_n C dX12_copies_2 (i := 1) rfl rfl ?_
  refine a_bipush C dX12_copies_3 (v := 29) rfl ?_
  refine a_ic_ge C dX12_copies_5 (tgt := 26) rfl (fun h => absurd h (by decide)) (fun _ => ?_)
  refine a_aload_n C dX12_copies_8 (i := 0) rfl rfl ?_
  refine a_get C fl_RX12_110 (i := 236) kd_236 (hid 236 (by decide)) (v := .ref (ad 267)) rfl dX12_copies_9 ?_
  refine a_iload_n C dX12_copies_12 (i := 1) rfl rfl ?_
  refine a_aload_n C dX12_copies_13 (i := 0) rfl rfl ?_
  refine a_get C fl_RX12_107 (i := 236) kd_236 (hid 236 (by decide)) (v := .ref (ad 266)) rfl dX12_copies_14 ?_
  refine a_iload_n C dX12_copies_17 (i := 1) rfl rfl ?_
  refine a_iald C (i := 266) 19 kd_266 (hid 266 (by decide)) (by decide) rfl (by rw [al_266]; decide) dX12_copies_18 (v := 0) h_266_19 ?_
  refine a_iast C (i := 267) 19 kd_267 (hid 267 (by decide)) (by decide) rfl (by rw [al_267]; decide) dX12_copies_19 ?_
  refine a_iinc C dX12_copies_20 rfl (v := 20) rfl (by decide) rfl (vs1 := [some (.ref (ad 236)), some (.int 20)]) rfl ?_
  refine a_goto C dX12_copies_23 (tgt := 2) rfl ?_
  refine a_iload_n C dX12_copies_2 (i := 1) rfl rfl ?_
  refine a_bipush C dX12_copies_3 (v := 29) rfl ?_
  refine a_ic_ge C dX12_copies_5 (tgt := 26) rfl (fun h => absurd h (by decide)) (fun _ => ?_)
  refine a_aload_n C dX12_copies_8 (i := 0) rfl rfl ?_
  refine a_get C fl_RX12_110 (i := 236) kd_236 (hid 236 (by decide)) (v := .ref (ad 267)) rfl dX12_copies_9 ?_
  refine a_iload_n C dX12_copies_12 (i := 1) rfl rfl ?_
  refine a_aload_n C dX12_copies_13 (i := 0) rfl rfl ?_
  refine a_get C fl_RX12_107 (i := 236) kd_236 (hid 236 (by decide)) (v := .ref (ad 266)) rfl dX12_copies_14 ?_
  refine a_iload_n C dX12_copies_17 (i := 1) rfl rfl ?_
  refine a_iald C (i := 266) 20 kd_266 (hid 266 (by decide)) (by decide) rfl (by rw [al_266]; decide) dX12_copies_18 (v := 0) h_266_20 ?_
  refine a_iast C (i := 267) 20 kd_267 (hid 267 (by decide)) (by decide) rfl (by rw [al_267]; decide) dX12_copies_19 ?_
  refine a_iinc C dX12_copies_20 rfl (v := 21) rfl (by decide) rfl (vs1 := [some (.ref (ad 236)), some (.int 21)]) rfl ?_
  refine a_goto C dX12_copies_23 (tgt := 2) rfl ?_
  refine a_iload_n C dX12_copies_2 (i := 1) rfl rfl ?_
  refine a_bipush C dX12_copies_3 (v := 29) rfl ?_
  refine a_ic_ge C dX12_copies_5 (tgt := 26) rfl (fun h => absurd h (by decide)) (fun _ => ?_)
  refine a_aload_n C dX12_copies_8 (i := 0) rfl rfl ?_
  refine a_get C fl_RX12_110 (i := 236) kd_236 (hid 236 (by decide)) (v := .ref (ad 267)) rfl dX12_copies_9 ?_
  refine a_iload_n C dX12_copies_12 (i := 1) rfl rfl ?_
  refine a_aload_n C dX12_copies_13 (i := 0) rfl rfl ?_
  refine a_get C fl_RX12_107 (i := 236) kd_236 (hid 236 (by decide)) (v := .ref (ad 266)) rfl dX12_copies_14 ?_
  refine a_iload_n C dX12_copies_17 (i := 1) rfl rfl ?_
  refine a_iald C (i := 266) 21 kd_266 (hid 266 (by decide)) (by decide) rfl (by rw [al_266]; decide) dX12_copies_18 (v := 0) h_266_21 ?_
  refine a_iast C (i := 267) 21 kd_267 (hid 267 (by decide)) (by decide) rfl (by rw [al_267]; decide) dX12_copies_19 ?_
  refine a_iinc C dX12_copies_20 rfl (v := 22) rfl (by decide) rfl (vs1 := [some (.ref (ad 236)), some (.int 22)]) rfl ?_
  refine a_goto C dX12_copies_23 (tgt := 2) rfl ?_
  refine a_iload_n C dX12_copies_2 (i := 1) rfl rfl ?_
  refine a_bipush C dX12_copies_3 (v := 29) rfl ?_
  refine a_ic_ge C dX12_copies_5 (tgt := 26) rfl (fun h => absurd h (by decide)) (fun _ => ?_)
  refine a_aload_n C dX12_copies_8 (i := 0) rfl rfl ?_
  refine a_get C fl_RX12_110 (i := 236) kd_236 (hid 236 (by decide)) (v := .ref (ad 267)) rfl dX12_copies_9 ?_
  refine a_iload_n C dX12_copies_12 (i := 1) rfl rfl ?_
  refine a_aload_n C dX12_copies_13 (i := 0) rfl rfl ?_
  refine a_get C fl_RX12_107 (i := 236) kd_236 (hid 236 (by decide)) (v := .ref (ad 266)) rfl dX12_copies_14 ?_
  refine a_iload_n C dX12_copies_17 (i := 1) rfl rfl ?_
  refine a_iald C (i := 266) 22 kd_266 (hid 266 (by decide)) (by decide) rfl (by rw [al_266]; decide) dX12_copies_18 (v := 0) h_266_22 ?_
  refine a_iast C (i := 267) 22 kd_267 (hid 267 (by decide)) (by decide) rfl (by rw [al_267]; decide) dX12_copies_19 ?_
  refine a_iinc C dX12_copies_20 rfl (v := 23) rfl (by decide) rfl (vs1 := [some (.ref (ad 236)), some (.int 23)]) rfl ?_
  refine a_goto C dX12_copies_23 (tgt := 2) rfl ?_
  refine a_iload_n C dX12_copies_2 (i := 1) rfl rfl ?_
  refine a_bipush C dX12_copies_3 (v := 29) rfl ?_
  refine a_ic_ge C dX12_copies_5 (tgt := 26) rfl (fun h => absurd h (by decide)) (fun _ => ?_)
  refine a_aload_n C dX12_copies_8 (i := 0) rfl rfl ?_
  refine a_get C fl_RX12_110 (i := 236) kd_236 (hid 236 (by decide)) (v := .ref (ad 267)) rfl dX12_copies_9 ?_
  refine a_iload_n C dX12_copies_12 (i := 1) rfl rfl ?_
  refine a_aload_n C dX12_copies_13 (i := 0) rfl rfl ?_
  refine a_get C fl_RX12_107 (i := 236) kd_236 (hid 236 (by decide)) (v := .ref (ad 266)) rfl dX12_copies_14 ?_
  refine a_iload_n C dX12_copies_17 (i := 1) rfl rfl ?_
  refine a_iald C (i := 266) 23 kd_266 (hid 266 (by decide)) (by decide) rfl (by rw [al_266]; decide) dX12_copies_18 (v := 0) h_266_23 ?_
  refine a_iast C (i := 267) 23 kd_267 (hid 267 (by decide)) (by decide) rfl (by rw [al_267]; decide) dX12_copies_19 ?_
  refine a_iinc C dX12_copies_20 rfl (v := 24) rfl (by decide) rfl (vs1 := [some (.ref (ad 236)), some (.int 24)]) rfl ?_
  refine a_goto C dX12_copies_23 (tgt := 2) rfl ?_
  refine a_iload_n C dX12_copies_2 (i := 1) rfl rfl ?_
  refine a_bipush C dX12_copies_3 (v := 29) rfl ?_
  refine a_ic_ge C dX12_copies_5 (tgt := 26) rfl (fun h => absurd h (by decide)) (fun _ => ?_)
  refine a_aload_n C dX12_copies_8 (i := 0) rfl rfl ?_
  refine a_get C fl_RX12_110 (i := 236) kd_236 (hid 236 (by decide)) (v := .ref (ad 267)) rfl dX12_copies_9 ?_
  refine a_iload_n C dX12_copies_12 (i := 1) rfl rfl ?_
  refine a_aload_n C dX12_copies_13 (i := 0) rfl rfl ?_
  refine a_get C fl_RX12_107 (i := 236) kd_236 (hid 236 (by decide)) (v := .ref (ad 266)) rfl dX12_copies_14 ?_
  refine a_iload_n C dX12_copies_17 (i := 1) rfl rfl ?_
  refine a_iald C (i := 266) 24 kd_266 (hid 266 (by decide)) (by decide) rfl (by rw [al_266]; decide) dX12_copies_18 (v := 0) h_266_24 ?_
  refine a_iast C (i := 267) 24 kd_267 (hid 267 (by decide)) (by decide) rfl (by rw [al_267]; decide) dX12_copies_19 ?_
  refine a_iinc C dX12_copies_20 rfl (v := 25) rfl (by decide) rfl (vs1 := [some (.ref (ad 236)), some (.int 25)]) rfl ?_
  refine a_goto C dX12_copies_23 (tgt := 2) rfl ?_
  refine a_iload_n C dX12_copies_2 (i := 1) rfl rfl ?_
  refine a_bipush C dX12_copies_3 (v := 29) rfl ?_
  refine a_ic_ge C dX12_copies_5 (tgt := 26) rfl (fun h => absurd h (by decide)) (fun _ => ?_)
  refine a_aload_n C dX12_copies_8 (i := 0) rfl rfl ?_
  refine a_get C fl_RX12_110 (i := 236) kd_236 (hid 236 (by decide)) (v := .ref (ad 267)) rfl dX12_copies_9 ?_
  refine a_iload_n C dX12_copies_12 (i := 1) rfl rfl ?_
  refine a_aload_n C dX12_copies_13 (i := 0) rfl rfl ?_
  refine a_get C fl_RX12_107 (i := 236) kd_236 (hid 236 (by decide)) (v := .ref (ad 266)) rfl dX12_copies_14 ?_
  refine a_iload_n C dX12_copies_17 (i := 1) rfl rfl ?_
  refine a_iald C (i := 266) 25 kd_266 (hid 266 (by decide)) (by decide) rfl (by rw [al_266]; decide) dX12_copies_18 (v := 0) h_266_25 ?_
  refine a_iast C (i := 267) 25 kd_267 (hid 267 (by decide)) (by decide) rfl (by rw [al_267]; decide) dX12_copies_19 ?_
  refine a_iinc C dX12_copies_20 rfl (v := 26) rfl (by decide) rfl (vs1 := [some (.ref (ad 236)), some (.int 26)]) rfl ?_
  refine a_goto C dX12_copies_23 (tgt := 2) rfl ?_
  refine a_iload_n C dX12_copies_2 (i := 1) rfl rfl ?_
  refine a_bipush C dX12_copies_3 (v := 29) rfl ?_
  refine a_ic_ge C dX12_copies_5 (tgt := 26) rfl (fun h => absurd h (by decide)) (fun _ => ?_)
  refine a_aload_n C dX12_copies_8 (i := 0) rfl rfl ?_
  refine a_get C fl_RX12_110 (i := 236) kd_236 (hid 236 (by decide)) (v := .ref (ad 267)) rfl dX12_copies_9 ?_
  refine a_iload_n C dX12_copies_12 (i := 1) rfl rfl ?_
  refine a_aload_n C dX12_copies_13 (i := 0) rfl rfl ?_
  refine a_get C fl_RX12_107 (i := 236) kd_236 (hid 236 (by decide)) (v := .ref (ad 266)) rfl dX12_copies_14 ?_
  refine a_iload_n C dX12_copies_17 (i := 1) rfl rfl ?_
  refine a_iald C (i := 266) 26 kd_266 (hid 266 (by decide)) (by decide) rfl (by rw [al_266]; decide) dX12_copies_18 (v := (-2)) h_266_26 ?_
  refine a_iast C (i := 267) 26 kd_267 (hid 267 (by decide)) (by decide) rfl (by rw [al_267]; decide) dX12_copies_19 ?_
  refine a_iinc C dX12_copies_20 rfl (v := 27) rfl (by decide) rfl (vs1 := [some (.ref (ad 236)), some (.int 27)]) rfl ?_
  refine a_goto C dX12_copies_23 (tgt := 2) rfl ?_
  refine a_iload_n C dX12_copies_2 (i := 1) rfl rfl ?_
  refine a_bipush C dX12_copies_3 (v := 29) rfl ?_
  refine a_ic_ge C dX12_copies_5 (tgt := 26) rfl (fun h => absurd h (by decide)) (fun _ => ?_)
  refine a_aload_n C dX12_copies_8 (i := 0) rfl rfl ?_
  refine a_get C fl_RX12_110 (i := 236) kd_236 (hid 236 (by decide)) (v := .ref (ad 267)) rfl dX12_copies_9 ?_
  refine a_iload_n C dX12_copies_12 (i := 1) rfl rfl ?_
  refine a_aload_n C dX12_copies_13 (i := 0) rfl rfl ?_
  refine a_get C fl_RX12_107 (i := 236) kd_236 (hid 236 (by decide)) (v := .ref (ad 266)) rfl dX12_copies_14 ?_
  refine a_iload_n C dX12_copies_17 (i := 1) rfl rfl ?_
  refine a_iald C (i := 266) 27 kd_266 (hid 266 (by decide)) (by decide) rfl (by rw [al_266]; decide) dX12_copies_18 (v := 0) h_266_27 ?_
  refine a_iast C (i := 267) 27 kd_267 (hid 267 (by decide)) (by decide) rfl (by rw [al_267]; decide) dX12_copies_19 ?_
  refine a_iinc C dX12_copies_20 rfl (v := 28) rfl (by decide) rfl (vs1 := [some (.ref (ad 236)), some (.int 28)]) rfl ?_
  refine a_goto C dX12_copies_23 (tgt := 2) rfl ?_
  refine a_iload_n C dX12_copies_2 (i := 1) rfl rfl ?_
  refine a_bipush C dX12_copies_3 (v := 29) rfl ?_
  refine a_ic_ge C dX12_copies_5 (tgt := 26) rfl (fun h => absurd h (by decide)) (fun _ => ?_)
  refine a_aload_n C dX12_copies_8 (i := 0) rfl rfl ?_
  refine a_get C fl_RX12_110 (i := 236) kd_236 (hid 236 (by decide)) (v := .ref (ad 267)) rfl dX12_copies_9 ?_
  refine a_iload_n C dX12_copies_12 (i := 1) rfl rfl ?_
  refine a_aload_n C dX12_copies_13 (i := 0) rfl rfl ?_
  refine a_get C fl_RX12_107 (i := 236) kd_236 (hid 236 (by decide)) (v := .ref (ad 266)) rfl dX12_copies_14 ?_
  refine a_iload_n C dX12_copies_17 (i := 1) rfl rfl ?_
  refine a_iald C (i := 266) 28 kd_266 (hid 266 (by decide)) (by decide) rfl (by rw [al_266]; decide) dX12_copies_18 (v := (-1)) h_266_28 ?_
  refine a_iast C (i := 267) 28 kd_267 (hid 267 (by decide)) (by decide) rfl (by rw [al_267]; decide) dX12_copies_19 ?_
  refine a_iinc C dX12_copies_20 rfl (v := 29) rfl (by decide) rfl (vs1 := [some (.ref (ad 236)), some (.int 29)]) rfl ?_
  refine a_goto C dX12_copies_23 (tgt := 2) rfl ?_
  refine a_iload_n C dX12_copies_2 (i := 1) rfl rfl ?_
  refine a_bipush C dX12_copies_3 (v := 29) rfl ?_
  refine a_ic_ge C dX12_copies_5 (tgt := 26) rfl (fun _ => ?_) (fun h => absurd h (by decide))
  refine a_aload_n C dX12_copies_26 (i := 0) rfl rfl ?_
  refine a_aload_n C dX12_copies_27 (i := 0) rfl rfl ?_
  refine a_get C fl_RX12_67 (i := 236) kd_236 (hid 236 (by decide)) (v := .ref (ad 253)) rfl dX12_copies_28 ?_
  refine a_aload_n C dX12_copies_31 (i := 0) rfl rfl ?_
  refine a_get C fl_RX12_221 (i := 236) kd_236 (hid 236 (by decide)) (v := .int 0) (congrArg (fun z => some (Value.int z)) h_236_18) dX12_copies_32 ?_
  refine a_iald C (i := 253) 0 kd_253 (hid 253 (by decide)) (by decide) rfl (by rw [al_253]; decide) dX12_copies_35 (v := 0) h_253_0 ?_
  refine a_put C fp_RX12_305 (i := 236) kd_236 (hid 236 (by decide)) rfl rfl dX12_copies_36 ?_
  refine a_aload_n C dX12_copies_39 (i := 0) rfl rfl ?_
  refine a_iconst C dX12_copies_40 (v := 0) rfl ?_
  refine a_put C fp_RX12_308 (i := 236) kd_236 (hid 236 (by decide)) rfl rfl dX12_copies_41 ?_
  exact a_vret Rt dX12_copies_44 (⟨(only.I (only.I (only.I (only.I (only.I (only.I (only.I (only.I (only.I (only.I (only.I (only.I (only.I (only.I (only.I (only.I (only.I (only.I (only.I (only.I (only.I (only.I (only.I (only.I (only.I (only.I (only.I (only.I (only.I (only.I (only.I only.rf (by decide)) (by decide)) (by decide)) (by decide)) (by decide)) (by decide)) (by decide)) (by decide)) (by decide)) (by decide)) (by decide)) (by decide)) (by decide)) (by decide)) (by decide)) (by decide)) (by decide)) (by decide)) (by decide)) (by decide)) (by decide)) (by decide)) (by decide)) (by decide)) (by decide)) (by decide)) (by decide)) (by decide)) (by decide)) (by decide)) (by decide)), rfl, rfl, rfl, rfl, rfl, rfl, rfl, rfl, rfl, rfl, rfl, rfl, rfl, rfl, rfl, rfl, rfl, rfl, rfl, rfl, rfl, rfl, rfl, rfl, rfl, rfl, rfl, rfl, rfl, h_236_18, h_236_54, h_236_60, h_236_2⟩)
theorem dX12_copiesStill_0 : decode cX12_copiesStill 0 = .ok (.aload_n 0, 1) := by decide +kernel
theorem dX12_copiesStill_1 : decode cX12_copiesStill 1 = .ok (.invokevirtual 311, 3) := by decide +kernel
theorem dX12_copiesStill_4 : decode cX12_copiesStill 4 = .ok (.aload_n 0, 1) := by decide +kernel
theorem dX12_copiesStill_5 : decode cX12_copiesStill 5 = .ok (.iconst 1, 1) := by decide +kernel
theorem dX12_copiesStill_6 : decode cX12_copiesStill 6 = .ok (.putfield 308, 3) := by decide +kernel
theorem dX12_copiesStill_9 : decode cX12_copiesStill 9 = .ok (.return_, 1) := by decide +kernel
set_option maxHeartbeats 4000000 in
set_option maxRecDepth 100000 in
theorem m_copiesStill {l : Launch} {D : va_G} {ids : List Nat} {ad : Nat → Nat} {ca : Nat → ClassId} {σ : HS} (hid : ∀ i, i < 277 → i ∈ ids) (h_236_2 : σ.1 236 2 = 0) (h_236_18 : σ.1 236 18 = 0) (h_236_54 : σ.1 236 54 = 0) (h_236_60 : σ.1 236 60 = 0) (h_253_0 : σ.1 253 0 = 0) (h_266_0 : σ.1 266 0 = 0) (h_266_1 : σ.1 266 1 = 0) (h_266_2 : σ.1 266 2 = 0) (h_266_3 : σ.1 266 3 = 0) (h_266_4 : σ.1 266 4 = 0) (h_266_5 : σ.1 266 5 = 0) (h_266_6 : σ.1 266 6 = 0) (h_266_7 : σ.1 266 7 = 0) (h_266_8 : σ.1 266 8 = 0) (h_266_9 : σ.1 266 9 = 0) (h_266_10 : σ.1 266 10 = 0) (h_266_11 : σ.1 266 11 = 0) (h_266_12 : σ.1 266 12 = 0) (h_266_13 : σ.1 266 13 = 0) (h_266_14 : σ.1 266 14 = 0) (h_266_15 : σ.1 266 15 = 0) (h_266_16 : σ.1 266 16 = 0) (h_266_17 : σ.1 266 17 = 0) (h_266_18 : σ.1 266 18 = 0) (h_266_19 : σ.1 266 19 = 0) (h_266_20 : σ.1 266 20 = 0) (h_266_21 : σ.1 266 21 = 0) (h_266_22 : σ.1 266 22 = 0) (h_266_23 : σ.1 266 23 = 0) (h_266_24 : σ.1 266 24 = 0) (h_266_25 : σ.1 266 25 = 0) (h_266_26 : σ.1 266 26 = (-2)) (h_266_27 : σ.1 266 27 = 0) (h_266_28 : σ.1 266 28 = (-1)) : Kv l D ids ad ca yX12_copiesStill cX12_copiesStill 1 1 21 [.ref (ad 236)] σ (fun σ1 => only [267, 236] σ σ1 ∧ σ1.1 267 0 = 0 ∧ σ1.1 267 1 = 0 ∧ σ1.1 267 2 = 0 ∧ σ1.1 267 3 = 0 ∧ σ1.1 267 4 = 0 ∧ σ1.1 267 5 = 0 ∧ σ1.1 267 6 = 0 ∧ σ1.1 267 7 = 0 ∧ σ1.1 267 8 = 0 ∧ σ1.1 267 9 = 0 ∧ σ1.1 267 10 = 0 ∧ σ1.1 267 11 = 0 ∧ σ1.1 267 12 = 0 ∧ σ1.1 267 13 = 0 ∧ σ1.1 267 14 = 0 ∧ σ1.1 267 15 = 0 ∧ σ1.1 267 16 = 0 ∧ σ1.1 267 17 = 0 ∧ σ1.1 267 18 = 0 ∧ σ1.1 267 19 = 0 ∧ σ1.1 267 20 = 0 ∧ σ1.1 267 21 = 0 ∧ σ1.1 267 22 = 0 ∧ σ1.1 267 23 = 0 ∧ σ1.1 267 24 = 0 ∧ σ1.1 267 25 = 0 ∧ σ1.1 267 26 = (-2) ∧ σ1.1 267 27 = 0 ∧ σ1.1 267 28 = (-1) ∧ σ1.1 236 18 = 0 ∧ σ1.1 236 54 = 0 ∧ σ1.1 236 60 = 0 ∧ σ1.1 236 2 = 0) := by
  refine Kv.of (by decide) (Nat.le_of_ble_eq_true rfl) 0 (fun Γ C Rt => ?_)
  show AW ids ad ca Γ 0 [some (.ref (ad 236))] [] σ
  refine a_aload_n C dX12_copiesStill_0 (i := 0) rfl rfl ?_
  refine a_callVv C (i := 236) kd_236 (hid 236 (by decide)) ⟨_, _, rfl⟩ (by decide) (m_copies hid h_236_2 h_236_18 h_236_54 h_236_60 h_253_0 h_266_0 h_266_1 h_266_2 h_266_3 h_266_4 h_266_5 h_266_6 h_266_7 h_266_8 h_266_9 h_266_10 h_266_11 h_266_12 h_266_13 h_266_14 h_266_15 h_266_16 h_266_17 h_266_18 h_266_19 h_266_20 h_266_21 h_266_22 h_266_23 h_266_24 h_266_25 h_266_26 h_266_27 h_266_28) mi_X12_copies ml_RX12_311 rfl rfl (Nat.le_of_ble_eq_true rfl) (Nat.le_of_ble_eq_true rfl) (Nat.le_of_ble_eq_true rfl) dX12_copiesStill_1 (fun σ2 q3 => ?_)
  refine a_aload_n C dX12_copiesStill_4 (i := 0) rfl rfl ?_
  refine a_iconst C dX12_copiesStill_5 (v := 1) rfl ?_
  refine a_put C fp_RX12_308 (i := 236) kd_236 (hid 236 (by decide)) rfl rfl dX12_copiesStill_6 ?_
  exact a_vret Rt dX12_copiesStill_9 (⟨(only.I (only.tr only.rf (only.mono q3.1 (by decide))) (by decide)), q3.2.1, q3.2.2.1, q3.2.2.2.1, q3.2.2.2.2.1, q3.2.2.2.2.2.1, q3.2.2.2.2.2.2.1, q3.2.2.2.2.2.2.2.1, q3.2.2.2.2.2.2.2.2.1, q3.2.2.2.2.2.2.2.2.2.1, q3.2.2.2.2.2.2.2.2.2.2.1, q3.2.2.2.2.2.2.2.2.2.2.2.1, q3.2.2.2.2.2.2.2.2.2.2.2.2.1, q3.2.2.2.2.2.2.2.2.2.2.2.2.2.1, q3.2.2.2.2.2.2.2.2.2.2.2.2.2.2.1, q3.2.2.2.2.2.2.2.2.2.2.2.2.2.2.2.1, q3.2.2.2.2.2.2.2.2.2.2.2.2.2.2.2.2.1, q3.2.2.2.2.2.2.2.2.2.2.2.2.2.2.2.2.2.1, q3.2.2.2.2.2.2.2.2.2.2.2.2.2.2.2.2.2.2.1, q3.2.2.2.2.2.2.2.2.2.2.2.2.2.2.2.2.2.2.2.1, q3.2.2.2.2.2.2.2.2.2.2.2.2.2.2.2.2.2.2.2.2.1, q3.2.2.2.2.2.2.2.2.2.2.2.2.2.2.2.2.2.2.2.2.2.1, q3.2.2.2.2.2.2.2.2.2.2.2.2.2.2.2.2.2.2.2.2.2.2.1, q3.2.2.2.2.2.2.2.2.2.2.2.2.2.2.2.2.2.2.2.2.2.2.2.1, q3.2.2.2.2.2.2.2.2.2.2.2.2.2.2.2.2.2.2.2.2.2.2.2.2.1, q3.2.2.2.2.2.2.2.2.2.2.2.2.2.2.2.2.2.2.2.2.2.2.2.2.2.1, q3.2.2.2.2.2.2.2.2.2.2.2.2.2.2.2.2.2.2.2.2.2.2.2.2.2.2.1, q3.2.2.2.2.2.2.2.2.2.2.2.2.2.2.2.2.2.2.2.2.2.2.2.2.2.2.2.1, q3.2.2.2.2.2.2.2.2.2.2.2.2.2.2.2.2.2.2.2.2.2.2.2.2.2.2.2.2.1, q3.2.2.2.2.2.2.2.2.2.2.2.2.2.2.2.2.2.2.2.2.2.2.2.2.2.2.2.2.2.1, q3.2.2.2.2.2.2.2.2.2.2.2.2.2.2.2.2.2.2.2.2.2.2.2.2.2.2.2.2.2.2.1, q3.2.2.2.2.2.2.2.2.2.2.2.2.2.2.2.2.2.2.2.2.2.2.2.2.2.2.2.2.2.2.2.1, q3.2.2.2.2.2.2.2.2.2.2.2.2.2.2.2.2.2.2.2.2.2.2.2.2.2.2.2.2.2.2.2.2.1, q3.2.2.2.2.2.2.2.2.2.2.2.2.2.2.2.2.2.2.2.2.2.2.2.2.2.2.2.2.2.2.2.2.2⟩)
theorem dX12_beatGoes_0 : decode cX12_beatGoes 0 = .ok (.aload_n 0, 1) := by decide +kernel
theorem dX12_beatGoes_1 : decode cX12_beatGoes 1 = .ok (.aload_n 0, 1) := by decide +kernel
theorem dX12_beatGoes_2 : decode cX12_beatGoes 2 = .ok (.invokevirtual 378, 3) := by decide +kernel
theorem dX12_beatGoes_5 : decode cX12_beatGoes 5 = .ok (.putfield 341, 3) := by decide +kernel
theorem dX12_beatGoes_8 : decode cX12_beatGoes 8 = .ok (.aload_n 0, 1) := by decide +kernel
theorem dX12_beatGoes_9 : decode cX12_beatGoes 9 = .ok (.iconst 0, 1) := by decide +kernel
theorem dX12_beatGoes_10 : decode cX12_beatGoes 10 = .ok (.putfield 344, 3) := by decide +kernel
theorem dX12_beatGoes_13 : decode cX12_beatGoes 13 = .ok (.aload_n 0, 1) := by decide +kernel
theorem dX12_beatGoes_14 : decode cX12_beatGoes 14 = .ok (.iconst 0, 1) := by decide +kernel
theorem dX12_beatGoes_15 : decode cX12_beatGoes 15 = .ok (.putfield 365, 3) := by decide +kernel
theorem dX12_beatGoes_18 : decode cX12_beatGoes 18 = .ok (.aload_n 0, 1) := by decide +kernel
theorem dX12_beatGoes_19 : decode cX12_beatGoes 19 = .ok (.getfield 341, 3) := by decide +kernel
theorem dX12_beatGoes_22 : decode cX12_beatGoes 22 = .ok (.ifCond .ge 37, 3) := by decide +kernel
theorem dX12_beatGoes_25 : decode cX12_beatGoes 25 = .ok (.aload_n 0, 1) := by decide +kernel
theorem dX12_beatGoes_26 : decode cX12_beatGoes 26 = .ok (.getfield 110, 3) := by decide +kernel
theorem dX12_beatGoes_29 : decode cX12_beatGoes 29 = .ok (.bipush 22, 2) := by decide +kernel
theorem dX12_beatGoes_31 : decode cX12_beatGoes 31 = .ok (.aload_n 0, 1) := by decide +kernel
theorem dX12_beatGoes_32 : decode cX12_beatGoes 32 = .ok (.getfield 110, 3) := by decide +kernel
theorem dX12_beatGoes_35 : decode cX12_beatGoes 35 = .ok (.bipush 22, 2) := by decide +kernel
theorem dX12_beatGoes_37 : decode cX12_beatGoes 37 = .ok (.iaload, 1) := by decide +kernel
theorem dX12_beatGoes_38 : decode cX12_beatGoes 38 = .ok (.aload_n 0, 1) := by decide +kernel
theorem dX12_beatGoes_39 : decode cX12_beatGoes 39 = .ok (.getfield 64, 3) := by decide +kernel
theorem dX12_beatGoes_42 : decode cX12_beatGoes 42 = .ok (.aload_n 0, 1) := by decide +kernel
theorem dX12_beatGoes_43 : decode cX12_beatGoes 43 = .ok (.getfield 221, 3) := by decide +kernel
theorem dX12_beatGoes_46 : decode cX12_beatGoes 46 = .ok (.iaload, 1) := by decide +kernel
theorem dX12_beatGoes_47 : decode cX12_beatGoes 47 = .ok (.isub, 1) := by decide +kernel
theorem dX12_beatGoes_48 : decode cX12_beatGoes 48 = .ok (.iconst 0, 1) := by decide +kernel
theorem dX12_beatGoes_49 : decode cX12_beatGoes 49 = .ok (.sipush 999, 3) := by decide +kernel
theorem dX12_beatGoes_52 : decode cX12_beatGoes 52 = .ok (.invokestatic 338, 3) := by decide +kernel
theorem dX12_beatGoes_55 : decode cX12_beatGoes 55 = .ok (.iastore, 1) := by decide +kernel
theorem dX12_beatGoes_56 : decode cX12_beatGoes 56 = .ok (.goto 15, 3) := by decide +kernel
theorem dX12_beatGoes_71 : decode cX12_beatGoes 71 = .ok (.iconst 0, 1) := by decide +kernel
theorem dX12_beatGoes_72 : decode cX12_beatGoes 72 = .ok (.istore_n 1, 1) := by decide +kernel
theorem dX12_beatGoes_73 : decode cX12_beatGoes 73 = .ok (.iload_n 1, 1) := by decide +kernel
theorem dX12_beatGoes_74 : decode cX12_beatGoes 74 = .ok (.aload_n 0, 1) := by decide +kernel
theorem dX12_beatGoes_75 : decode cX12_beatGoes 75 = .ok (.getfield 43, 3) := by decide +kernel
theorem dX12_beatGoes_78 : decode cX12_beatGoes 78 = .ok (.aload_n 0, 1) := by decide +kernel
theorem dX12_beatGoes_79 : decode cX12_beatGoes 79 = .ok (.getfield 221, 3) := by decide +kernel
theorem dX12_beatGoes_82 : decode cX12_beatGoes 82 = .ok (.iaload, 1) := by decide +kernel
theorem dX12_beatGoes_83 : decode cX12_beatGoes 83 = .ok (.if_icmp .ge 31, 3) := by decide +kernel
theorem dX12_beatGoes_114 : decode cX12_beatGoes 114 = .ok (.aload_n 0, 1) := by decide +kernel
theorem dX12_beatGoes_115 : decode cX12_beatGoes 115 = .ok (.getfield 110, 3) := by decide +kernel
theorem dX12_beatGoes_118 : decode cX12_beatGoes 118 = .ok (.bipush 21, 2) := by decide +kernel
theorem dX12_beatGoes_120 : decode cX12_beatGoes 120 = .ok (.dup2, 1) := by decide +kernel
theorem dX12_beatGoes_121 : decode cX12_beatGoes 121 = .ok (.iaload, 1) := by decide +kernel
theorem dX12_beatGoes_122 : decode cX12_beatGoes 122 = .ok (.iconst 1, 1) := by decide +kernel
theorem dX12_beatGoes_123 : decode cX12_beatGoes 123 = .ok (.iadd, 1) := by decide +kernel
theorem dX12_beatGoes_124 : decode cX12_beatGoes 124 = .ok (.iastore, 1) := by decide +kernel
theorem dX12_beatGoes_125 : decode cX12_beatGoes 125 = .ok (.aload_n 0, 1) := by decide +kernel
theorem dX12_beatGoes_126 : decode cX12_beatGoes 126 = .ok (.getfield 110, 3) := by decide +kernel
theorem dX12_beatGoes_129 : decode cX12_beatGoes 129 = .ok (.bipush 28, 2) := by decide +kernel
theorem dX12_beatGoes_131 : decode cX12_beatGoes 131 = .ok (.iconst (-1), 1) := by decide +kernel
theorem dX12_beatGoes_132 : decode cX12_beatGoes 132 = .ok (.iastore, 1) := by decide +kernel
theorem dX12_beatGoes_133 : decode cX12_beatGoes 133 = .ok (.return_, 1) := by decide +kernel
set_option maxHeartbeats 4000000 in
set_option maxRecDepth 100000 in
theorem m_beatGoes {l : Launch} {D : va_G} {ids : List Nat} {ad : Nat → Nat} {ca : Nat → ClassId} {σ : HS} {bt : Nat} (hid : ∀ i, i < 277 → i ∈ ids) (hb : σ.1 267 21 = nI bt) (h_236_2 : σ.1 236 2 = 0) (h_236_18 : σ.1 236 18 = 0) (h_236_54 : σ.1 236 54 = 0) (h_236_60 : σ.1 236 60 = 0) (h_245_0 : σ.1 245 0 = 0) (h_252_0 : σ.1 252 0 = 1) (h_267_22 : σ.1 267 22 = 0) (h_267_23 : σ.1 267 23 = 0) (h_267_25 : σ.1 267 25 = 0) (h_267_26 : σ.1 267 26 = (-2)) (h_267_27 : σ.1 267 27 = 0) : Kv l D ids ad ca yX12_beatGoes cX12_beatGoes 2 1 22 [.ref (ad 236)] σ (fun σ1 => only [267, 236] σ σ1 ∧ σ1.1 267 21 = (nI (bt + 1)) ∧ σ1.1 267 22 = 0 ∧ σ1.1 267 23 = 0 ∧ σ1.1 267 25 = 0 ∧ σ1.1 267 26 = (-2) ∧ σ1.1 267 27 = 0 ∧ σ1.1 267 28 = (-1) ∧ σ1.1 236 51 = (-2) ∧ σ1.1 236 52 = 0 ∧ σ1.1 236 53 = 0 ∧ σ1.1 236 18 = 0 ∧ σ1.1 236 54 = 0 ∧ σ1.1 236 60 = 0 ∧ σ1.1 236 2 = 0) := by
  refine Kv.of (by decide) (Nat.le_of_ble_eq_true rfl) 1 (fun Γ C Rt => ?_)
  show AW ids ad ca Γ 0 [some (.ref (ad 236)), none] [] σ
  refine a_aload_n C dX12_beatGoes_0 (i := 0) rfl rfl ?_
  refine a_aload_n C dX12_beatGoes_1 (i := 0) rfl rfl ?_
  refine a_callVi C (i := 236) kd_236 (hid 236 (by decide)) ⟨_, _, rfl⟩ (by decide) (m_catchesNow hid h_236_18 h_245_0) mi_X12_catchesNow ml_RX12_378 rfl rfl (Nat.le_of_ble_eq_true rfl) (Nat.le_of_ble_eq_true rfl) (Nat.le_of_ble_eq_true rfl) dX12_beatGoes_2 (fun r1 σ2 q3 => ?_)
  obtain ⟨rfl, q3⟩ := q3
  rw [q3]
  refine a_put C fp_RX12_341 (i := 236) kd_236 (hid 236 (by decide)) rfl rfl dX12_beatGoes_5 ?_
  refine a_aload_n C dX12_beatGoes_8 (i := 0) rfl rfl ?_
  refine a_iconst C dX12_beatGoes_9 (v := 0) rfl ?_
  refine a_put C fp_RX12_344 (i := 236) kd_236 (hid 236 (by decide)) rfl rfl dX12_beatGoes_10 ?_
  refine a_aload_n C dX12_beatGoes_13 (i := 0) rfl rfl ?_
  refine a_iconst C dX12_beatGoes_14 (v := 0) rfl ?_
  refine a_put C fp_RX12_365 (i := 236) kd_236 (hid 236 (by decide)) rfl rfl dX12_beatGoes_15 ?_
  refine a_aload_n C dX12_beatGoes_18 (i := 0) rfl rfl ?_
  refine a_get C fl_RX12_341 (i := 236) kd_236 (hid 236 (by decide)) (v := .int (-2)) rfl dX12_beatGoes_19 ?_
  refine a_if_ge C dX12_beatGoes_22 (tgt := 59) rfl (fun h => absurd h (by decide)) (fun _ => ?_)
  refine a_aload_n C dX12_beatGoes_25 (i := 0) rfl rfl ?_
  refine a_get C fl_RX12_110 (i := 236) kd_236 (hid 236 (by decide)) (v := .ref (ad 267)) rfl dX12_beatGoes_26 ?_
  refine a_bipush C dX12_beatGoes_29 (v := 22) rfl ?_
  refine a_aload_n C dX12_beatGoes_31 (i := 0) rfl rfl ?_
  refine a_get C fl_RX12_110 (i := 236) kd_236 (hid 236 (by decide)) (v := .ref (ad 267)) rfl dX12_beatGoes_32 ?_
  refine a_bipush C dX12_beatGoes_35 (v := 22) rfl ?_
  refine a_iald C (i := 267) 22 kd_267 (hid 267 (by decide)) (by decide) rfl (by rw [al_267]; decide) dX12_beatGoes_37 (v := 0) h_267_22 ?_
  refine a_aload_n C dX12_beatGoes_38 (i := 0) rfl rfl ?_
  refine a_get C fl_RX12_64 (i := 236) kd_236 (hid 236 (by decide)) (v := .ref (ad 252)) rfl dX12_beatGoes_39 ?_
  refine a_aload_n C dX12_beatGoes_42 (i := 0) rfl rfl ?_
  refine a_get C fl_RX12_221 (i := 236) kd_236 (hid 236 (by decide)) (v := .int 0) (congrArg (fun z => some (Value.int z)) h_236_18) dX12_beatGoes_43 ?_
  refine a_iald C (i := 252) 0 kd_252 (hid 252 (by decide)) (by decide) rfl (by rw [al_252]; decide) dX12_beatGoes_46 (v := 1) h_252_0 ?_
  refine a_isub C dX12_beatGoes_47 ?_
  refine a_iconst C dX12_beatGoes_48 (v := 0) rfl ?_
  refine a_sipush C dX12_beatGoes_49 (v := 999) rfl ?_
  refine a_callSi C (m_held hid) ms_X12_held ml_RX12_338 rfl rfl (Nat.le_of_ble_eq_true rfl) (Nat.le_of_ble_eq_true rfl) (Nat.le_of_ble_eq_true rfl) dX12_beatGoes_52 (fun r4 σ5 q6 => ?_)
  obtain ⟨rfl, q6⟩ := q6
  rw [q6]
  refine a_iast C (i := 267) 22 kd_267 (hid 267 (by decide)) (by decide) rfl (by rw [al_267]; decide) dX12_beatGoes_55 ?_
  refine a_goto C dX12_beatGoes_56 (tgt := 71) rfl ?_
  refine a_iconst C dX12_beatGoes_71 (v := 0) rfl ?_
  refine a_istore_n C dX12_beatGoes_72 (i := 1) rfl (by decide) rfl (vs1 := [some (.ref (ad 236)), some (.int 0)]) rfl ?_
  refine a_iload_n C dX12_beatGoes_73 (i := 1) rfl rfl ?_
  refine a_aload_n C dX12_beatGoes_74 (i := 0) rfl rfl ?_
  refine a_get C fl_RX12_43 (i := 236) kd_236 (hid 236 (by decide)) (v := .ref (ad 245)) rfl dX12_beatGoes_75 ?_
  refine a_aload_n C dX12_beatGoes_78 (i := 0) rfl rfl ?_
  refine a_get C fl_RX12_221 (i := 236) kd_236 (hid 236 (by decide)) (v := .int 0) (congrArg (fun z => some (Value.int z)) h_236_18) dX12_beatGoes_79 ?_
  refine a_iald C (i := 245) 0 kd_245 (hid 245 (by decide)) (by decide) rfl (by rw [al_245]; decide) dX12_beatGoes_82 (v := 0) h_245_0 ?_
  refine a_ic_ge C dX12_beatGoes_83 (tgt := 114) rfl (fun _ => ?_) (fun h => absurd h (by decide))
  refine a_aload_n C dX12_beatGoes_114 (i := 0) rfl rfl ?_
  refine a_get C fl_RX12_110 (i := 236) kd_236 (hid 236 (by decide)) (v := .ref (ad 267)) rfl dX12_beatGoes_115 ?_
  refine a_bipush C dX12_beatGoes_118 (v := 21) rfl ?_
  refine a_dup2 C dX12_beatGoes_120 rfl rfl ?_
  refine a_iald C (i := 267) 21 kd_267 (hid 267 (by decide)) (by decide) rfl (by rw [al_267]; decide) dX12_beatGoes_121 (v := (nI bt)) hb ?_
  refine a_iconst C dX12_beatGoes_122 (v := 1) rfl ?_
  refine a_iadd C dX12_beatGoes_123 ?_
  rw [show ((nI bt) + 1 : Int32) = nI (bt + 1) from nI_add _ _]
  refine a_iast C (i := 267) 21 kd_267 (hid 267 (by decide)) (by decide) rfl (by rw [al_267]; decide) dX12_beatGoes_124 ?_
  refine a_aload_n C dX12_beatGoes_125 (i := 0) rfl rfl ?_
  refine a_get C fl_RX12_110 (i := 236) kd_236 (hid 236 (by decide)) (v := .ref (ad 267)) rfl dX12_beatGoes_126 ?_
  refine a_bipush C dX12_beatGoes_129 (v := 28) rfl ?_
  refine a_iconst C dX12_beatGoes_131 (v := (-1)) rfl ?_
  refine a_iast C (i := 267) 28 kd_267 (hid 267 (by decide)) (by decide) rfl (by rw [al_267]; decide) dX12_beatGoes_132 ?_
  exact a_vret Rt dX12_beatGoes_133 (⟨(only.I (only.I (only.I (only.I (only.I (only.I only.rf (by decide)) (by decide)) (by decide)) (by decide)) (by decide)) (by decide)), rfl, rfl, h_267_23, h_267_25, h_267_26, h_267_27, rfl, rfl, rfl, rfl, h_236_18, h_236_54, h_236_60, h_236_2⟩)
theorem dX12_goes_0 : decode cX12_goes 0 = .ok (.iconst 0, 1) := by decide +kernel
theorem dX12_goes_1 : decode cX12_goes 1 = .ok (.istore_n 2, 1) := by decide +kernel
theorem dX12_goes_2 : decode cX12_goes 2 = .ok (.iload_n 2, 1) := by decide +kernel
theorem dX12_goes_3 : decode cX12_goes 3 = .ok (.iload_n 1, 1) := by decide +kernel
theorem dX12_goes_4 : decode cX12_goes 4 = .ok (.if_icmp .ge 13, 3) := by decide +kernel
theorem dX12_goes_7 : decode cX12_goes 7 = .ok (.aload_n 0, 1) := by decide +kernel
theorem dX12_goes_8 : decode cX12_goes 8 = .ok (.invokevirtual 387, 3) := by decide +kernel
theorem dX12_goes_11 : decode cX12_goes 11 = .ok (.iinc 2 1, 3) := by decide +kernel
theorem dX12_goes_14 : decode cX12_goes 14 = .ok (.goto (-12), 3) := by decide +kernel
theorem dX12_goes_17 : decode cX12_goes 17 = .ok (.return_, 1) := by decide +kernel
set_option maxHeartbeats 4000000 in
set_option maxRecDepth 100000 in
theorem m_goes {l : Launch} {D : va_G} {ids : List Nat} {ad : Nat → Nat} {ca : Nat → ClassId} {σ : HS} {bt m : Nat} (hid : ∀ i, i < 277 → i ∈ ids) (hb : σ.1 267 21 = nI bt) (hm : m ≤ 60) (h_236_2 : σ.1 236 2 = 0) (h_236_18 : σ.1 236 18 = 0) (h_236_54 : σ.1 236 54 = 0) (h_236_60 : σ.1 236 60 = 0) (h_245_0 : σ.1 245 0 = 0) (h_252_0 : σ.1 252 0 = 1) (h_267_22 : σ.1 267 22 = 0) (h_267_23 : σ.1 267 23 = 0) (h_267_25 : σ.1 267 25 = 0) (h_267_26 : σ.1 267 26 = (-2)) (h_267_27 : σ.1 267 27 = 0) (h_267_28 : σ.1 267 28 = (-1)) : Kv l D ids ad ca yX12_goes cX12_goes 3 2 43 [.ref (ad 236), .int (nI m)] σ (fun σ1 => only [267, 236] σ σ1 ∧ σ1.1 267 21 = (nI (bt + m)) ∧ σ1.1 267 22 = 0 ∧ σ1.1 267 23 = 0 ∧ σ1.1 267 25 = 0 ∧ σ1.1 267 26 = (-2) ∧ σ1.1 267 27 = 0 ∧ σ1.1 267 28 = (-1) ∧ σ1.1 236 18 = 0 ∧ σ1.1 236 54 = 0 ∧ σ1.1 236 60 = 0 ∧ σ1.1 236 2 = 0) := by
  refine Kv.of (by decide) (Nat.le_of_ble_eq_true rfl) 1 (fun Γ C Rt => ?_)
  show AW ids ad ca Γ 0 [some (.ref (ad 236)), some (.int (nI m)), none] [] σ
  refine a_iconst C dX12_goes_0 (v := 0) rfl ?_
  refine a_istore_n C dX12_goes_1 (i := 2) rfl (by decide) rfl (vs1 := [some (.ref (ad 236)), some (.int (nI m)), some (.int 0)]) rfl ?_
  have loop : ∀ (d j : Nat) (σ2 : HS), j + d = m → (only [267, 236] σ σ2 ∧ σ2.1 267 21 = (nI (bt + j)) ∧ σ2.1 267 22 = 0 ∧ σ2.1 267 23 = 0 ∧ σ2.1 267 25 = 0 ∧ σ2.1 267 26 = (-2) ∧ σ2.1 267 27 = 0 ∧ σ2.1 267 28 = (-1) ∧ σ2.1 236 18 = 0 ∧ σ2.1 236 54 = 0 ∧ σ2.1 236 60 = 0 ∧ σ2.1 236 2 = 0) → AW ids ad ca Γ 2 [some (.ref (ad 236)), some (.int (nI m)), some (.int (nI j))] [] σ2 := by
    intro d
    induction d with
    | zero =>
      intro j σ2 hj hV
      refine a_iload_n C dX12_goes_2 (i := 2) rfl rfl ?_
      refine a_iload_n C dX12_goes_3 (i := 1) rfl rfl ?_
      refine a_ic_ge C dX12_goes_4 (tgt := 17) rfl (fun c1 => ?_) (fun c1 => absurd c1 (fun q => q (nI_le (a := (m)) (b := (j)) (by omega) (by omega))))
      exact a_vret Rt dX12_goes_17 (⟨(only.tr only.rf (only.mono hV.1 (by decide))), (Eq.trans hV.2.1 (congrArg nI (show bt + j = bt + m by omega))), hV.2.2.1, hV.2.2.2.1, hV.2.2.2.2.1, hV.2.2.2.2.2.1, hV.2.2.2.2.2.2.1, hV.2.2.2.2.2.2.2.1, hV.2.2.2.2.2.2.2.2.1, hV.2.2.2.2.2.2.2.2.2.1, hV.2.2.2.2.2.2.2.2.2.2.1, hV.2.2.2.2.2.2.2.2.2.2.2⟩)
    | succ d ih =>
      intro j σ2 hj hV
      refine a_iload_n C dX12_goes_2 (i := 2) rfl rfl ?_
      refine a_iload_n C dX12_goes_3 (i := 1) rfl rfl ?_
      refine a_ic_ge C dX12_goes_4 (tgt := 17) rfl (fun c2 => absurd c2 (nI_ge (a := (j)) (b := (m)) (by omega) (by omega))) (fun c2 => ?_)
      refine a_aload_n C dX12_goes_7 (i := 0) rfl rfl ?_
      refine a_callVv C (i := 236) kd_236 (hid 236 (by decide)) ⟨_, _, rfl⟩ (by decide) (m_beatGoes hid (bt := bt + j) hV.2.1 hV.2.2.2.2.2.2.2.2.2.2.2 hV.2.2.2.2.2.2.2.2.1 hV.2.2.2.2.2.2.2.2.2.1 hV.2.2.2.2.2.2.2.2.2.2.1 ((congrFun (hV.1.1 245 (by decide)) 0).trans h_245_0) ((congrFun (hV.1.1 252 (by decide)) 0).trans h_252_0) hV.2.2.1 hV.2.2.2.1 hV.2.2.2.2.1 hV.2.2.2.2.2.1 hV.2.2.2.2.2.2.1) mi_X12_beatGoes ml_RX12_387 rfl rfl (Nat.le_of_ble_eq_true rfl) (Nat.le_of_ble_eq_true rfl) (Nat.le_of_ble_eq_true rfl) dX12_goes_8 (fun σ4 q5 => ?_)
      refine a_iinc C dX12_goes_11 rfl (v := (nI (j + 1))) (nI_1 _) (by decide) rfl (vs1 := [some (.ref (ad 236)), some (.int (nI m)), some (.int (nI (j + 1)))]) rfl ?_
      refine a_goto C dX12_goes_14 (tgt := 2) rfl ?_
      exact ih (j + 1) _ (by omega) ⟨(only.tr (only.tr only.rf (only.mono hV.1 (by decide))) (only.mono q5.1 (by decide))), (Eq.trans q5.2.1 (congrArg nI (show bt + j + 1 = bt + (j + 1) by omega))), q5.2.2.1, q5.2.2.2.1, q5.2.2.2.2.1, q5.2.2.2.2.2.1, q5.2.2.2.2.2.2.1, q5.2.2.2.2.2.2.2.1, q5.2.2.2.2.2.2.2.2.2.2.2.1, q5.2.2.2.2.2.2.2.2.2.2.2.2.1, q5.2.2.2.2.2.2.2.2.2.2.2.2.2.1, q5.2.2.2.2.2.2.2.2.2.2.2.2.2.2⟩
  exact loop (m - 0) 0 _ (by omega) ⟨only.rf, (Eq.trans hb (congrArg nI (show bt = bt + 0 by omega))), h_267_22, h_267_23, h_267_25, h_267_26, h_267_27, h_267_28, h_236_18, h_236_54, h_236_60, h_236_2⟩
theorem dX12_keepsRow_0 : decode cX12_keepsRow 0 = .ok (.iconst 0, 1) := by decide +kernel
theorem dX12_keepsRow_1 : decode cX12_keepsRow 1 = .ok (.istore_n 1, 1) := by decide +kernel
theorem dX12_keepsRow_2 : decode cX12_keepsRow 2 = .ok (.iload_n 1, 1) := by decide +kernel
theorem dX12_keepsRow_3 : decode cX12_keepsRow 3 = .ok (.bipush 29, 2) := by decide +kernel
theorem dX12_keepsRow_5 : decode cX12_keepsRow 5 = .ok (.if_icmp .ge 21, 3) := by decide +kernel
theorem dX12_keepsRow_8 : decode cX12_keepsRow 8 = .ok (.aload_n 0, 1) := by decide +kernel
theorem dX12_keepsRow_9 : decode cX12_keepsRow 9 = .ok (.getfield 107, 3) := by decide +kernel
theorem dX12_keepsRow_12 : decode cX12_keepsRow 12 = .ok (.iload_n 1, 1) := by decide +kernel
theorem dX12_keepsRow_13 : decode cX12_keepsRow 13 = .ok (.aload_n 0, 1) := by decide +kernel
theorem dX12_keepsRow_14 : decode cX12_keepsRow 14 = .ok (.getfield 110, 3) := by decide +kernel
theorem dX12_keepsRow_17 : decode cX12_keepsRow 17 = .ok (.iload_n 1, 1) := by decide +kernel
theorem dX12_keepsRow_18 : decode cX12_keepsRow 18 = .ok (.iaload, 1) := by decide +kernel
theorem dX12_keepsRow_19 : decode cX12_keepsRow 19 = .ok (.iastore, 1) := by decide +kernel
theorem dX12_keepsRow_20 : decode cX12_keepsRow 20 = .ok (.iinc 1 1, 3) := by decide +kernel
theorem dX12_keepsRow_23 : decode cX12_keepsRow 23 = .ok (.goto (-21), 3) := by decide +kernel
theorem dX12_keepsRow_26 : decode cX12_keepsRow 26 = .ok (.return_, 1) := by decide +kernel
set_option maxHeartbeats 4000000 in
set_option maxRecDepth 100000 in
theorem m_keepsRow {l : Launch} {D : va_G} {ids : List Nat} {ad : Nat → Nat} {ca : Nat → ClassId} {σ : HS} {bt : Nat} (hid : ∀ i, i < 277 → i ∈ ids) (hb : σ.1 267 21 = nI bt) : Kv l D ids ad ca yX12_keepsRow cX12_keepsRow 2 0 0 [.ref (ad 236)] σ (fun σ1 => only [266] σ σ1 ∧ σ1.1 266 21 = (nI bt)) := by
  refine Kv.of (by decide) (Nat.le_of_ble_eq_true rfl) 1 (fun Γ C Rt => ?_)
  show AW ids ad ca Γ 0 [some (.ref (ad 236)), none] [] σ
  refine a_iconst C dX12_keepsRow_0 (v := 0) rfl ?_
  refine a_istore_n C dX12_keepsRow_1 (i := 1) rfl (by decide) rfl (vs1 := [some (.ref (ad 236)), some (.int 0)]) rfl ?_
  refine a_iload_n C dX12_keepsRow_2 (i := 1) rfl rfl ?_
  refine a_bipush C dX12_keepsRow_3 (v := 29) rfl ?_
  refine a_ic_ge C dX12_keepsRow_5 (tgt := 26) rfl (fun h => absurd h (by decide)) (fun _ => ?_)
  refine a_aload_n C dX12_keepsRow_8 (i := 0) rfl rfl ?_
  refine a_get C fl_RX12_107 (i := 236) kd_236 (hid 236 (by decide)) (v := .ref (ad 266)) rfl dX12_keepsRow_9 ?_
  refine a_iload_n C dX12_keepsRow_12 (i := 1) rfl rfl ?_
  refine a_aload_n C dX12_keepsRow_13 (i := 0) rfl rfl ?_
  refine a_get C fl_RX12_110 (i := 236) kd_236 (hid 236 (by decide)) (v := .ref (ad 267)) rfl dX12_keepsRow_14 ?_
  refine a_iload_n C dX12_keepsRow_17 (i := 1) rfl rfl ?_
  refine a_iald C (i := 267) 0 kd_267 (hid 267 (by decide)) (by decide) rfl (by rw [al_267]; decide) dX12_keepsRow_18 (v := (σ.1 267 0)) rfl ?_
  refine a_iast C (i := 266) 0 kd_266 (hid 266 (by decide)) (by decide) rfl (by rw [al_266]; decide) dX12_keepsRow_19 ?_
  refine a_iinc C dX12_keepsRow_20 rfl (v := 1) rfl (by decide) rfl (vs1 := [some (.ref (ad 236)), some (.int 1)]) rfl ?_
  refine a_goto C dX12_keepsRow_23 (tgt := 2) rfl ?_
  refine a_iload_n C dX12_keepsRow_2 (i := 1) rfl rfl ?_
  refine a_bipush C dX12_keepsRow_3 (v := 29) rfl ?_
  refine a_ic_ge C dX12_keepsRow_5 (tgt := 26) rfl (fun h => absurd h (by decide)) (fun _ => ?_)
  refine a_aload_n C dX12_keepsRow_8 (i := 0) rfl rfl ?_
  refine a_get C fl_RX12_107 (i := 236) kd_236 (hid 236 (by decide)) (v := .ref (ad 266)) rfl dX12_keepsRow_9 ?_
  refine a_iload_n C dX12_keepsRow_12 (i := 1) rfl rfl ?_
  refine a_aload_n C dX12_keepsRow_13 (i := 0) rfl rfl ?_
  refine a_get C fl_RX12_110 (i := 236) kd_236 (hid 236 (by decide)) (v := .ref (ad 267)) rfl dX12_keepsRow_14 ?_
  refine a_iload_n C dX12_keepsRow_17 (i := 1) rfl rfl ?_
  refine a_iald C (i := 267) 1 kd_267 (hid 267 (by decide)) (by decide) rfl (by rw [al_267]; decide) dX12_keepsRow_18 (v := (σ.1 267 1)) rfl ?_
  refine a_iast C (i := 266) 1 kd_266 (hid 266 (by decide)) (by decide) rfl (by rw [al_266]; decide) dX12_keepsRow_19 ?_
  refine a_iinc C dX12_keepsRow_20 rfl (v := 2) rfl (by decide) rfl (vs1 := [some (.ref (ad 236)), some (.int 2)]) rfl ?_
  refine a_goto C dX12_keepsRow_23 (tgt := 2) rfl ?_
  refine a_iload_n C dX12_keepsRow_2 (i := 1) rfl rfl ?_
  refine a_bipush C dX12_keepsRow_3 (v := 29) rfl ?_
  refine a_ic_ge C dX12_keepsRow_5 (tgt := 26) rfl (fun h => absurd h (by decide)) (fun _ => ?_)
  refine a_aload_n C dX12_keepsRow_8 (i := 0) rfl rfl ?_
  refine a_get C fl_RX12_107 (i := 236) kd_236 (hid 236 (by decide)) (v := .ref (ad 266)) rfl dX12_keepsRow_9 ?_
  refine a_iload_n C dX12_keepsRow_12 (i := 1) rfl rfl ?_
  refine a_aload_n C dX12_keepsRow_13 (i := 0) rfl rfl ?_
  refine a_get C fl_RX12_110 (i := 236) kd_236 (hid 236 (by decide)) (v := .ref (ad 267)) rfl dX12_keepsRow_14 ?_
  refine a_iload_n C dX12_keepsRow_17 (i := 1) rfl rfl ?_
  refine a_iald C (i := 267) 2 kd_267 (hid 267 (by decide)) (by decide) rfl (by rw [al_267]; decide) dX12_keepsRow_18 (v := (σ.1 267 2)) rfl ?_
  refine a_iast C (i := 266) 2 kd_266 (hid 266 (by decide)) (by decide) rfl (by rw [al_266]; decide) dX12_keepsRow_19 ?_
  refine a_iinc C dX12_keepsRow_20 rfl (v := 3) rfl (by decide) rfl (vs1 := [some (.ref (ad 236)), some (.int 3)]) rfl ?_
  refine a_goto C dX12_keepsRow_23 (tgt := 2) rfl ?_
  refine a_iload_n C dX12_keepsRow_2 (i := 1) rfl rfl ?_
  refine a_bipush C dX12_keepsRow_3 (v := 29) rfl ?_
  refine a_ic_ge C dX12_keepsRow_5 (tgt := 26) rfl (fun h => absurd h (by decide)) (fun _ => ?_)
  refine a_aload_n C dX12_keepsRow_8 (i := 0) rfl rfl ?_
  refine a_get C fl_RX12_107 (i := 236) kd_236 (hid 236 (by decide)) (v := .ref (ad 266)) rfl dX12_keepsRow_9 ?_
  refine a_iload_n C dX12_keepsRow_12 (i := 1) rfl rfl ?_
  refine a_aload_n C dX12_keepsRow_13 (i := 0) rfl rfl ?_
  refine a_get C fl_RX12_110 (i := 236) kd_236 (hid 236 (by decide)) (v := .ref (ad 267)) rfl dX12_keepsRow_14 ?_
  refine a_iload_n C dX12_keepsRow_17 (i := 1) rfl rfl ?_
  refine a_iald C (i := 267) 3 kd_267 (hid 267 (by decide)) (by decide) rfl (by rw [al_267]; decide) dX12_keepsRow_18 (v := (σ.1 267 3)) rfl ?_
  refine a_iast C (i := 266) 3 kd_266 (hid 266 (by decide)) (by decide) rfl (by rw [al_266]; decide) dX12_keepsRow_19 ?_
  refine a_iinc C dX12_keepsRow_20 rfl (v := 4) rfl (by decide) rfl (vs1 := [some (.ref (ad 236)), some (.int 4)]) rfl ?_
  refine a_goto C dX12_keepsRow_23 (tgt := 2) rfl ?_
  refine a_iload_n C dX12_keepsRow_2 (i := 1) rfl rfl ?_
  refine a_bipush C dX12_keepsRow_3 (v := 29) rfl ?_
  refine a_ic_ge C dX12_keepsRow_5 (tgt := 26) rfl (fun h => absurd h (by decide)) (fun _ => ?_)
  refine a_aload_n C dX12_keepsRow_8 (i := 0) rfl rfl ?_
  refine a_get C fl_RX12_107 (i := 236) kd_236 (hid 236 (by decide)) (v := .ref (ad 266)) rfl dX12_keepsRow_9 ?_
  refine a_iload_n C dX12_keepsRow_12 (i := 1) rfl rfl ?_
  refine a_aload_n C dX12_keepsRow_13 (i := 0) rfl rfl ?_
  refine a_get C fl_RX12_110 (i := 236) kd_236 (hid 236 (by decide)) (v := .ref (ad 267)) rfl dX12_keepsRow_14 ?_
  refine a_iload_n C dX12_keepsRow_17 (i := 1) rfl rfl ?_
  refine a_iald C (i := 267) 4 kd_267 (hid 267 (by decide)) (by decide) rfl (by rw [al_267]; decide) dX12_keepsRow_18 (v := (σ.1 267 4)) rfl ?_
  refine a_iast C (i := 266) 4 kd_266 (hid 266 (by decide)) (by decide) rfl (by rw [al_266]; decide) dX12_keepsRow_19 ?_
  refine a_iinc C dX12_keepsRow_20 rfl (v := 5) rfl (by decide) rfl (vs1 := [some (.ref (ad 236)), some (.int 5)]) rfl ?_
  refine a_goto C dX12_keepsRow_23 (tgt := 2) rfl ?_
  refine a_iload_n C dX12_keepsRow_2 (i := 1) rfl rfl ?_
  refine a_bipush C dX12_keepsRow_3 (v := 29) rfl ?_
  refine a_ic_ge C dX12_keepsRow_5 (tgt := 26) rfl (fun h => absurd h (by decide)) (fun _ => ?_)
  refine a_aload_n C dX12_keepsRow_8 (i := 0) rfl rfl ?_
  refine a_get C fl_RX12_107 (i := 236) kd_236 (hid 236 (by decide)) (v := .ref (ad 266)) rfl dX12_keepsRow_9 ?_
  refine a_iload_n C dX12_keepsRow_12 (i := 1) rfl rfl ?_
  refine a_aload_n C dX12_keepsRow_13 (i := 0) rfl rfl ?_
  refine a_get C fl_RX12_110 (i := 236) kd_236 (hid 236 (by decide)) (v := .ref (ad 267)) rfl dX12_keepsRow_14 ?_
  refine a_iload_n C dX12_keepsRow_17 (i := 1) rfl rfl ?_
  refine a_iald C (i := 267) 5 kd_267 (hid 267 (by decide)) (by decide) rfl (by rw [al_267]; decide) dX12_keepsRow_18 (v := (σ.1 267 5)) rfl ?_
  refine a_iast C (i := 266) 5 kd_266 (hid 266 (by decide)) (by decide) rfl (by rw [al_266]; decide) dX12_keepsRow_19 ?_
  refine a_iinc C dX12_keepsRow_20 rfl (v := 6) rfl (by decide) rfl (vs1 := [some (.ref (ad 236)), some (.int 6)]) rfl ?_
  refine a_goto C dX12_keepsRow_23 (tgt := 2) rfl ?_
  refine a_iload_n C dX12_keepsRow_2 (i := 1) rfl rfl ?_
  refine a_bipush C dX12_keepsRow_3 (v := 29) rfl ?_
  refine a_ic_ge C dX12_keepsRow_5 (tgt := 26) rfl (fun h => absurd h (by decide)) (fun _ => ?_)
  refine a_aload_n C dX12_keepsRow_8 (i := 0) rfl rfl ?_
  refine a_get C fl_RX12_107 (i := 236) kd_236 (hid 236 (by decide)) (v := .ref (ad 266)) rfl dX12_keepsRow_9 ?_
  refine a_iload_n C dX12_keepsRow_12 (i := 1) rfl rfl ?_
  refine a_aload_n C dX12_keepsRow_13 (i := 0) rfl rfl ?_
  refine a_get C fl_RX12_110 (i := 236) kd_236 (hid 236 (by decide)) (v := .ref (ad 267)) rfl dX12_keepsRow_14 ?_
  refine a_iload_n C dX12_keepsRow_17 (i := 1) rfl rfl ?_
  refine a_iald C (i := 267) 6 kd_267 (hid 267 (by decide)) (by decide) rfl (by rw [al_267]; decide) dX12_keepsRow_18 (v := (σ.1 267 6)) rfl ?_
  refine a_iast C (i := 266) 6 kd_266 (hid 266 (by decide)) (by decide) rfl (by rw [al_266]; decide) dX12_keepsRow_19 ?_
  refine a_iinc C dX12_keepsRow_20 rfl (v := 7) rfl (by decide) rfl (vs1 := [some (.ref (ad 236)), some (.int 7)]) rfl ?_
  refine a_goto C dX12_keepsRow_23 (tgt := 2) rfl ?_
  refine a_iload_n C dX12_keepsRow_2 (i := 1) rfl rfl ?_
  refine a_bipush C dX12_keepsRow_3 (v := 29) rfl ?_
  refine a_ic_ge C dX12_keepsRow_5 (tgt := 26) rfl (fun h => absurd h (by decide)) (fun _ => ?_)
  refine a_aload_n C dX12_keepsRow_8 (i := 0) rfl rfl ?_
  refine a_get C fl_RX12_107 (i := 236) kd_236 (hid 236 (by decide)) (v := .ref (ad 266)) rfl dX12_keepsRow_9 ?_
  refine a_iload_n C dX12_keepsRow_12 (i := 1) rfl rfl ?_
  refine a_aload_n C dX12_keepsRow_13 (i := 0) rfl rfl ?_
  refine a_get C fl_RX12_110 (i := 236) kd_236 (hid 236 (by decide)) (v := .ref (ad 267)) rfl dX12_keepsRow_14 ?_
  refine a_iload_n C dX12_keepsRow_17 (i := 1) rfl rfl ?_
  refine a_iald C (i := 267) 7 kd_267 (hid 267 (by decide)) (by decide) rfl (by rw [al_267]; decide) dX12_keepsRow_18 (v := (σ.1 267 7)) rfl ?_
  refine a_iast C (i := 266) 7 kd_266 (hid 266 (by decide)) (by decide) rfl (by rw [al_266]; decide) dX12_keepsRow_19 ?_
  refine a_iinc C dX12_keepsRow_20 rfl (v := 8) rfl (by decide) rfl (vs1 := [some (.ref (ad 236)), some (.int 8)]) rfl ?_
  refine a_goto C dX12_keepsRow_23 (tgt := 2) rfl ?_
  refine a_iload_n C dX12_keepsRow_2 (i := 1) rfl rfl ?_
  refine a_bipush C dX12_keepsRow_3 (v := 29) rfl ?_
  refine a_ic_ge C dX12_keepsRow_5 (tgt := 26) rfl (fun h => absurd h (by decide)) (fun _ => ?_)
  refine a_aload_n C dX12_keepsRow_8 (i := 0) rfl rfl ?_
  refine a_get C fl_RX12_107 (i := 236) kd_236 (hid 236 (by decide)) (v := .ref (ad 266)) rfl dX12_keepsRow_9 ?_
  refine a_iload_n C dX12_keepsRow_12 (i := 1) rfl rfl ?_
  refine a_aload_n C dX12_keepsRow_13 (i := 0) rfl rfl ?_
  refine a_get C fl_RX12_110 (i := 236) kd_236 (hid 236 (by decide)) (v := .ref (ad 267)) rfl dX12_keepsRow_14 ?_
  refine a_iload_n C dX12_keepsRow_17 (i := 1) rfl rfl ?_
  refine a_iald C (i := 267) 8 kd_267 (hid 267 (by decide)) (by decide) rfl (by rw [al_267]; decide) dX12_keepsRow_18 (v := (σ.1 267 8)) rfl ?_
  refine a_iast C (i := 266) 8 kd_266 (hid 266 (by decide)) (by decide) rfl (by rw [al_266]; decide) dX12_keepsRow_19 ?_
  refine a_iinc C dX12_keepsRow_20 rfl (v := 9) rfl (by decide) rfl (vs1 := [some (.ref (ad 236)), some (.int 9)]) rfl ?_
  refine a_goto C dX12_keepsRow_23 (tgt := 2) rfl ?_
  refine a_iload_n C dX12_keepsRow_2 (i := 1) rfl rfl ?_
  refine a_bipush C dX12_keepsRow_3 (v := 29) rfl ?_
  refine a_ic_ge C dX12_keepsRow_5 (tgt := 26) rfl (fun h => absurd h (by decide)) (fun _ => ?_)
  refine a_aload_n C dX12_keepsRow_8 (i := 0) rfl rfl ?_
  refine a_get C fl_RX12_107 (i := 236) kd_236 (hid 236 (by decide)) (v := .ref (ad 266)) rfl dX12_keepsRow_9 ?_
  refine a_iload_n C dX12_keepsRow_12 (i := 1) rfl rfl ?_
  refine a_aload_n C dX12_keepsRow_13 (i := 0) rfl rfl ?_
  refine a_get C fl_RX12_110 (i := 236) kd_236 (hid 236 (by decide)) (v := .ref (ad 267)) rfl dX12_keepsRow_14 ?_
  refine a_iload_n C dX12_keepsRow_17 (i := 1) rfl rfl ?_
  refine a_iald C (i := 267) 9 kd_267 (hid 267 (by decide)) (by decide) rfl (by rw [al_267]; decide) dX12_keepsRow_18 (v := (σ.1 267 9)) rfl ?_
  refine a_iast C (i := 266) 9 kd_266 (hid 266 (by decide)) (by decide) rfl (by rw [al_266]; decide) dX12_keepsRow_19 ?_
  refine a_iinc C dX12_keepsRow_20 rfl (v := 10) rfl (by decide) rfl (vs1 := [some (.ref (ad 236)), some (.int 10)]) rfl ?_
  refine a_goto C dX12_keepsRow_23 (tgt := 2) rfl ?_
  refine a_iload_n C dX12_keepsRow_2 (i := 1) rfl rfl ?_
  refine a_bipush C dX12_keepsRow_3 (v := 29) rfl ?_
  refine a_ic_ge C dX12_keepsRow_5 (tgt := 26) rfl (fun h => absurd h (by decide)) (fun _ => ?_)
  refine a_aload_n C dX12_keepsRow_8 (i := 0) rfl rfl ?_
  refine a_get C fl_RX12_107 (i := 236) kd_236 (hid 236 (by decide)) (v := .ref (ad 266)) rfl dX12_keepsRow_9 ?_
  refine a_iload_n C dX12_keepsRow_12 (i := 1) rfl rfl ?_
  refine a_aload_n C dX12_keepsRow_13 (i := 0) rfl rfl ?_
  refine a_get C fl_RX12_110 (i := 236) kd_236 (hid 236 (by decide)) (v := .ref (ad 267)) rfl dX12_keepsRow_14 ?_
  refine a_iload_n C dX12_keepsRow_17 (i := 1) rfl rfl ?_
  refine a_iald C (i := 267) 10 kd_267 (hid 267 (by decide)) (by decide) rfl (by rw [al_267]; decide) dX12_keepsRow_18 (v := (σ.1 267 10)) rfl ?_
  refine a_iast C (i := 266) 10 kd_266 (hid 266 (by decide)) (by decide) rfl (by rw [al_266]; decide) dX12_keepsRow_19 ?_
  refine a_iinc C dX12_keepsRow_20 rfl (v := 11) rfl (by decide) rfl (vs1 := [some (.ref (ad 236)), some (.int 11)]) rfl ?_
  refine a_goto C dX12_keepsRow_23 (tgt := 2) rfl ?_
  refine a_iload_n C dX12_keepsRow_2 (i := 1) rfl rfl ?_
  refine a_bipush C dX12_keepsRow_3 (v := 29) rfl ?_
  refine a_ic_ge C dX12_keepsRow_5 (tgt := 26) rfl (fun h => absurd h (by decide)) (fun _ => ?_)
  refine a_aload_n C dX12_keepsRow_8 (i := 0) rfl rfl ?_
  refine a_get C fl_RX12_107 (i := 236) kd_236 (hid 236 (by decide)) (v := .ref (ad 266)) rfl dX12_keepsRow_9 ?_
  refine a_iload_n C dX12_keepsRow_12 (i := 1) rfl rfl ?_
  refine a_aload_n C dX12_keepsRow_13 (i := 0) rfl rfl ?_
  refine a_get C fl_RX12_110 (i := 236) kd_236 (hid 236 (by decide)) (v := .ref (ad 267)) rfl dX12_keepsRow_14 ?_
  refine a_iload_n C dX12_keepsRow_17 (i := 1) rfl rfl ?_
  refine a_iald C (i := 267) 11 kd_267 (hid 267 (by decide)) (by decide) rfl (by rw [al_267]; decide) dX12_keepsRow_18 (v := (σ.1 267 11)) rfl ?_
  refine a_iast C (i := 266) 11 kd_266 (hid 266 (by decide)) (by decide) rfl (by rw [al_266]; decide) dX12_keepsRow_19 ?_
  refine a_iinc C dX12_keepsRow_20 rfl (v := 12) rfl (by decide) rfl (vs1 := [some (.ref (ad 236)), some (.int 12)]) rfl ?_
  refine a_goto C dX12_keepsRow_23 (tgt := 2) rfl ?_
  refine a_iload_n C dX12_keepsRow_2 (i := 1) rfl rfl ?_
  refine a_bipush C dX12_keepsRow_3 (v := 29) rfl ?_
  refine a_ic_ge C dX12_keepsRow_5 (tgt := 26) rfl (fun h => absurd h (by decide)) (fun _ => ?_)
  refine a_aload_n C dX12_keepsRow_8 (i := 0) rfl rfl ?_
  refine a_get C fl_RX12_107 (i := 236) kd_236 (hid 236 (by decide)) (v := .ref (ad 266)) rfl dX12_keepsRow_9 ?_
  refine a_iload_n C dX12_keepsRow_12 (i := 1) rfl rfl ?_
  refine a_aload_n C dX12_keepsRow_13 (i := 0) rfl rfl ?_
  refine a_get C fl_RX12_110 (i := 236) kd_236 (hid 236 (by decide)) (v := .ref (ad 267)) rfl dX12_keepsRow_14 ?_
  refine a_iload_n C dX12_keepsRow_17 (i := 1) rfl rfl ?_
  refine a_iald C (i := 267) 12 kd_267 (hid 267 (by decide)) (by decide) rfl (by rw [al_267]; decide) dX12_keepsRow_18 (v := (σ.1 267 12)) rfl ?_
  refine a_iast C (i := 266) 12 kd_266 (hid 266 (by decide)) (by decide) rfl (by rw [al_266]; decide) dX12_keepsRow_19 ?_
  refine a_iinc C dX12_keepsRow_20 rfl (v := 13) rfl (by decide) rfl (vs1 := [some (.ref (ad 236)), some (.int 13)]) rfl ?_
  refine a_goto C dX12_keepsRow_23 (tgt := 2) rfl ?_
  refine a_iload_n C dX12_keepsRow_2 (i := 1) rfl rfl ?_
  refine a_bipush C dX12_keepsRow_3 (v := 29) rfl ?_
  refine a_ic_ge C dX12_keepsRow_5 (tgt := 26) rfl (fun h => absurd h (by decide)) (fun _ => ?_)
  refine a_aload_n C dX12_keepsRow_8 (i := 0) rfl rfl ?_
  refine a_get C fl_RX12_107 (i := 236) kd_236 (hid 236 (by decide)) (v := .ref (ad 266)) rfl dX12_keepsRow_9 ?_
  refine a_iload_n C dX12_keepsRow_12 (i := 1) rfl rfl ?_
  refine a_aload_n C dX12_keepsRow_13 (i := 0) rfl rfl ?_
  refine a_get C fl_RX12_110 (i := 236) kd_236 (hid 236 (by decide)) (v := .ref (ad 267)) rfl dX12_keepsRow_14 ?_
  refine a_iload_n C dX12_keepsRow_17 (i := 1) rfl rfl ?_
  refine a_iald C (i := 267) 13 kd_267 (hid 267 (by decide)) (by decide) rfl (by rw [al_267]; decide) dX12_keepsRow_18 (v := (σ.1 267 13)) rfl ?_
  refine a_iast C (i := 266) 13 kd_266 (hid 266 (by decide)) (by decide) rfl (by rw [al_266]; decide) dX12_keepsRow_19 ?_
  refine a_iinc C dX12_keepsRow_20 rfl (v := 14) rfl (by decide) rfl (vs1 := [some (.ref (ad 236)), some (.int 14)]) rfl ?_
  refine a_goto C dX12_keepsRow_23 (tgt := 2) rfl ?_
  refine a_iload_n C dX12_keepsRow_2 (i := 1) rfl rfl ?_
  refine a_bipush C dX12_keepsRow_3 (v := 29) rfl ?_
  refine a_ic_ge C dX12_keepsRow_5 (tgt := 26) rfl (fun h => absurd h (by decide)) (fun _ => ?_)
  refine a_aload_n C dX12_keepsRow_8 (i := 0) rfl rfl ?_
  refine a_get C fl_RX12_107 (i := 236) kd_236 (hid 236 (by decide)) (v := .ref (ad 266)) rfl dX12_keepsRow_9 ?_
  refine a_iload_n C dX12_keepsRow_12 (i := 1) rfl rfl ?_
  refine a_aload_n C dX12_keepsRow_13 (i := 0) rfl rfl ?_
  refine a_get C fl_RX12_110 (i := 236) kd_236 (hid 236 (by decide)) (v := .ref (ad 267)) rfl dX12_keepsRow_14 ?_
  refine a_iload_n C dX12_keepsRow_17 (i := 1) rfl rfl ?_
  refine a_iald C (i := 267) 14 kd_267 (hid 267 (by decide)) (by decide) rfl (by rw [al_267]; decide) dX12_keepsRow_18 (v := (σ.1 267 14)) rfl ?_
  refine a_iast C (i := 266) 14 kd_266 (hid 266 (by decide)) (by decide) rfl (by rw [al_266]; decide) dX12_keepsRow_19 ?_
  refine a_iinc C dX12_keepsRow_20 rfl (v := 15) rfl (by decide) rfl (vs1 := [some (.ref (ad 236)), some (.int 15)]) rfl ?_
  refine a_goto C dX12_keepsRow_23 (tgt := 2) rfl ?_
  refine a_iload_n C dX12_keepsRow_2 (i := 1) rfl rfl ?_
  refine a_bipush C dX12_keepsRow_3 (v := 29) rfl ?_
  refine a_ic_ge C dX12_keepsRow_5 (tgt := 26) rfl (fun h => absurd h (by decide)) (fun _ => ?_)
  refine a_aload_n C dX12_keepsRow_8 (i := 0) rfl rfl ?_
  refine a_get C fl_RX12_107 (i := 236) kd_236 (hid 236 (by decide)) (v := .ref (ad 266)) rfl dX12_keepsRow_9 ?_
  refine a_iload_n C dX12_keepsRow_12 (i := 1) rfl rfl ?_
  refine a_aload_n C dX12_keepsRow_13 (i := 0) rfl rfl ?_
  refine a_get C fl_RX12_110 (i := 236) kd_236 (hid 236 (by decide)) (v := .ref (ad 267)) rfl dX12_keepsRow_14 ?_
  refine a_iload_n C dX12_keepsRow_17 (i := 1) rfl rfl ?_
  refine a_iald C (i := 267) 15 kd_267 (hid 267 (by decide)) (by decide) rfl (by rw [al_267]; decide) dX12_keepsRow_18 (v := (σ.1 267 15)) rfl ?_
  refine a_iast C (i := 266) 15 kd_266 (hid 266 (by decide)) (by decide) rfl (by rw [al_266]; decide) dX12_keepsRow_19 ?_
  refine a_iinc C dX12_keepsRow_20 rfl (v := 16) rfl (by decide) rfl (vs1 := [some (.ref (ad 236)), some (.int 16)]) rfl ?_
  refine a_goto C dX12_keepsRow_23 (tgt := 2) rfl ?_
  refine a_iload_n C dX12_keepsRow_2 (i := 1) rfl rfl ?_
  refine a_bipush C dX12_keepsRow_3 (v := 29) rfl ?_
  refine a_ic_ge C dX12_keepsRow_5 (tgt := 26) rfl (fun h => absurd h (by decide)) (fun _ => ?_)
  refine a_aload_n C dX12_keepsRow_8 (i := 0) rfl rfl ?_
  refine a_get C fl_RX12_107 (i := 236) kd_236 (hid 236 (by decide)) (v := .ref (ad 266)) rfl dX12_keepsRow_9 ?_
  refine a_iload_n C dX12_keepsRow_12 (i := 1) rfl rfl ?_
  refine a_aload_n C dX12_keepsRow_13 (i := 0) rfl rfl ?_
  refine a_get C fl_RX12_110 (i := 236) kd_236 (hid 236 (by decide)) (v := .ref (ad 267)) rfl dX12_keepsRow_14 ?_
  refine a_iload_n C dX12_keepsRow_17 (i := 1) rfl rfl ?_
  refine a_iald C (i := 267) 16 kd_267 (hid 267 (by decide)) (by decide) rfl (by rw [al_267]; decide) dX12_keepsRow_18 (v := (σ.1 267 16)) rfl ?_
  refine a_iast C (i := 266) 16 kd_266 (hid 266 (by decide)) (by decide) rfl (by rw [al_266]; decide) dX12_keepsRow_19 ?_
  refine a_iinc C dX12_keepsRow_20 rfl (v := 17) rfl (by decide) rfl (vs1 := [some (.ref (ad 236)), some (.int 17)]) rfl ?_
  refine a_goto C dX12_keepsRow_23 (tgt := 2) rfl ?_
  refine a_iload_n C dX12_keepsRow_2 (i := 1) rfl rfl ?_
  refine a_bipush C dX12_keepsRow_3 (v := 29) rfl ?_
  refine a_ic_ge C dX12_keepsRow_5 (tgt := 26) rfl (fun h => absurd h (by decide)) (fun _ => ?_)
  refine a_aload_n C dX12_keepsRow_8 (i := 0) rfl rfl ?_
  refine a_get C fl_RX12_107 (i := 236) kd_236 (hid 236 (by decide)) (v := .ref (ad 266)) rfl dX12_keepsRow_9 ?_
  refine a_iload_n C dX12_keepsRow_12 (i := 1) rfl rfl ?_
  refine a_aload_n C dX12_keepsRow_13 (i := 0) rfl rfl ?_
  refine a_get C fl_RX12_110 (i := 236) kd_236 (hid 236 (by decide)) (v := .ref (ad 267)) rfl dX12_keepsRow_14 ?_
  refine a_iload_n C dX12_keepsRow_17 (i := 1) rfl rfl ?_
  refine a_iald C (i := 267) 17 kd_267 (hid 267 (by decide)) (by decide) rfl (by rw [al_267]; decide) dX12_keepsRow_18 (v := (σ.1 267 17)) rfl ?_
  refine a_iast C (i := 266) 17 kd_266 (hid 266 (by decide)) (by decide) rfl (by rw [al_266]; decide) dX12_keepsRow_19 ?_
  refine a_iinc C dX12_keepsRow_20 rfl (v := 18) rfl (by decide) rfl (vs1 := [some (.ref (ad 236)), some (.int 18)]) rfl ?_
  refine a_goto C dX12_keepsRow_23 (tgt := 2) rfl ?_
  refine a_iload_n C dX12_keepsRow_2 (i := 1) rfl rfl ?_
  refine a_bipush C dX12_keepsRow_3 (v := 29) rfl ?_
  refine a_ic_ge C dX12_keepsRow_5 (tgt := 26) rfl (fun h => absurd h (by decide)) (fun _ => ?_)
  refine a_aload_n C dX12_keepsRow_8 (i := 0) rfl rfl ?_
  refine a_get C fl_RX12_107 (i := 236) kd_236 (hid 236 (by decide)) (v := .ref (ad 266)) rfl dX12_keepsRow_9 ?_
  refine a_iload_n C dX12_keepsRow_12 (i := 1) rfl rfl ?_
  refine a_aload_n C dX12_keepsRow_13 (i := 0) rfl rfl ?_
  refine a_get C fl_RX12_110 (i := 236) kd_236 (hid 236 (by decide)) (v := .ref (ad 267)) rfl dX12_keepsRow_14 ?_
  refine a_iload_n C dX12_keepsRow_17 (i := 1) rfl rfl ?_
  refine a_iald C (i := 267) 18 kd_267 (hid 267 (by decide)) (by decide) rfl (by rw [al_267]; decide) dX12_keepsRow_18 (v := (σ.1 267 18)) rfl ?_
  refine a_iast C (i := 266) 18 kd_266 (hid 266 (by decide)) (by decide) rfl (by rw [al_266]; decide) dX12_keepsRow_19 ?_
  refine a_iinc C dX12_keepsRow_20 rfl (v := 19) rfl (by decide) rfl (vs1 := [some (.ref (ad 236)), some (.int 19)]) rfl ?_
  refine a_goto C dX12_keepsRow_23 (tgt := 2) rfl ?_
  refine a_iload_n C dX12_keepsRow_2 (i := 1) rfl rfl ?_
  refine a_bipush C dX12_keepsRow_3 (v := 29) rfl ?_
  refine a_ic_ge C dX12_keepsRow_5 (tgt := 26) rfl (fun h => absurd h (by decide)) (fun _ => ?_)
  refine a_aload_n C dX12_keepsRow_8 (i := 0) rfl rfl ?_
  refine a_get C fl_RX12_107 (i := 236) kd_236 (hid 236 (by decide)) (v := .ref (ad 266)) rfl dX12_keepsRow_9 ?_
  refine a_iload_n C dX12_keepsRow_12 (i := 1) rfl rfl ?_
  refine a_aload_n C dX12_keepsRow_13 (i := 0) rfl rfl ?_
  refine a_get C fl_RX12_110 (i := 236) kd_236 (hid 236 (by decide)) (v := .ref (ad 267)) rfl dX12_keepsRow_14 ?_
  refine a_iload_n C dX12_keepsRow_17 (i := 1) rfl rfl ?_
  refine a_iald C (i := 267) 19 kd_267 (hid 267 (by decide)) (by decide) rfl (by rw [al_267]; decide) dX12_keepsRow_18 (v := (σ.1 267 19)) rfl ?_
  refine a_iast C (i := 266) 19 kd_266 (hid 266 (by decide)) (by decide) rfl (by rw [al_266]; decide) dX12_keepsRow_19 ?_
  refine a_iinc C dX12_keepsRow_20 rfl (v := 20) rfl (by decide) rfl (vs1 := [some (.ref (ad 236)), some (.int 20)]) rfl ?_
  refine a_goto C dX12_keepsRow_23 (tgt := 2) rfl ?_
  refine a_iload_n C dX12_keepsRow_2 (i := 1) rfl rfl ?_
  refine a_bipush C dX12_keepsRow_3 (v := 29) rfl ?_
  refine a_ic_ge C dX12_keepsRow_5 (tgt := 26) rfl (fun h => absurd h (by decide)) (fun _ => ?_)
  refine a_aload_n C dX12_keepsRow_8 (i := 0) rfl rfl ?_
  refine a_get C fl_RX12_107 (i := 236) kd_236 (hid 236 (by decide)) (v := .ref (ad 266)) rfl dX12_keepsRow_9 ?_
  refine a_iload_n C dX12_keepsRow_12 (i := 1) rfl rfl ?_
  refine a_aload_n C dX12_keepsRow_13 (i := 0) rfl rfl ?_
  refine a_get C fl_RX12_110 (i := 236) kd_236 (hid 236 (by decide)) (v := .ref (ad 267)) rfl dX12_keepsRow_14 ?_
  refine a_iload_n C dX12_keepsRow_17 (i := 1) rfl rfl ?_
  refine a_iald C (i := 267) 20 kd_267 (hid 267 (by decide)) (by decide) rfl (by rw [al_267]; decide) dX12_keepsRow_18 (v := (σ.1 267 20)) rfl ?_
  refine a_iast C (i := 266) 20 kd_266 (hid 266 (by decide)) (by decide) rfl (by rw [al_266]; decide) dX12_keepsRow_19 ?_
  refine a_iinc C dX12_keepsRow_20 rfl (v := 21) rfl (by decide) rfl (vs1 := [some (.ref (ad 236)), some (.int 21)]) rfl ?_
  refine a_goto C dX12_keepsRow_23 (tgt := 2) rfl ?_
  refine a_iload_n C dX12_keepsRow_2 (i := 1) rfl rfl ?_
  refine a_bipush C dX12_keepsRow_3 (v := 29) rfl ?_
  refine a_ic_ge C dX12_keepsRow_5 (tgt := 26) rfl (fun h => absurd h (by decide)) (fun _ => ?_)
  refine a_aload_n C dX12_keepsRow_8 (i := 0) rfl rfl ?_
  refine a_get C fl_RX12_107 (i := 236) kd_236 (hid 236 (by decide)) (v := .ref (ad 266)) rfl dX12_keepsRow_9 ?_
  refine a_iload_n C dX12_keepsRow_12 (i := 1) rfl rfl ?_
  refine a_aload_n C dX12_keepsRow_13 (i := 0) rfl rfl ?_
  refine a_get C fl_RX12_110 (i := 236) kd_236 (hid 236 (by decide)) (v := .ref (ad 267)) rfl dX12_keepsRow_14 ?_
  refine a_iload_n C dX12_keepsRow_17 (i := 1) rfl rfl ?_
  refine a_iald C (i := 267) 21 kd_267 (hid 267 (by decide)) (by decide) rfl (by rw [al_267]; decide) dX12_keepsRow_18 (v := (nI bt)) hb ?_
  refine a_iast C (i := 266) 21 kd_266 (hid 266 (by decide)) (by decide) rfl (by rw [al_266]; decide) dX12_keepsRow_19 ?_
  refine a_iinc C dX12_keepsRow_20 rfl (v := 22) rfl (by decide) rfl (vs1 := [some (.ref (ad 236)), some (.int 22)]) rfl ?_
  refine a_goto C dX12_keepsRow_23 (tgt := 2) rfl ?_
  refine a_iload_n C dX12_keepsRow_2 (i := 1) rfl rfl ?_
  refine a_bipush C dX12_keepsRow_3 (v := 29) rfl ?_
  refine a_ic_ge C dX12_keepsRow_5 (tgt := 26) rfl (fun h => absurd h (by decide)) (fun _ => ?_)
  refine a_aload_n C dX12_keepsRow_8 (i := 0) rfl rfl ?_
  refine a_get C fl_RX12_107 (i := 236) kd_236 (hid 236 (by decide)) (v := .ref (ad 266)) rfl dX12_keepsRow_9 ?_
  refine a_iload_n C dX12_keepsRow_12 (i := 1) rfl rfl ?_
  refine a_aload_n C dX12_keepsRow_13 (i := 0) rfl rfl ?_
  refine a_get C fl_RX12_110 (i := 236) kd_236 (hid 236 (by decide)) (v := .ref (ad 267)) rfl dX12_keepsRow_14 ?_
  refine a_iload_n C dX12_keepsRow_17 (i := 1) rfl rfl ?_
  refine a_iald C (i := 267) 22 kd_267 (hid 267 (by decide)) (by decide) rfl (by rw [al_267]; decide) dX12_keepsRow_18 (v := (σ.1 267 22)) rfl ?_
  refine a_iast C (i := 266) 22 kd_266 (hid 266 (by decide)) (by decide) rfl (by rw [al_266]; decide) dX12_keepsRow_19 ?_
  refine a_iinc C dX12_keepsRow_20 rfl (v := 23) rfl (by decide) rfl (vs1 := [some (.ref (ad 236)), some (.int 23)]) rfl ?_
  refine a_goto C dX12_keepsRow_23 (tgt := 2) rfl ?_
  refine a_iload_n C dX12_keepsRow_2 (i := 1) rfl rfl ?_
  refine a_bipush C dX12_keepsRow_3 (v := 29) rfl ?_
  refine a_ic_ge C dX12_keepsRow_5 (tgt := 26) rfl (fun h => absurd h (by decide)) (fun _ => ?_)
  refine a_aload_n C dX12_keepsRow_8 (i := 0) rfl rfl ?_
  refine a_get C fl_RX12_107 (i := 236) kd_236 (hid 236 (by decide)) (v := .ref (ad 266)) rfl dX12_keepsRow_9 ?_
  refine a_iload_n C dX12_keepsRow_12 (i := 1) rfl rfl ?_
  refine a_aload_n C dX12_keepsRow_13 (i := 0) rfl rfl ?_
  refine a_get C fl_RX12_110 (i := 236) kd_236 (hid 236 (by decide)) (v := .ref (ad 267)) rfl dX12_keepsRow_14 ?_
  refine a_iload_n C dX12_keepsRow_17 (i := 1) rfl rfl ?_
  refine a_iald C (i := 267) 23 kd_267 (hid 267 (by decide)) (by decide) rfl (by rw [al_267]; decide) dX12_keepsRow_18 (v := (σ.1 267 23)) rfl ?_
  refine a_iast C (i := 266) 23 kd_266 (hid 266 (by decide)) (by decide) rfl (by rw [al_266]; decide) dX12_keepsRow_19 ?_
  refine a_iinc C dX12_keepsRow_20 rfl (v := 24) rfl (by decide) rfl (vs1 := [some (.ref (ad 236)), some (.int 24)]) rfl ?_
  refine a_goto C dX12_keepsRow_23 (tgt := 2) rfl ?_
  refine a_iload_n C dX12_keepsRow_2 (i := 1) rfl rfl ?_
  refine a_bipush C dX12_keepsRow_3 (v := 29) rfl ?_
  refine a_ic_ge C dX12_keepsRow_5 (tgt := 26) rfl (fun h => absurd h (by decide)) (fun _ => ?_)
  refine a_aload_n C dX12_keepsRow_8 (i := 0) rfl rfl ?_
  refine a_get C fl_RX12_107 (i := 236) kd_236 (hid 236 (by decide)) (v := .ref (ad 266)) rfl dX12_keepsRow_9 ?_
  refine a_iload_n C dX12_keepsRow_12 (i := 1) rfl rfl ?_
  refine a_aload_n C dX12_keepsRow_13 (i := 0) rfl rfl ?_
  refine a_get C fl_RX12_110 (i := 236) kd_236 (hid 236 (by decide)) (v := .ref (ad 267)) rfl dX12_keepsRow_14 ?_
  refine a_iload_n C dX12_keepsRow_17 (i := 1) rfl rfl ?_
  refine a_iald C (i := 267) 24 kd_267 (hid 267 (by decide)) (by decide) rfl (by rw [al_267]; decide) dX12_keepsRow_18 (v := (σ.1 267 24)) rfl ?_
  refine a_iast C (i := 266) 24 kd_266 (hid 266 (by decide)) (by decide) rfl (by rw [al_266]; decide) dX12_keepsRow_19 ?_
  refine a_iinc C dX12_keepsRow_20 rfl (v := 25) rfl (by decide) rfl (vs1 := [some (.ref (ad 236)), some (.int 25)]) rfl ?_
  refine a_goto C dX12_keepsRow_23 (tgt := 2) rfl ?_
  refine a_iload_n C dX12_keepsRow_2 (i := 1) rfl rfl ?_
  refine a_bipush C dX12_keepsRow_3 (v := 29) rfl ?_
  refine a_ic_ge C dX12_keepsRow_5 (tgt := 26) rfl (fun h => absurd h (by decide)) (fun _ => ?_)
  refine a_aload_n C dX12_keepsRow_8 (i := 0) rfl rfl ?_
  refine a_get C fl_RX12_107 (i := 236) kd_236 (hid 236 (by decide)) (v := .ref (ad 266)) rfl dX12_keepsRow_9 ?_
  refine a_iload_n C dX12_keepsRow_12 (i := 1) rfl rfl ?_
  refine a_aload_n C dX12_keepsRow_13 (i := 0) rfl rfl ?_
  refine a_get C fl_RX12_110 (i := 236) kd_236 (hid 236 (by decide)) (v := .ref (ad 267)) rfl dX12_keepsRow_14 ?_
  refine a_iload_n C dX12_keepsRow_17 (i := 1) rfl rfl ?_
  refine a_iald C (i := 267) 25 kd_267 (hid 267 (by decide)) (by decide) rfl (by rw [al_267]; decide) dX12_keepsRow_18 (v := (σ.1 267 25)) rfl ?_
  refine a_iast C (i := 266) 25 kd_266 (hid 266 (by decide)) (by decide) rfl (by rw [al_266]; decide) dX12_keepsRow_19 ?_
  refine a_iinc C dX12_keepsRow_20 rfl (v := 26) rfl (by decide) rfl (vs1 := [some (.ref (ad 236)), some (.int 26)]) rfl ?_
  refine a_goto C dX12_keepsRow_23 (tgt := 2) rfl ?_
  refine a_iload_n C dX12_keepsRow_2 (i := 1) rfl rfl ?_
  refine a_bipush C dX12_keepsRow_3 (v := 29) rfl ?_
  refine a_ic_ge C dX12_keepsRow_5 (tgt := 26) rfl (fun h => absurd h (by decide)) (fun _ => ?_)
  refine a_aload_n C dX12_keepsRow_8 (i := 0) rfl rfl ?_
  refine a_get C fl_RX12_107 (i := 236) kd_236 (hid 236 (by decide)) (v := .ref (ad 266)) rfl dX12_keepsRow_9 ?_
  refine a_iload_n C dX12_keepsRow_12 (i := 1) rfl rfl ?_
  refine a_aload_n C dX12_keepsRow_13 (i := 0) rfl rfl ?_
  refine a_get C fl_RX12_110 (i := 236) kd_236 (hid 236 (by decide)) (v := .ref (ad 267)) rfl dX12_keepsRow_14 ?_
  refine a_iload_n C dX12_keepsRow_17 (i := 1) rfl rfl ?_
  refine a_iald C (i := 267) 26 kd_267 (hid 267 (by decide)) (by decide) rfl (by rw [al_267]; decide) dX12_keepsRow_18 (v := (σ.1 267 26)) rfl ?_
  refine a_iast C (i := 266) 26 kd_266 (hid 266 (by decide)) (by decide) rfl (by rw [al_266]; decide) dX12_keepsRow_19 ?_
  refine a_iinc C dX12_keepsRow_20 rfl (v := 27) rfl (by decide) rfl (vs1 := [some (.ref (ad 236)), some (.int 27)]) rfl ?_
  refine a_goto C dX12_keepsRow_23 (tgt := 2) rfl ?_
  refine a_iload_n C dX12_keepsRow_2 (i := 1) rfl rfl ?_
  refine a_bipush C dX12_keepsRow_3 (v := 29) rfl ?_
  refine a_ic_ge C dX12_keepsRow_5 (tgt := 26) rfl (fun h => absurd h (by decide)) (fun _ => ?_)
  refine a_aload_n C dX12_keepsRow_8 (i := 0) rfl rfl ?_
  refine a_get C fl_RX12_107 (i := 236) kd_236 (hid 236 (by decide)) (v := .ref (ad 266)) rfl dX12_keepsRow_9 ?_
  refine a_iload_n C dX12_keepsRow_12 (i := 1) rfl rfl ?_
  refine a_aload_n C dX12_keepsRow_13 (i := 0) rfl rfl ?_
  refine a_get C fl_RX12_110 (i := 236) kd_236 (hid 236 (by decide)) (v := .ref (ad 267)) rfl dX12_keepsRow_14 ?_
  refine a_iload_n C dX12_keepsRow_17 (i := 1) rfl rfl ?_
  refine a_iald C (i := 267) 27 kd_267 (hid 267 (by decide)) (by decide) rfl (by rw [al_267]; decide) dX12_keepsRow_18 (v := (σ.1 267 27)) rfl ?_
  refine a_iast C (i := 266) 27 kd_266 (hid 266 (by decide)) (by decide) rfl (by rw [al_266]; decide) dX12_keepsRow_19 ?_
  refine a_iinc C dX12_keepsRow_20 rfl (v := 28) rfl (by decide) rfl (vs1 := [some (.ref (ad 236)), some (.int 28)]) rfl ?_
  refine a_goto C dX12_keepsRow_23 (tgt := 2) rfl ?_
  refine a_iload_n C dX12_keepsRow_2 (i := 1) rfl rfl ?_
  refine a_bipush C dX12_keepsRow_3 (v := 29) rfl ?_
  refine a_ic_ge C dX12_keepsRow_5 (tgt := 26) rfl (fun h => absurd h (by decide)) (fun _ => ?_)
  refine a_aload_n C dX12_keepsRow_8 (i := 0) rfl rfl ?_
  refine a_get C fl_RX12_107 (i := 236) kd_236 (hid 236 (by decide)) (v := .ref (ad 266)) rfl dX12_keepsRow_9 ?_
  refine a_iload_n C dX12_keepsRow_12 (i := 1) rfl rfl ?_
  refine a_aload_n C dX12_keepsRow_13 (i := 0) rfl rfl ?_
  refine a_get C fl_RX12_110 (i := 236) kd_236 (hid 236 (by decide)) (v := .ref (ad 267)) rfl dX12_keepsRow_14 ?_
  refine a_iload_n C dX12_keepsRow_17 (i := 1) rfl rfl ?_
  refine a_iald C (i := 267) 28 kd_267 (hid 267 (by decide)) (by decide) rfl (by rw [al_267]; decide) dX12_keepsRow_18 (v := (σ.1 267 28)) rfl ?_
  refine a_iast C (i := 266) 28 kd_266 (hid 266 (by decide)) (by decide) rfl (by rw [al_266]; decide) dX12_keepsRow_19 ?_
  refine a_iinc C dX12_keepsRow_20 rfl (v := 29) rfl (by decide) rfl (vs1 := [some (.ref (ad 236)), some (.int 29)]) rfl ?_
  refine a_goto C dX12_keepsRow_23 (tgt := 2) rfl ?_
  refine a_iload_n C dX12_keepsRow_2 (i := 1) rfl rfl ?_
  refine a_bipush C dX12_keepsRow_3 (v := 29) rfl ?_
  refine a_ic_ge C dX12_keepsRow_5 (tgt := 26) rfl (fun _ => ?_) (fun h => absurd h (by decide))
  exact a_vret Rt dX12_keepsRow_26 (⟨(only.I (only.I (only.I (only.I (only.I (only.I (only.I (only.I (only.I (only.I (only.I (only.I (only.I (only.I (only.I (only.I (only.I (only.I (only.I (only.I (only.I (only.I (only.I (only.I (only.I (only.I (only.I (only.I (only.I only.rf (by decide)) (by decide)) (by decide)) (by decide)) (by decide)) (by decide)) (by decide)) (by decide)) (by decide)) (by decide)) (by decide)) (by decide)) (by decide)) (by decide)) (by decide)) (by decide)) (by decide)) (by decide)) (by decide)) (by decide)) (by decide)) (by decide)) (by decide)) (by decide)) (by decide)) (by decide)) (by decide)) (by decide)) (by decide)), rfl⟩)
theorem dX12_records_0 : decode cX12_records 0 = .ok (.aload_n 0, 1) := by decide +kernel
theorem dX12_records_1 : decode cX12_records 1 = .ok (.getfield 239, 3) := by decide +kernel
theorem dX12_records_4 : decode cX12_records 4 = .ok (.bipush 40, 2) := by decide +kernel
theorem dX12_records_6 : decode cX12_records 6 = .ok (.if_icmp .ne 43, 3) := by decide +kernel
theorem dX12_records_49 : decode cX12_records 49 = .ok (.iconst 0, 1) := by decide +kernel
theorem dX12_records_50 : decode cX12_records 50 = .ok (.istore_n 1, 1) := by decide +kernel
theorem dX12_records_51 : decode cX12_records 51 = .ok (.iload_n 1, 1) := by decide +kernel
theorem dX12_records_52 : decode cX12_records 52 = .ok (.bipush 29, 2) := by decide +kernel
theorem dX12_records_54 : decode cX12_records 54 = .ok (.if_icmp .ge 29, 3) := by decide +kernel
theorem dX12_records_57 : decode cX12_records 57 = .ok (.aload_n 0, 1) := by decide +kernel
theorem dX12_records_58 : decode cX12_records 58 = .ok (.getfield 113, 3) := by decide +kernel
theorem dX12_records_61 : decode cX12_records 61 = .ok (.bipush 29, 2) := by decide +kernel
theorem dX12_records_63 : decode cX12_records 63 = .ok (.aload_n 0, 1) := by decide +kernel
theorem dX12_records_64 : decode cX12_records 64 = .ok (.getfield 239, 3) := by decide +kernel
theorem dX12_records_67 : decode cX12_records 67 = .ok (.imul, 1) := by decide +kernel
theorem dX12_records_68 : decode cX12_records 68 = .ok (.iload_n 1, 1) := by decide +kernel
theorem dX12_records_69 : decode cX12_records 69 = .ok (.iadd, 1) := by decide +kernel
theorem dX12_records_70 : decode cX12_records 70 = .ok (.aload_n 0, 1) := by decide +kernel
theorem dX12_records_71 : decode cX12_records 71 = .ok (.getfield 107, 3) := by decide +kernel
theorem dX12_records_74 : decode cX12_records 74 = .ok (.iload_n 1, 1) := by decide +kernel
theorem dX12_records_75 : decode cX12_records 75 = .ok (.iaload, 1) := by decide +kernel
theorem dX12_records_76 : decode cX12_records 76 = .ok (.iastore, 1) := by decide +kernel
theorem dX12_records_77 : decode cX12_records 77 = .ok (.iinc 1 1, 3) := by decide +kernel
theorem dX12_records_80 : decode cX12_records 80 = .ok (.goto (-29), 3) := by decide +kernel
theorem dX12_records_83 : decode cX12_records 83 = .ok (.aload_n 0, 1) := by decide +kernel
theorem dX12_records_84 : decode cX12_records 84 = .ok (.dup, 1) := by decide +kernel
theorem dX12_records_85 : decode cX12_records 85 = .ok (.getfield 239, 3) := by decide +kernel
theorem dX12_records_88 : decode cX12_records 88 = .ok (.iconst 1, 1) := by decide +kernel
theorem dX12_records_89 : decode cX12_records 89 = .ok (.iadd, 1) := by decide +kernel
theorem dX12_records_90 : decode cX12_records 90 = .ok (.putfield 239, 3) := by decide +kernel
theorem dX12_records_93 : decode cX12_records 93 = .ok (.aload_n 0, 1) := by decide +kernel
theorem dX12_records_94 : decode cX12_records 94 = .ok (.invokevirtual 151, 3) := by decide +kernel
theorem dX12_records_97 : decode cX12_records 97 = .ok (.return_, 1) := by decide +kernel
set_option maxHeartbeats 4000000 in
set_option maxRecDepth 100000 in
theorem m_records {l : Launch} {D : va_G} {ids : List Nat} {ad : Nat → Nat} {ca : Nat → ClassId} {σ : HS} {bt : Nat} (hid : ∀ i, i < 277 → i ∈ ids) (hb : σ.1 267 21 = nI bt) (h_236_54 : σ.1 236 54 = 0) (h_266_0 : σ.1 266 0 = 0) (h_266_1 : σ.1 266 1 = 0) (h_266_2 : σ.1 266 2 = 0) (h_266_3 : σ.1 266 3 = 0) (h_266_4 : σ.1 266 4 = 0) (h_266_5 : σ.1 266 5 = 0) (h_266_6 : σ.1 266 6 = 0) (h_266_7 : σ.1 266 7 = 0) (h_266_8 : σ.1 266 8 = 0) (h_266_9 : σ.1 266 9 = 0) (h_266_10 : σ.1 266 10 = 0) (h_266_11 : σ.1 266 11 = 0) (h_266_12 : σ.1 266 12 = 0) (h_266_13 : σ.1 266 13 = 0) (h_266_14 : σ.1 266 14 = 0) (h_266_15 : σ.1 266 15 = 0) (h_266_16 : σ.1 266 16 = 0) (h_266_17 : σ.1 266 17 = 0) (h_266_18 : σ.1 266 18 = 0) (h_266_19 : σ.1 266 19 = 0) (h_266_20 : σ.1 266 20 = 0) (h_266_21 : σ.1 266 21 = 0) (h_266_22 : σ.1 266 22 = 0) (h_266_23 : σ.1 266 23 = 0) (h_266_24 : σ.1 266 24 = 0) (h_266_25 : σ.1 266 25 = 0) (h_266_26 : σ.1 266 26 = (-2)) (h_266_27 : σ.1 266 27 = 0) (h_266_28 : σ.1 266 28 = (-1)) : Kv l D ids ad ca yX12_records cX12_records 2 1 21 [.ref (ad 236)] σ (fun σ1 => only [266, 268, 236] σ σ1 ∧ σ1.1 266 21 = (nI bt)) := by
  refine Kv.of (by decide) (Nat.le_of_ble_eq_true rfl) 1 (fun Γ C Rt => ?_)
  show AW ids ad ca Γ 0 [some (.ref (ad 236)), none] [] σ
  refine a_aload_n C dX12_records_0 (i := 0) rfl rfl ?_
  refine a_get C fl_RX12_239 (i := 236) kd_236 (hid 236 (by decide)) (v := .int 0) (congrArg (fun z => some (Value.int z)) h_236_54) dX12_records_1 ?_
  refine a_bipush C dX12_records_4 (v := 40) rfl ?_
  refine a_ic_ne C dX12_records_6 (tgt := 49) rfl (fun _ => ?_) (fun h => absurd h (by decide))
  refine a_iconst C dX12_records_49 (v := 0) rfl ?_
  refine a_istore_n C dX12_records_50 (i := 1) rfl (by decide) rfl (vs1 := [some (.ref (ad 236)), some (.int 0)]) rfl ?_
  refine a_iload_n C dX12_records_51 (i := 1) rfl rfl ?_
  refine a_bipush C dX12_records_52 (v := 29) rfl ?_
  refine a_ic_ge C dX12_records_54 (tgt := 83) rfl (fun h => absurd h (by decide)) (fun _ => ?_)
  refine a_aload_n C dX12_records_57 (i := 0) rfl rfl ?_
  refine a_get C fl_RX12_113 (i := 236) kd_236 (hid 236 (by decide)) (v := .ref (ad 268)) rfl dX12_records_58 ?_
  refine a_bipush C dX12_records_61 (v := 29) rfl ?_
  refine a_aload_n C dX12_records_63 (i := 0) rfl rfl ?_
  refine a_get C fl_RX12_239 (i := 236) kd_236 (hid 236 (by decide)) (v := .int 0) (congrArg (fun z => some (Value.int z)) h_236_54) dX12_records_64 ?_
  refine a_imul C dX12_records_67 ?_
  refine a_iload_n C dX12_records_68 (i := 1) rfl rfl ?_
  refine a_iadd C dX12_records_69 ?_
  refine a_aload_n C dX12_records_70 (i := 0) rfl rfl ?_
  refine a_get C fl_RX12_107 (i := 236) kd_236 (hid 236 (by decide)) (v := .ref (ad 266)) rfl dX12_records_71 ?_
  refine a_iload_n C dX12_records_74 (i := 1) rfl rfl ?_
  refine a_iald C (i := 266) 0 kd_266 (hid 266 (by decide)) (by decide) rfl (by rw [al_266]; decide) dX12_records_75 (v := 0) h_266_0 ?_
  refine a_iast C (i := 268) 0 kd_268 (hid 268 (by decide)) (by decide) rfl (by rw [al_268]; decide) dX12_records_76 ?_
  refine a_iinc C dX12_records_77 rfl (v := 1) rfl (by decide) rfl (vs1 := [some (.ref (ad 236)), some (.int 1)]) rfl ?_
  refine a_goto C dX12_records_80 (tgt := 51) rfl ?_
  refine a_iload_n C dX12_records_51 (i := 1) rfl rfl ?_
  refine a_bipush C dX12_records_52 (v := 29) rfl ?_
  refine a_ic_ge C dX12_records_54 (tgt := 83) rfl (fun h => absurd h (by decide)) (fun _ => ?_)
  refine a_aload_n C dX12_records_57 (i := 0) rfl rfl ?_
  refine a_get C fl_RX12_113 (i := 236) kd_236 (hid 236 (by decide)) (v := .ref (ad 268)) rfl dX12_records_58 ?_
  refine a_bipush C dX12_records_61 (v := 29) rfl ?_
  refine a_aload_n C dX12_records_63 (i := 0) rfl rfl ?_
  refine a_get C fl_RX12_239 (i := 236) kd_236 (hid 236 (by decide)) (v := .int 0) (congrArg (fun z => some (Value.int z)) h_236_54) dX12_records_64 ?_
  refine a_imul C dX12_records_67 ?_
  refine a_iload_n C dX12_records_68 (i := 1) rfl rfl ?_
  refine a_iadd C dX12_records_69 ?_
  refine a_aload_n C dX12_records_70 (i := 0) rfl rfl ?_
  refine a_get C fl_RX12_107 (i := 236) kd_236 (hid 236 (by decide)) (v := .ref (ad 266)) rfl dX12_records_71 ?_
  refine a_iload_n C dX12_records_74 (i := 1) rfl rfl ?_
  refine a_iald C (i := 266) 1 kd_266 (hid 266 (by decide)) (by decide) rfl (by rw [al_266]; decide) dX12_records_75 (v := 0) h_266_1 ?_
  refine a_iast C (i := 268) 1 kd_268 (hid 268 (by decide)) (by decide) rfl (by rw [al_268]; decide) dX12_records_76 ?_
  refine a_iinc C dX12_records_77 rfl (v := 2) rfl (by decide) rfl (vs1 := [some (.ref (ad 236)), some (.int 2)]) rfl ?_
  refine a_goto C dX12_records_80 (tgt := 51) rfl ?_
  refine a_iload_n C dX12_records_51 (i := 1) rfl rfl ?_
  refine a_bipush C dX12_records_52 (v := 29) rfl ?_
  refine a_ic_ge C dX12_records_54 (tgt := 83) rfl (fun h => absurd h (by decide)) (fun _ => ?_)
  refine a_aload_n C dX12_records_57 (i := 0) rfl rfl ?_
  refine a_get C fl_RX12_113 (i := 236) kd_236 (hid 236 (by decide)) (v := .ref (ad 268)) rfl dX12_records_58 ?_
  refine a_bipush C dX12_records_61 (v := 29) rfl ?_
  refine a_aload_n C dX12_records_63 (i := 0) rfl rfl ?_
  refine a_get C fl_RX12_239 (i := 236) kd_236 (hid 236 (by decide)) (v := .int 0) (congrArg (fun z => some (Value.int z)) h_236_54) dX12_records_64 ?_
  refine a_imul C dX12_records_67 ?_
  refine a_iload_n C dX12_records_68 (i := 1) rfl rfl ?_
  refine a_iadd C dX12_records_69 ?_
  refine a_aload_n C dX12_records_70 (i := 0) rfl rfl ?_
  refine a_get C fl_RX12_107 (i := 236) kd_236 (hid 236 (by decide)) (v := .ref (ad 266)) rfl dX12_records_71 ?_
  refine a_iload_n C dX12_records_74 (i := 1) rfl rfl ?_
  refine a_iald C (i := 266) 2 kd_266 (hid 266 (by decide)) (by decide) rfl (by rw [al_266]; decide) dX12_records_75 (v := 0) h_266_2 ?_
  refine a_iast C (i := 268) 2 kd_268 (hid 268 (by decide)) (by decide) rfl (by rw [al_268]; decide) dX12_records_76 ?_
  refine a_iinc C dX12_records_77 rfl (v := 3) rfl (by decide) rfl (vs1 := [some (.ref (ad 236)), some (.int 3)]) rfl ?_
  refine a_goto C dX12_records_80 (tgt := 51) rfl ?_
  refine a_iload_n C dX12_records_51 (i := 1) rfl rfl ?_
  refine a_bipush C dX12_records_52 (v := 29) rfl ?_
  refine a_ic_ge C dX12_records_54 (tgt := 83) rfl (fun h => absurd h (by decide)) (fun _ => ?_)
  refine a_aload_n C dX12_records_57 (i := 0) rfl rfl ?_
  refine a_get C fl_RX12_113 (i := 236) kd_236 (hid 236 (by decide)) (v := .ref (ad 268)) rfl dX12_records_58 ?_
  refine a_bipush C dX12_records_61 (v := 29) rfl ?_
  refine a_aload_n C dX12_records_63 (i := 0) rfl rfl ?_
  refine a_get C fl_RX12_239 (i := 236) kd_236 (hid 236 (by decide)) (v := .int 0) (congrArg (fun z => some (Value.int z)) h_236_54) dX12_records_64 ?_
  refine a_imul C dX12_records_67 ?_
  refine a_iload_n C dX12_records_68 (i := 1) rfl rfl ?_
  refine a_iadd C dX12_records_69 ?_
  refine a_aload_n C dX12_records_70 (i := 0) rfl rfl ?_
  refine a_get C fl_RX12_107 (i := 236) kd_236 (hid 236 (by decide)) (v := .ref (ad 266)) rfl dX12_records_71 ?_
  refine a_iload_n C dX12_records_74 (i := 1) rfl rfl ?_
  refine a_iald C (i := 266) 3 kd_266 (hid 266 (by decide)) (by decide) rfl (by rw [al_266]; decide) dX12_records_75 (v := 0) h_266_3 ?_
  refine a_iast C (i := 268) 3 kd_268 (hid 268 (by decide)) (by decide) rfl (by rw [al_268]; decide) dX12_records_76 ?_
  refine a_iinc C dX12_records_77 rfl (v := 4) rfl (by decide) rfl (vs1 := [some (.ref (ad 236)), some (.int 4)]) rfl ?_
  refine a_goto C dX12_records_80 (tgt := 51) rfl ?_
  refine a_iload_n C dX12_records_51 (i := 1) rfl rfl ?_
  refine a_bipush C dX12_records_52 (v := 29) rfl ?_
  refine a_ic_ge C dX12_records_54 (tgt := 83) rfl (fun h => absurd h (by decide)) (fun _ => ?_)
  refine a_aload_n C dX12_records_57 (i := 0) rfl rfl ?_
  refine a_get C fl_RX12_113 (i := 236) kd_236 (hid 236 (by decide)) (v := .ref (ad 268)) rfl dX12_records_58 ?_
  refine a_bipush C dX12_records_61 (v := 29) rfl ?_
  refine a_aload_n C dX12_records_63 (i := 0) rfl rfl ?_
  refine a_get C fl_RX12_239 (i := 236) kd_236 (hid 236 (by decide)) (v := .int 0) (congrArg (fun z => some (Value.int z)) h_236_54) dX12_records_64 ?_
  refine a_imul C dX12_records_67 ?_
  refine a_iload_n C dX12_records_68 (i := 1) rfl rfl ?_
  refine a_iadd C dX12_records_69 ?_
  refine a_aload_n C dX12_records_70 (i := 0) rfl rfl ?_
  refine a_get C fl_RX12_107 (i := 236) kd_236 (hid 236 (by decide)) (v := .ref (ad 266)) rfl dX12_records_71 ?_
  refine a_iload_n C dX12_records_74 (i := 1) rfl rfl ?_
  refine a_iald C (i := 266) 4 kd_266 (hid 266 (by decide)) (by decide) rfl (by rw [al_266]; decide) dX12_records_75 (v := 0) h_266_4 ?_
  refine a_iast C (i := 268) 4 kd_268 (hid 268 (by decide)) (by decide) rfl (by rw [al_268]; decide) dX12_records_76 ?_
  refine a_iinc C dX12_records_77 rfl (v := 5) rfl (by decide) rfl (vs1 := [some (.ref (ad 236)), some (.int 5)]) rfl ?_
  refine a_goto C dX12_records_80 (tgt := 51) rfl ?_
  refine a_iload_n C dX12_records_51 (i := 1) rfl rfl ?_
  refine a_bipush C dX12_records_52 (v := 29) rfl ?_
  refine a_ic_ge C dX12_records_54 (tgt := 83) rfl (fun h => absurd h (by decide)) (fun _ => ?_)
  refine a_aload_n C dX12_records_57 (i := 0) rfl rfl ?_
  refine a_get C fl_RX12_113 (i := 236) kd_236 (hid 236 (by decide)) (v := .ref (ad 268)) rfl dX12_records_58 ?_
  refine a_bipush C dX12_records_61 (v := 29) rfl ?_
  refine a_aload_n C dX12_records_63 (i := 0) rfl rfl ?_
  refine a_get C fl_RX12_239 (i := 236) kd_236 (hid 236 (by decide)) (v := .int 0) (congrArg (fun z => some (Value.int z)) h_236_54) dX12_records_64 ?_
  refine a_imul C dX12_records_67 ?_
  refine a_iload_n C dX12_records_68 (i := 1) rfl rfl ?_
  refine a_iadd C dX12_records_69 ?_
  refine a_aload_n C dX12_records_70 (i := 0) rfl rfl ?_
  refine a_get C fl_RX12_107 (i := 236) kd_236 (hid 236 (by decide)) (v := .ref (ad 266)) rfl dX12_records_71 ?_
  refine a_iload_n C dX12_records_74 (i := 1) rfl rfl ?_
  refine a_iald C (i := 266) 5 kd_266 (hid 266 (by decide)) (by decide) rfl (by rw [al_266]; decide) dX12_records_75 (v := 0) h_266_5 ?_
  refine a_iast C (i := 268) 5 kd_268 (hid 268 (by decide)) (by decide) rfl (by rw [al_268]; decide) dX12_records_76 ?_
  refine a_iinc C dX12_records_77 rfl (v := 6) rfl (by decide) rfl (vs1 := [some (.ref (ad 236)), some (.int 6)]) rfl ?_
  refine a_goto C dX12_records_80 (tgt := 51) rfl ?_
  refine a_iload_n C dX12_records_51 (i := 1) rfl rfl ?_
  refine a_bipush C dX12_records_52 (v := 29) rfl ?_
  refine a_ic_ge C dX12_records_54 (tgt := 83) rfl (fun h => absurd h (by decide)) (fun _ => ?_)
  refine a_aload_n C dX12_records_57 (i := 0) rfl rfl ?_
  refine a_get C fl_RX12_113 (i := 236) kd_236 (hid 236 (by decide)) (v := .ref (ad 268)) rfl dX12_records_58 ?_
  refine a_bipush C dX12_records_61 (v := 29) rfl ?_
  refine a_aload_n C dX12_records_63 (i := 0) rfl rfl ?_
  refine a_get C fl_RX12_239 (i := 236) kd_236 (hid 236 (by decide)) (v := .int 0) (congrArg (fun z => some (Value.int z)) h_236_54) dX12_records_64 ?_
  refine a_imul C dX12_records_67 ?_
  refine a_iload_n C dX12_records_68 (i := 1) rfl rfl ?_
  refine a_iadd C dX12_records_69 ?_
  refine a_aload_n C dX12_records_70 (i := 0) rfl rfl ?_
  refine a_get C fl_RX12_107 (i := 236) kd_236 (hid 236 (by decide)) (v := .ref (ad 266)) rfl dX12_records_71 ?_
  refine a_iload_n C dX12_records_74 (i := 1) rfl rfl ?_
  refine a_iald C (i := 266) 6 kd_266 (hid 266 (by decide)) (by decide) rfl (by rw [al_266]; decide) dX12_records_75 (v := 0) h_266_6 ?_
  refine a_iast C (i := 268) 6 kd_268 (hid 268 (by decide)) (by decide) rfl (by rw [al_268]; decide) dX12_records_76 ?_
  refine a_iinc C dX12_records_77 rfl (v := 7) rfl (by decide) rfl (vs1 := [some (.ref (ad 236)), some (.int 7)]) rfl ?_
  refine a_goto C dX12_records_80 (tgt := 51) rfl ?_
  refine a_iload_n C dX12_records_51 (i := 1) rfl rfl ?_
  refine a_bipush C dX12_records_52 (v := 29) rfl ?_
  refine a_ic_ge C dX12_records_54 (tgt := 83) rfl (fun h => absurd h (by decide)) (fun _ => ?_)
  refine a_aload_n C dX12_records_57 (i := 0) rfl rfl ?_
  refine a_get C fl_RX12_113 (i := 236) kd_236 (hid 236 (by decide)) (v := .ref (ad 268)) rfl dX12_records_58 ?_
  refine a_bipush C dX12_records_61 (v := 29) rfl ?_
  refine a_aload_n C dX12_records_63 (i := 0) rfl rfl ?_
  refine a_get C fl_RX12_239 (i := 236) kd_236 (hid 236 (by decide)) (v := .int 0) (congrArg (fun z => some (Value.int z)) h_236_54) dX12_records_64 ?_
  refine a_imul C dX12_records_67 ?_
  refine a_iload_n C dX12_records_68 (i := 1) rfl rfl ?_
  refine a_iadd C dX12_records_69 ?_
  refine a_aload_n C dX12_records_70 (i := 0) rfl rfl ?_
  refine a_get C fl_RX12_107 (i := 236) kd_236 (hid 236 (by decide)) (v := .ref (ad 266)) rfl dX12_records_71 ?_
  refine a_iload_n C dX12_records_74 (i := 1) rfl rfl ?_
  refine a_iald C (i := 266) 7 kd_266 (hid 266 (by decide)) (by decide) rfl (by rw [al_266]; decide) dX12_records_75 (v := 0) h_266_7 ?_
  refine a_iast C (i := 268) 7 kd_268 (hid 268 (by decide)) (by decide) rfl (by rw [al_268]; decide) dX12_records_76 ?_
  refine a_iinc C dX12_records_77 rfl (v := 8) rfl (by decide) rfl (vs1 := [some (.ref (ad 236)), some (.int 8)]) rfl ?_
  refine a_goto C dX12_records_80 (tgt := 51) rfl ?_
  refine a_iload_n C dX12_records_51 (i := 1) rfl rfl ?_
  refine a_bipush C dX12_records_52 (v := 29) rfl ?_
  refine a_ic_ge C dX12_records_54 (tgt := 83) rfl (fun h => absurd h (by decide)) (fun _ => ?_)
  refine a_aload_n C dX12_records_57 (i := 0) rfl rfl ?_
  refine a_get C fl_RX12_113 (i := 236) kd_236 (hid 236 (by decide)) (v := .ref (ad 268)) rfl dX12_records_58 ?_
  refine a_bipush C dX12_records_61 (v := 29) rfl ?_
  refine a_aload_n C dX12_records_63 (i := 0) rfl rfl ?_
  refine a_get C fl_RX12_239 (i := 236) kd_236 (hid 236 (by decide)) (v := .int 0) (congrArg (fun z => some (Value.int z)) h_236_54) dX12_records_64 ?_
  refine a_imul C dX12_records_67 ?_
  refine a_iload_n C dX12_records_68 (i := 1) rfl rfl ?_
  refine a_iadd C dX12_records_69 ?_
  refine a_aload_n C dX12_records_70 (i := 0) rfl rfl ?_
  refine a_get C fl_RX12_107 (i := 236) kd_236 (hid 236 (by decide)) (v := .ref (ad 266)) rfl dX12_records_71 ?_
  refine a_iload_n C dX12_records_74 (i := 1) rfl rfl ?_
  refine a_iald C (i := 266) 8 kd_266 (hid 266 (by decide)) (by decide) rfl (by rw [al_266]; decide) dX12_records_75 (v := 0) h_266_8 ?_
  refine a_iast C (i := 268) 8 kd_268 (hid 268 (by decide)) (by decide) rfl (by rw [al_268]; decide) dX12_records_76 ?_
  refine a_iinc C dX12_records_77 rfl (v := 9) rfl (by decide) rfl (vs1 := [some (.ref (ad 236)), some (.int 9)]) rfl ?_
  refine a_goto C dX12_records_80 (tgt := 51) rfl ?_
  refine a_iload_n C dX12_records_51 (i := 1) rfl rfl ?_
  refine a_bipush C dX12_records_52 (v := 29) rfl ?_
  refine a_ic_ge C dX12_records_54 (tgt := 83) rfl (fun h => absurd h (by decide)) (fun _ => ?_)
  refine a_aload_n C dX12_records_57 (i := 0) rfl rfl ?_
  refine a_get C fl_RX12_113 (i := 236) kd_236 (hid 236 (by decide)) (v := .ref (ad 268)) rfl dX12_records_58 ?_
  refine a_bipush C dX12_records_61 (v := 29) rfl ?_
  refine a_aload_n C dX12_records_63 (i := 0) rfl rfl ?_
  refine a_get C fl_RX12_239 (i := 236) kd_236 (hid 236 (by decide)) (v := .int 0) (congrArg (fun z => some (Value.int z)) h_236_54) dX12_records_64 ?_
  refine a_imul C dX12_records_67 ?_
  refine a_iload_n C dX12_records_68 (i := 1) rfl rfl ?_
  refine a_iadd C dX12_records_69 ?_
  refine a_aload_n C dX12_records_70 (i := 0) rfl rfl ?_
  refine a_get C fl_RX12_107 (i := 236) kd_236 (hid 236 (by decide)) (v := .ref (ad 266)) rfl dX12_records_71 ?_
  refine a_iload_n C dX12_records_74 (i := 1) rfl rfl ?_
  refine a_iald C (i := 266) 9 kd_266 (hid 266 (by decide)) (by decide) rfl (by rw [al_266]; decide) dX12_records_75 (v := 0) h_266_9 ?_
  refine a_iast C (i := 268) 9 kd_268 (hid 268 (by decide)) (by decide) rfl (by rw [al_268]; decide) dX12_records_76 ?_
  refine a_iinc C dX12_records_77 rfl (v := 10) rfl (by decide) rfl (vs1 := [some (.ref (ad 236)), some (.int 10)]) rfl ?_
  refine a_goto C dX12_records_80 (tgt := 51) rfl ?_
  refine a_iload_n C dX12_records_51 (i := 1) rfl rfl ?_
  refine a_bipush C dX12_records_52 (v := 29) rfl ?_
  refine a_ic_ge C dX12_records_54 (tgt := 83) rfl (fun h => absurd h (by decide)) (fun _ => ?_)
  refine a_aload_n C dX12_records_57 (i := 0) rfl rfl ?_
  refine a_get C fl_RX12_113 (i := 236) kd_236 (hid 236 (by decide)) (v := .ref (ad 268)) rfl dX12_records_58 ?_
  refine a_bipush C dX12_records_61 (v := 29) rfl ?_
  refine a_aload_n C dX12_records_63 (i := 0) rfl rfl ?_
  refine a_get C fl_RX12_239 (i := 236) kd_236 (hid 236 (by decide)) (v := .int 0) (congrArg (fun z => some (Value.int z)) h_236_54) dX12_records_64 ?_
  refine a_imul C dX12_records_67 ?_
  refine a_iload_n C dX12_records_68 (i := 1) rfl rfl ?_
  refine a_iadd C dX12_records_69 ?_
  refine a_aload_n C dX12_records_70 (i := 0) rfl rfl ?_
  refine a_get C fl_RX12_107 (i := 236) kd_236 (hid 236 (by decide)) (v := .ref (ad 266)) rfl dX12_records_71 ?_
  refine a_iload_n C dX12_records_74 (i := 1) rfl rfl ?_
  refine a_iald C (i := 266) 10 kd_266 (hid 266 (by decide)) (by decide) rfl (by rw [al_266]; decide) dX12_records_75 (v := 0) h_266_10 ?_
  refine a_iast C (i := 268) 10 kd_268 (hid 268 (by decide)) (by decide) rfl (by rw [al_268]; decide) dX12_records_76 ?_
  refine a_iinc C dX12_records_77 rfl (v := 11) rfl (by decide) rfl (vs1 := [some (.ref (ad 236)), some (.int 11)]) rfl ?_
  refine a_goto C dX12_records_80 (tgt := 51) rfl ?_
  refine a_iload_n C dX12_records_51 (i := 1) rfl rfl ?_
  refine a_bipush C dX12_records_52 (v := 29) rfl ?_
  refine a_ic_ge C dX12_records_54 (tgt := 83) rfl (fun h => absurd h (by decide)) (fun _ => ?_)
  refine a_aload_n C dX12_records_57 (i := 0) rfl rfl ?_
  refine a_get C fl_RX12_113 (i := 236) kd_236 (hid 236 (by decide)) (v := .ref (ad 268)) rfl dX12_records_58 ?_
  refine a_bipush C dX12_records_61 (v := 29) rfl ?_
  refine a_aload_n C dX12_records_63 (i := 0) rfl rfl ?_
  refine a_get C fl_RX12_239 (i := 236) kd_236 (hid 236 (by decide)) (v := .int 0) (congrArg (fun z => some (Value.int z)) h_236_54) dX12_records_64 ?_
  refine a_imul C dX12_records_67 ?_
  refine a_iload_n C dX12_records_68 (i := 1) rfl rfl ?_
  refine a_iadd C dX12_records_69 ?_
  refine a_aload_n C dX12_records_70 (i := 0) rfl rfl ?_
  refine a_get C fl_RX12_107 (i := 236) kd_236 (hid 236 (by decide)) (v := .ref (ad 266)) rfl dX12_records_71 ?_
  refine a_iload_n C dX12_records_74 (i := 1) rfl rfl ?_
  refine a_iald C (i := 266) 11 kd_266 (hid 266 (by decide)) (by decide) rfl (by rw [al_266]; decide) dX12_records_75 (v := 0) h_266_11 ?_
  refine a_iast C (i := 268) 11 kd_268 (hid 268 (by decide)) (by decide) rfl (by rw [al_268]; decide) dX12_records_76 ?_
  refine a_iinc C dX12_records_77 rfl (v := 12) rfl (by decide) rfl (vs1 := [some (.ref (ad 236)), some (.int 12)]) rfl ?_
  refine a_goto C dX12_records_80 (tgt := 51) rfl ?_
  refine a_iload_n C dX12_records_51 (i := 1) rfl rfl ?_
  refine a_bipush C dX12_records_52 (v := 29) rfl ?_
  refine a_ic_ge C dX12_records_54 (tgt := 83) rfl (fun h => absurd h (by decide)) (fun _ => ?_)
  refine a_aload_n C dX12_records_57 (i := 0) rfl rfl ?_
  refine a_get C fl_RX12_113 (i := 236) kd_236 (hid 236 (by decide)) (v := .ref (ad 268)) rfl dX12_records_58 ?_
  refine a_bipush C dX12_records_61 (v := 29) rfl ?_
  refine a_aload_n C dX12_records_63 (i := 0) rfl rfl ?_
  refine a_get C fl_RX12_239 (i := 236) kd_236 (hid 236 (by decide)) (v := .int 0) (congrArg (fun z => some (Value.int z)) h_236_54) dX12_records_64 ?_
  refine a_imul C dX12_records_67 ?_
  refine a_iload_n C dX12_records_68 (i := 1) rfl rfl ?_
  refine a_iadd C dX12_records_69 ?_
  refine a_aload_n C dX12_records_70 (i := 0) rfl rfl ?_
  refine a_get C fl_RX12_107 (i := 236) kd_236 (hid 236 (by decide)) (v := .ref (ad 266)) rfl dX12_records_71 ?_
  refine a_iload_n C dX12_records_74 (i := 1) rfl rfl ?_
  refine a_iald C (i := 266) 12 kd_266 (hid 266 (by decide)) (by decide) rfl (by rw [al_266]; decide) dX12_records_75 (v := 0) h_266_12 ?_
  refine a_iast C (i := 268) 12 kd_268 (hid 268 (by decide)) (by decide) rfl (by rw [al_268]; decide) dX12_records_76 ?_
  refine a_iinc C dX12_records_77 rfl (v := 13) rfl (by decide) rfl (vs1 := [some (.ref (ad 236)), some (.int 13)]) rfl ?_
  refine a_goto C dX12_records_80 (tgt := 51) rfl ?_
  refine a_iload_n C dX12_records_51 (i := 1) rfl rfl ?_
  refine a_bipush C dX12_records_52 (v := 29) rfl ?_
  refine a_ic_ge C dX12_records_54 (tgt := 83) rfl (fun h => absurd h (by decide)) (fun _ => ?_)
  refine a_aload_n C dX12_records_57 (i := 0) rfl rfl ?_
  refine a_get C fl_RX12_113 (i := 236) kd_236 (hid 236 (by decide)) (v := .ref (ad 268)) rfl dX12_records_58 ?_
  refine a_bipush C dX12_records_61 (v := 29) rfl ?_
  refine a_aload_n C dX12_records_63 (i := 0) rfl rfl ?_
  refine a_get C fl_RX12_239 (i := 236) kd_236 (hid 236 (by decide)) (v := .int 0) (congrArg (fun z => some (Value.int z)) h_236_54) dX12_records_64 ?_
  refine a_imul C dX12_records_67 ?_
  refine a_iload_n C dX12_records_68 (i := 1) rfl rfl ?_
  refine a_iadd C dX12_records_69 ?_
  refine a_aload_n C dX12_records_70 (i := 0) rfl rfl ?_
  refine a_get C fl_RX12_107 (i := 236) kd_236 (hid 236 (by decide)) (v := .ref (ad 266)) rfl dX12_records_71 ?_
  refine a_iload_n C dX12_records_74 (i := 1) rfl rfl ?_
  refine a_iald C (i := 266) 13 kd_266 (hid 266 (by decide)) (by decide) rfl (by rw [al_266]; decide) dX12_records_75 (v := 0) h_266_13 ?_
  refine a_iast C (i := 268) 13 kd_268 (hid 268 (by decide)) (by decide) rfl (by rw [al_268]; decide) dX12_records_76 ?_
  refine a_iinc C dX12_records_77 rfl (v := 14) rfl (by decide) rfl (vs1 := [some (.ref (ad 236)), some (.int 14)]) rfl ?_
  refine a_goto C dX12_records_80 (tgt := 51) rfl ?_
  refine a_iload_n C dX12_records_51 (i := 1) rfl rfl ?_
  refine a_bipush C dX12_records_52 (v := 29) rfl ?_
  refine a_ic_ge C dX12_records_54 (tgt := 83) rfl (fun h => absurd h (by decide)) (fun _ => ?_)
  refine a_aload_n C dX12_records_57 (i := 0) rfl rfl ?_
  refine a_get C fl_RX12_113 (i := 236) kd_236 (hid 236 (by decide)) (v := .ref (ad 268)) rfl dX12_records_58 ?_
  refine a_bipush C dX12_records_61 (v := 29) rfl ?_
  refine a_aload_n C dX12_records_63 (i := 0) rfl rfl ?_
  refine a_get C fl_RX12_239 (i := 236) kd_236 (hid 236 (by decide)) (v := .int 0) (congrArg (fun z => some (Value.int z)) h_236_54) dX12_records_64 ?_
  refine a_imul C dX12_records_67 ?_
  refine a_iload_n C dX12_records_68 (i := 1) rfl rfl ?_
  refine a_iadd C dX12_records_69 ?_
  refine a_aload_n C dX12_records_70 (i := 0) rfl rfl ?_
  refine a_get C fl_RX12_107 (i := 236) kd_236 (hid 236 (by decide)) (v := .ref (ad 266)) rfl dX12_records_71 ?_
  refine a_iload_n C dX12_records_74 (i := 1) rfl rfl ?_
  refine a_iald C (i := 266) 14 kd_266 (hid 266 (by decide)) (by decide) rfl (by rw [al_266]; decide) dX12_records_75 (v := 0) h_266_14 ?_
  refine a_iast C (i := 268) 14 kd_268 (hid 268 (by decide)) (by decide) rfl (by rw [al_268]; decide) dX12_records_76 ?_
  refine a_iinc C dX12_records_77 rfl (v := 15) rfl (by decide) rfl (vs1 := [some (.ref (ad 236)), some (.int 15)]) rfl ?_
  refine a_goto C dX12_records_80 (tgt := 51) rfl ?_
  refine a_iload_n C dX12_records_51 (i := 1) rfl rfl ?_
  refine a_bipush C dX12_records_52 (v := 29) rfl ?_
  refine a_ic_ge C dX12_records_54 (tgt := 83) rfl (fun h => absurd h (by decide)) (fun _ => ?_)
  refine a_aload_n C dX12_records_57 (i := 0) rfl rfl ?_
  refine a_get C fl_RX12_113 (i := 236) kd_236 (hid 236 (by decide)) (v := .ref (ad 268)) rfl dX12_records_58 ?_
  refine a_bipush C dX12_records_61 (v := 29) rfl ?_
  refine a_aload_n C dX12_records_63 (i := 0) rfl rfl ?_
  refine a_get C fl_RX12_239 (i := 236) kd_236 (hid 236 (by decide)) (v := .int 0) (congrArg (fun z => some (Value.int z)) h_236_54) dX12_records_64 ?_
  refine a_imul C dX12_records_67 ?_
  refine a_iload_n C dX12_records_68 (i := 1) rfl rfl ?_
  refine a_iadd C dX12_records_69 ?_
  refine a_aload_n C dX12_records_70 (i := 0) rfl rfl ?_
  refine a_get C fl_RX12_107 (i := 236) kd_236 (hid 236 (by decide)) (v := .ref (ad 266)) rfl dX12_records_71 ?_
  refine a_iload_n C dX12_records_74 (i := 1) rfl rfl ?_
  refine a_iald C (i := 266) 15 kd_266 (hid 266 (by decide)) (by decide) rfl (by rw [al_266]; decide) dX12_records_75 (v := 0) h_266_15 ?_
  refine a_iast C (i := 268) 15 kd_268 (hid 268 (by decide)) (by decide) rfl (by rw [al_268]; decide) dX12_records_76 ?_
  refine a_iinc C dX12_records_77 rfl (v := 16) rfl (by decide) rfl (vs1 := [some (.ref (ad 236)), some (.int 16)]) rfl ?_
  refine a_goto C dX12_records_80 (tgt := 51) rfl ?_
  refine a_iload_n C dX12_records_51 (i := 1) rfl rfl ?_
  refine a_bipush C dX12_records_52 (v := 29) rfl ?_
  refine a_ic_ge C dX12_records_54 (tgt := 83) rfl (fun h => absurd h (by decide)) (fun _ => ?_)
  refine a_aload_n C dX12_records_57 (i := 0) rfl rfl ?_
  refine a_get C fl_RX12_113 (i := 236) kd_236 (hid 236 (by decide)) (v := .ref (ad 268)) rfl dX12_records_58 ?_
  refine a_bipush C dX12_records_61 (v := 29) rfl ?_
  refine a_aload_n C dX12_records_63 (i := 0) rfl rfl ?_
  refine a_get C fl_RX12_239 (i := 236) kd_236 (hid 236 (by decide)) (v := .int 0) (congrArg (fun z => some (Value.int z)) h_236_54) dX12_records_64 ?_
  refine a_imul C dX12_records_67 ?_
  refine a_iload_n C dX12_records_68 (i := 1) rfl rfl ?_
  refine a_iadd C dX12_records_69 ?_
  refine a_aload_n C dX12_records_70 (i := 0) rfl rfl ?_
  refine a_get C fl_RX12_107 (i := 236) kd_236 (hid 236 (by decide)) (v := .ref (ad 266)) rfl dX12_records_71 ?_
  refine a_iload_n C dX12_records_74 (i := 1) rfl rfl ?_
  refine a_iald C (i := 266) 16 kd_266 (hid 266 (by decide)) (by decide) rfl (by rw [al_266]; decide) dX12_records_75 (v := 0) h_266_16 ?_
  refine a_iast C (i := 268) 16 kd_268 (hid 268 (by decide)) (by decide) rfl (by rw [al_268]; decide) dX12_records_76 ?_
  refine a_iinc C dX12_records_77 rfl (v := 17) rfl (by decide) rfl (vs1 := [some (.ref (ad 236)), some (.int 17)]) rfl ?_
  refine a_goto C dX12_records_80 (tgt := 51) rfl ?_
  refine a_iload_n C dX12_records_51 (i := 1) rfl rfl ?_
  refine a_bipush C dX12_records_52 (v := 29) rfl ?_
  refine a_ic_ge C dX12_records_54 (tgt := 83) rfl (fun h => absurd h (by decide)) (fun _ => ?_)
  refine a_aload_n C dX12_records_57 (i := 0) rfl rfl ?_
  refine a_get C fl_RX12_113 (i := 236) kd_236 (hid 236 (by decide)) (v := .ref (ad 268)) rfl dX12_records_58 ?_
  refine a_bipush C dX12_records_61 (v := 29) rfl ?_
  refine a_aload_n C dX12_records_63 (i := 0) rfl rfl ?_
  refine a_get C fl_RX12_239 (i := 236) kd_236 (hid 236 (by decide)) (v := .int 0) (congrArg (fun z => some (Value.int z)) h_236_54) dX12_records_64 ?_
  refine a_imul C dX12_records_67 ?_
  refine a_iload_n C dX12_records_68 (i := 1) rfl rfl ?_
  refine a_iadd C dX12_records_69 ?_
  refine a_aload_n C dX12_records_70 (i := 0) rfl rfl ?_
  refine a_get C fl_RX12_107 (i := 236) kd_236 (hid 236 (by decide)) (v := .ref (ad 266)) rfl dX12_records_71 ?_
  refine a_iload_n C dX12_records_74 (i := 1) rfl rfl ?_
  refine a_iald C (i := 266) 17 kd_266 (hid 266 (by decide)) (by decide) rfl (by rw [al_266]; decide) dX12_records_75 (v := 0) h_266_17 ?_
  refine a_iast C (i := 268) 17 kd_268 (hid 268 (by decide)) (by decide) rfl (by rw [al_268]; decide) dX12_records_76 ?_
  refine a_iinc C dX12_records_77 rfl (v := 18) rfl (by decide) rfl (vs1 := [some (.ref (ad 236)), some (.int 18)]) rfl ?_
  refine a_goto C dX12_records_80 (tgt := 51) rfl ?_
  refine a_iload_n C dX12_records_51 (i := 1) rfl rfl ?_
  refine a_bipush C dX12_records_52 (v := 29) rfl ?_
  refine a_ic_ge C dX12_records_54 (tgt := 83) rfl (fun h => absurd h (by decide)) (fun _ => ?_)
  refine a_aload_n C dX12_records_57 (i := 0) rfl rfl ?_
  refine a_get C fl_RX12_113 (i := 236) kd_236 (hid 236 (by decide)) (v := .ref (ad 268)) rfl dX12_records_58 ?_
  refine a_bipush C dX12_records_61 (v := 29) rfl ?_
  refine a_aload_n C dX12_records_63 (i := 0) rfl rfl ?_
  refine a_get C fl_RX12_239 (i := 236) kd_236 (hid 236 (by decide)) (v := .int 0) (congrArg (fun z => some (Value.int z)) h_236_54) dX12_records_64 ?_
  refine a_imul C dX12_records_67 ?_
  refine a_iload_n C dX12_records_68 (i := 1) rfl rfl ?_
  refine a_iadd C dX12_records_69 ?_
  refine a_aload_n C dX12_records_70 (i := 0) rfl rfl ?_
  refine a_get C fl_RX12_107 (i := 236) kd_236 (hid 236 (by decide)) (v := .ref (ad 266)) rfl dX12_records_71 ?_
  refine a_iload_n C dX12_records_74 (i := 1) rfl rfl ?_
  refine a_iald C (i := 266) 18 kd_266 (hid 266 (by decide)) (by decide) rfl (by rw [al_266]; decide) dX12_records_75 (v := 0) h_266_18 ?_
  refine a_iast C (i := 268) 18 kd_268 (hid 268 (by decide)) (by decide) rfl (by rw [al_268]; decide) dX12_records_76 ?_
  refine a_iinc C dX12_records_77 rfl (v := 19) rfl (by decide) rfl (vs1 := [some (.ref (ad 236)), some (.int 19)]) rfl ?_
  refine a_goto C dX12_records_80 (tgt := 51) rfl ?_
  refine a_iload_n C dX12_records_51 (i := 1) rfl rfl ?_
  refine a_bipush C dX12_records_52 (v := 29) rfl ?_
  refine a_ic_ge C dX12_records_54 (tgt := 83) rfl (fun h => absurd h (by decide)) (fun _ => ?_)
  refine a_aload_n C dX12_records_57 (i := 0) rfl rfl ?_
  refine a_get C fl_RX12_113 (i := 236) kd_236 (hid 236 (by decide)) (v := .ref (ad 268)) rfl dX12_records_58 ?_
  refine a_bipush C dX12_records_61 (v := 29) rfl ?_
  refine a_aload_n C dX12_records_63 (i := 0) rfl rfl ?_
  refine a_get C fl_RX12_239 (i := 236) kd_236 (hid 236 (by decide)) (v := .int 0) (congrArg (fun z => some (Value.int z)) h_236_54) dX12_records_64 ?_
  refine a_imul C dX12_records_67 ?_
  refine a_iload_n C dX12_records_68 (i := 1) rfl rfl ?_
  refine a_iadd C dX12_records_69 ?_
  refine a_aload_n C dX12_records_70 (i := 0) rfl rfl ?_
  refine a_get C fl_RX12_107 (i := 236) kd_236 (hid 236 (by decide)) (v := .ref (ad 266)) rfl dX12_records_71 ?_
  refine a_iload_n C dX12_records_74 (i := 1) rfl rfl ?_
  refine a_iald C (i := 266) 19 kd_266 (hid 266 (by decide)) (by decide) rfl (by rw [al_266]; decide) dX12_records_75 (v := 0) h_266_19 ?_
  refine a_iast C (i := 268) 19 kd_268 (hid 268 (by decide)) (by decide) rfl (by rw [al_268]; decide) dX12_records_76 ?_
  refine a_iinc C dX12_records_77 rfl (v := 20) rfl (by decide) rfl (vs1 := [some (.ref (ad 236)), some (.int 20)]) rfl ?_
  refine a_goto C dX12_records_80 (tgt := 51) rfl ?_
  refine a_iload_n C dX12_records_51 (i := 1) rfl rfl ?_
  refine a_bipush C dX12_records_52 (v := 29) rfl ?_
  refine a_ic_ge C dX12_records_54 (tgt := 83) rfl (fun h => absurd h (by decide)) (fun _ => ?_)
  refine a_aload_n C dX12_records_57 (i := 0) rfl rfl ?_
  refine a_get C fl_RX12_113 (i := 236) kd_236 (hid 236 (by decide)) (v := .ref (ad 268)) rfl dX12_records_58 ?_
  refine a_bipush C dX12_records_61 (v := 29) rfl ?_
  refine a_aload_n C dX12_records_63 (i := 0) rfl rfl ?_
  refine a_get C fl_RX12_239 (i := 236) kd_236 (hid 236 (by decide)) (v := .int 0) (congrArg (fun z => some (Value.int z)) h_236_54) dX12_records_64 ?_
  refine a_imul C dX12_records_67 ?_
  refine a_iload_n C dX12_records_68 (i := 1) rfl rfl ?_
  refine a_iadd C dX12_records_69 ?_
  refine a_aload_n C dX12_records_70 (i := 0) rfl rfl ?_
  refine a_get C fl_RX12_107 (i := 236) kd_236 (hid 236 (by decide)) (v := .ref (ad 266)) rfl dX12_records_71 ?_
  refine a_iload_n C dX12_records_74 (i := 1) rfl rfl ?_
  refine a_iald C (i := 266) 20 kd_266 (hid 266 (by decide)) (by decide) rfl (by rw [al_266]; decide) dX12_records_75 (v := 0) h_266_20 ?_
  refine a_iast C (i := 268) 20 kd_268 (hid 268 (by decide)) (by decide) rfl (by rw [al_268]; decide) dX12_records_76 ?_
  refine a_iinc C dX12_records_77 rfl (v := 21) rfl (by decide) rfl (vs1 := [some (.ref (ad 236)), some (.int 21)]) rfl ?_
  refine a_goto C dX12_records_80 (tgt := 51) rfl ?_
  refine a_iload_n C dX12_records_51 (i := 1) rfl rfl ?_
  refine a_bipush C dX12_records_52 (v := 29) rfl ?_
  refine a_ic_ge C dX12_records_54 (tgt := 83) rfl (fun h => absurd h (by decide)) (fun _ => ?_)
  refine a_aload_n C dX12_records_57 (i := 0) rfl rfl ?_
  refine a_get C fl_RX12_113 (i := 236) kd_236 (hid 236 (by decide)) (v := .ref (ad 268)) rfl dX12_records_58 ?_
  refine a_bipush C dX12_records_61 (v := 29) rfl ?_
  refine a_aload_n C dX12_records_63 (i := 0) rfl rfl ?_
  refine a_get C fl_RX12_239 (i := 236) kd_236 (hid 236 (by decide)) (v := .int 0) (congrArg (fun z => some (Value.int z)) h_236_54) dX12_records_64 ?_
  refine a_imul C dX12_records_67 ?_
  refine a_iload_n C dX12_records_68 (i := 1) rfl rfl ?_
  refine a_iadd C dX12_records_69 ?_
  refine a_aload_n C dX12_records_70 (i := 0) rfl rfl ?_
  refine a_get C fl_RX12_107 (i := 236) kd_236 (hid 236 (by decide)) (v := .ref (ad 266)) rfl dX12_records_71 ?_
  refine a_iload_n C dX12_records_74 (i := 1) rfl rfl ?_
  refine a_iald C (i := 266) 21 kd_266 (hid 266 (by decide)) (by decide) rfl (by rw [al_266]; decide) dX12_records_75 (v := 0) h_266_21 ?_
  refine a_iast C (i := 268) 21 kd_268 (hid 268 (by decide)) (by decide) rfl (by rw [al_268]; decide) dX12_records_76 ?_
  refine a_iinc C dX12_records_77 rfl (v := 22) rfl (by decide) rfl (vs1 := [some (.ref (ad 236)), some (.int 22)]) rfl ?_
  refine a_goto C dX12_records_80 (tgt := 51) rfl ?_
  refine a_iload_n C dX12_records_51 (i := 1) rfl rfl ?_
  refine a_bipush C dX12_records_52 (v := 29) rfl ?_
  refine a_ic_ge C dX12_records_54 (tgt := 83) rfl (fun h => absurd h (by decide)) (fun _ => ?_)
  refine a_aload_n C dX12_records_57 (i := 0) rfl rfl ?_
  refine a_get C fl_RX12_113 (i := 236) kd_236 (hid 236 (by decide)) (v := .ref (ad 268)) rfl dX12_records_58 ?_
  refine a_bipush C dX12_records_61 (v := 29) rfl ?_
  refine a_aload_n C dX12_records_63 (i := 0) rfl rfl ?_
  refine a_get C fl_RX12_239 (i := 236) kd_236 (hid 236 (by decide)) (v := .int 0) (congrArg (fun z => some (Value.int z)) h_236_54) dX12_records_64 ?_
  refine a_imul C dX12_records_67 ?_
  refine a_iload_n C dX12_records_68 (i := 1) rfl rfl ?_
  refine a_iadd C dX12_records_69 ?_
  refine a_aload_n C dX12_records_70 (i := 0) rfl rfl ?_
  refine a_get C fl_RX12_107 (i := 236) kd_236 (hid 236 (by decide)) (v := .ref (ad 266)) rfl dX12_records_71 ?_
  refine a_iload_n C dX12_records_74 (i := 1) rfl rfl ?_
  refine a_iald C (i := 266) 22 kd_266 (hid 266 (by decide)) (by decide) rfl (by rw [al_266]; decide) dX12_records_75 (v := 0) h_266_22 ?_
  refine a_iast C (i := 268) 22 kd_268 (hid 268 (by decide)) (by decide) rfl (by rw [al_268]; decide) dX12_records_76 ?_
  refine a_iinc C dX12_records_77 rfl (v := 23) rfl (by decide) rfl (vs1 := [some (.ref (ad 236)), some (.int 23)]) rfl ?_
  refine a_goto C dX12_records_80 (tgt := 51) rfl ?_
  refine a_iload_n C dX12_records_51 (i := 1) rfl rfl ?_
  refine a_bipush C dX12_records_52 (v := 29) rfl ?_
  refine a_ic_ge C dX12_records_54 (tgt := 83) rfl (fun h => absurd h (by decide)) (fun _ => ?_)
  refine a_aload_n C dX12_records_57 (i := 0) rfl rfl ?_
  refine a_get C fl_RX12_113 (i := 236) kd_236 (hid 236 (by decide)) (v := .ref (ad 268)) rfl dX12_records_58 ?_
  refine a_bipush C dX12_records_61 (v := 29) rfl ?_
  refine a_aload_n C dX12_records_63 (i := 0) rfl rfl ?_
  refine a_get C fl_RX12_239 (i := 236) kd_236 (hid 236 (by decide)) (v := .int 0) (congrArg (fun z => some (Value.int z)) h_236_54) dX12_records_64 ?_
  refine a_imul C dX12_records_67 ?_
  refine a_iload_n C dX12_records_68 (i := 1) rfl rfl ?_
  refine a_iadd C dX12_records_69 ?_
  refine a_aload_n C dX12_records_70 (i := 0) rfl rfl ?_
  refine a_get C fl_RX12_107 (i := 236) kd_236 (hid 236 (by decide)) (v := .ref (ad 266)) rfl dX12_records_71 ?_
  refine a_iload_n C dX12_records_74 (i := 1) rfl rfl ?_
  refine a_iald C (i := 266) 23 kd_266 (hid 266 (by decide)) (by decide) rfl (by rw [al_266]; decide) dX12_records_75 (v := 0) h_266_23 ?_
  refine a_iast C (i := 268) 23 kd_268 (hid 268 (by decide)) (by decide) rfl (by rw [al_268]; decide) dX12_records_76 ?_
  refine a_iinc C dX12_records_77 rfl (v := 24) rfl (by decide) rfl (vs1 := [some (.ref (ad 236)), some (.int 24)]) rfl ?_
  refine a_goto C dX12_records_80 (tgt := 51) rfl ?_
  refine a_iload_n C dX12_records_51 (i := 1) rfl rfl ?_
  refine a_bipush C dX12_records_52 (v := 29) rfl ?_
  refine a_ic_ge C dX12_records_54 (tgt := 83) rfl (fun h => absurd h (by decide)) (fun _ => ?_)
  refine a_aload_n C dX12_records_57 (i := 0) rfl rfl ?_
  refine a_get C fl_RX12_113 (i := 236) kd_236 (hid 236 (by decide)) (v := .ref (ad 268)) rfl dX12_records_58 ?_
  refine a_bipush C dX12_records_61 (v := 29) rfl ?_
  refine a_aload_n C dX12_records_63 (i := 0) rfl rfl ?_
  refine a_get C fl_RX12_239 (i := 236) kd_236 (hid 236 (by decide)) (v := .int 0) (congrArg (fun z => some (Value.int z)) h_236_54) dX12_records_64 ?_
  refine a_imul C dX12_records_67 ?_
  refine a_iload_n C dX12_records_68 (i := 1) rfl rfl ?_
  refine a_iadd C dX12_records_69 ?_
  refine a_aload_n C dX12_records_70 (i := 0) rfl rfl ?_
  refine a_get C fl_RX12_107 (i := 236) kd_236 (hid 236 (by decide)) (v := .ref (ad 266)) rfl dX12_records_71 ?_
  refine a_iload_n C dX12_records_74 (i := 1) rfl rfl ?_
  refine a_iald C (i := 266) 24 kd_266 (hid 266 (by decide)) (by decide) rfl (by rw [al_266]; decide) dX12_records_75 (v := 0) h_266_24 ?_
  refine a_iast C (i := 268) 24 kd_268 (hid 268 (by decide)) (by decide) rfl (by rw [al_268]; decide) dX12_records_76 ?_
  refine a_iinc C dX12_records_77 rfl (v := 25) rfl (by decide) rfl (vs1 := [some (.ref (ad 236)), some (.int 25)]) rfl ?_
  refine a_goto C dX12_records_80 (tgt := 51) rfl ?_
  refine a_iload_n C dX12_records_51 (i := 1) rfl rfl ?_
  refine a_bipush C dX12_records_52 (v := 29) rfl ?_
  refine a_ic_ge C dX12_records_54 (tgt := 83) rfl (fun h => absurd h (by decide)) (fun _ => ?_)
  refine a_aload_n C dX12_records_57 (i := 0) rfl rfl ?_
  refine a_get C fl_RX12_113 (i := 236) kd_236 (hid 236 (by decide)) (v := .ref (ad 268)) rfl dX12_records_58 ?_
  refine a_bipush C dX12_records_61 (v := 29) rfl ?_
  refine a_aload_n C dX12_records_63 (i := 0) rfl rfl ?_
  refine a_get C fl_RX12_239 (i := 236) kd_236 (hid 236 (by decide)) (v := .int 0) (congrArg (fun z => some (Value.int z)) h_236_54) dX12_records_64 ?_
  refine a_imul C dX12_records_67 ?_
  refine a_iload_n C dX12_records_68 (i := 1) rfl rfl ?_
  refine a_iadd C dX12_records_69 ?_
  refine a_aload_n C dX12_records_70 (i := 0) rfl rfl ?_
  refine a_get C fl_RX12_107 (i := 236) kd_236 (hid 236 (by decide)) (v := .ref (ad 266)) rfl dX12_records_71 ?_
  refine a_iload_n C dX12_records_74 (i := 1) rfl rfl ?_
  refine a_iald C (i := 266) 25 kd_266 (hid 266 (by decide)) (by decide) rfl (by rw [al_266]; decide) dX12_records_75 (v := 0) h_266_25 ?_
  refine a_iast C (i := 268) 25 kd_268 (hid 268 (by decide)) (by decide) rfl (by rw [al_268]; decide) dX12_records_76 ?_
  refine a_iinc C dX12_records_77 rfl (v := 26) rfl (by decide) rfl (vs1 := [some (.ref (ad 236)), some (.int 26)]) rfl ?_
  refine a_goto C dX12_records_80 (tgt := 51) rfl ?_
  refine a_iload_n C dX12_records_51 (i := 1) rfl rfl ?_
  refine a_bipush C dX12_records_52 (v := 29) rfl ?_
  refine a_ic_ge C dX12_records_54 (tgt := 83) rfl (fun h => absurd h (by decide)) (fun _ => ?_)
  refine a_aload_n C dX12_records_57 (i := 0) rfl rfl ?_
  refine a_get C fl_RX12_113 (i := 236) kd_236 (hid 236 (by decide)) (v := .ref (ad 268)) rfl dX12_records_58 ?_
  refine a_bipush C dX12_records_61 (v := 29) rfl ?_
  refine a_aload_n C dX12_records_63 (i := 0) rfl rfl ?_
  refine a_get C fl_RX12_239 (i := 236) kd_236 (hid 236 (by decide)) (v := .int 0) (congrArg (fun z => some (Value.int z)) h_236_54) dX12_records_64 ?_
  refine a_imul C dX12_records_67 ?_
  refine a_iload_n C dX12_records_68 (i := 1) rfl rfl ?_
  refine a_iadd C dX12_records_69 ?_
  refine a_aload_n C dX12_records_70 (i := 0) rfl rfl ?_
  refine a_get C fl_RX12_107 (i := 236) kd_236 (hid 236 (by decide)) (v := .ref (ad 266)) rfl dX12_records_71 ?_
  refine a_iload_n C dX12_records_74 (i := 1) rfl rfl ?_
  refine a_iald C (i := 266) 26 kd_266 (hid 266 (by decide)) (by decide) rfl (by rw [al_266]; decide) dX12_records_75 (v := (-2)) h_266_26 ?_
  refine a_iast C (i := 268) 26 kd_268 (hid 268 (by decide)) (by decide) rfl (by rw [al_268]; decide) dX12_records_76 ?_
  refine a_iinc C dX12_records_77 rfl (v := 27) rfl (by decide) rfl (vs1 := [some (.ref (ad 236)), some (.int 27)]) rfl ?_
  refine a_goto C dX12_records_80 (tgt := 51) rfl ?_
  refine a_iload_n C dX12_records_51 (i := 1) rfl rfl ?_
  refine a_bipush C dX12_records_52 (v := 29) rfl ?_
  refine a_ic_ge C dX12_records_54 (tgt := 83) rfl (fun h => absurd h (by decide)) (fun _ => ?_)
  refine a_aload_n C dX12_records_57 (i := 0) rfl rfl ?_
  refine a_get C fl_RX12_113 (i := 236) kd_236 (hid 236 (by decide)) (v := .ref (ad 268)) rfl dX12_records_58 ?_
  refine a_bipush C dX12_records_61 (v := 29) rfl ?_
  refine a_aload_n C dX12_records_63 (i := 0) rfl rfl ?_
  refine a_get C fl_RX12_239 (i := 236) kd_236 (hid 236 (by decide)) (v := .int 0) (congrArg (fun z => some (Value.int z)) h_236_54) dX12_records_64 ?_
  refine a_imul C dX12_records_67 ?_
  refine a_iload_n C dX12_records_68 (i := 1) rfl rfl ?_
  refine a_iadd C dX12_records_69 ?_
  refine a_aload_n C dX12_records_70 (i := 0) rfl rfl ?_
  refine a_get C fl_RX12_107 (i := 236) kd_236 (hid 236 (by decide)) (v := .ref (ad 266)) rfl dX12_records_71 ?_
  refine a_iload_n C dX12_records_74 (i := 1) rfl rfl ?_
  refine a_iald C (i := 266) 27 kd_266 (hid 266 (by decide)) (by decide) rfl (by rw [al_266]; decide) dX12_records_75 (v := 0) h_266_27 ?_
  refine a_iast C (i := 268) 27 kd_268 (hid 268 (by decide)) (by decide) rfl (by rw [al_268]; decide) dX12_records_76 ?_
  refine a_iinc C dX12_records_77 rfl (v := 28) rfl (by decide) rfl (vs1 := [some (.ref (ad 236)), some (.int 28)]) rfl ?_
  refine a_goto C dX12_records_80 (tgt := 51) rfl ?_
  refine a_iload_n C dX12_records_51 (i := 1) rfl rfl ?_
  refine a_bipush C dX12_records_52 (v := 29) rfl ?_
  refine a_ic_ge C dX12_records_54 (tgt := 83) rfl (fun h => absurd h (by decide)) (fun _ => ?_)
  refine a_aload_n C dX12_records_57 (i := 0) rfl rfl ?_
  refine a_get C fl_RX12_113 (i := 236) kd_236 (hid 236 (by decide)) (v := .ref (ad 268)) rfl dX12_records_58 ?_
  refine a_bipush C dX12_records_61 (v := 29) rfl ?_
  refine a_aload_n C dX12_records_63 (i := 0) rfl rfl ?_
  refine a_get C fl_RX12_239 (i := 236) kd_236 (hid 236 (by decide)) (v := .int 0) (congrArg (fun z => some (Value.int z)) h_236_54) dX12_records_64 ?_
  refine a_imul C dX12_records_67 ?_
  refine a_iload_n C dX12_records_68 (i := 1) rfl rfl ?_
  refine a_iadd C dX12_records_69 ?_
  refine a_aload_n C dX12_records_70 (i := 0) rfl rfl ?_
  refine a_get C fl_RX12_107 (i := 236) kd_236 (hid 236 (by decide)) (v := .ref (ad 266)) rfl dX12_records_71 ?_
  refine a_iload_n C dX12_records_74 (i := 1) rfl rfl ?_
  refine a_iald C (i := 266) 28 kd_266 (hid 266 (by decide)) (by decide) rfl (by rw [al_266]; decide) dX12_records_75 (v := (-1)) h_266_28 ?_
  refine a_iast C (i := 268) 28 kd_268 (hid 268 (by decide)) (by decide) rfl (by rw [al_268]; decide) dX12_records_76 ?_
  refine a_iinc C dX12_records_77 rfl (v := 29) rfl (by decide) rfl (vs1 := [some (.ref (ad 236)), some (.int 29)]) rfl ?_
  refine a_goto C dX12_records_80 (tgt := 51) rfl ?_
  refine a_iload_n C dX12_records_51 (i := 1) rfl rfl ?_
  refine a_bipush C dX12_records_52 (v := 29) rfl ?_
  refine a_ic_ge C dX12_records_54 (tgt := 83) rfl (fun _ => ?_) (fun h => absurd h (by decide))
  refine a_aload_n C dX12_records_83 (i := 0) rfl rfl ?_
  refine a_dup C dX12_records_84 rfl ?_
  refine a_get C fl_RX12_239 (i := 236) kd_236 (hid 236 (by decide)) (v := .int 0) (congrArg (fun z => some (Value.int z)) h_236_54) dX12_records_85 ?_
  refine a_iconst C dX12_records_88 (v := 1) rfl ?_
  refine a_iadd C dX12_records_89 ?_
  refine a_put C fp_RX12_239 (i := 236) kd_236 (hid 236 (by decide)) rfl rfl dX12_records_90 ?_
  refine a_aload_n C dX12_records_93 (i := 0) rfl rfl ?_
  refine a_callVv C (i := 236) kd_236 (hid 236 (by decide)) ⟨_, _, rfl⟩ (by decide) (m_keepsRow hid (bt := bt) hb) mi_X12_keepsRow ml_RX12_151 rfl rfl (Nat.le_of_ble_eq_true rfl) (Nat.le_of_ble_eq_true rfl) (Nat.le_of_ble_eq_true rfl) dX12_records_94 (fun σ2 q3 => ?_)
  exact a_vret Rt dX12_records_97 (⟨(only.tr (only.I (only.I (only.I (only.I (only.I (only.I (only.I (only.I (only.I (only.I (only.I (only.I (only.I (only.I (only.I (only.I (only.I (only.I (only.I (only.I (only.I (only.I (only.I (only.I (only.I (only.I (only.I (only.I (only.I (only.I only.rf (by decide)) (by decide)) (by decide)) (by decide)) (by decide)) (by decide)) (by decide)) (by decide)) (by decide)) (by decide)) (by decide)) (by decide)) (by decide)) (by decide)) (by decide)) (by decide)) (by decide)) (by decide)) (by decide)) (by decide)) (by decide)) (by decide)) (by decide)) (by decide)) (by decide)) (by decide)) (by decide)) (by decide)) (by decide)) (by decide)) (only.mono q3.1 (by decide))), q3.2⟩)
