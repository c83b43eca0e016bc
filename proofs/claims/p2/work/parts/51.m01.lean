set_option maxHeartbeats 4000000 in
set_option maxRecDepth 100000 in
theorem S_X12_in {l : Launch} {D : va_G} {ids : List Nat} {ad : Nat → Nat} {ca : Nat → ClassId} {σ : HS} {x1 : Int32} {x2 : Int32} {x3 : Int32} (hid : ∀ i, i < 277 → i ∈ ids) (hG : GIm σ) : Ki l D ids ad ca yX12_in cX12_in 3 .boolean 0 0 [.int x1, .int x2, .int x3] σ (fun r σ1 => (σ1 = σ) ∧ (0 ≤ r.toInt ∧ r.toInt ≤ 1) ∧ (r.toInt = 1 → x2.toInt ≤ x1.toInt ∧ x1.toInt ≤ x3.toInt)) := by
  refine Ki.of (by decide) (Nat.le_of_ble_eq_true rfl) 0 (fun Γ C Rt => ?_)
  show AW ids ad ca Γ 0 [some (.int x1), some (.int x2), some (.int x3)] [] σ
  refine a_iload_n C dX12_in_0 (i := 0) rfl rfl ?_
  refine a_iload_n C dX12_in_1 (i := 1) rfl rfl ?_
  refine s_ic_lt C dX12_in_2 (tgt := 14) rfl (fun c1 => ?_) (fun c1 => ?_)
  ·
    refine s_iconst C dX12_in_14 (0) (by decide) (fun z2 h3 => ?_)
    exact a_iret Rt dX12_in_15 (nar_z (by omega)).1 (⟨rfl, (show 0 ≤ z2.toInt ∧ z2.toInt ≤ 1 by intros; omega), (show z2.toInt = 1 → x2.toInt ≤ x1.toInt ∧ x1.toInt ≤ x3.toInt by intros; omega)⟩)
  ·
    refine a_iload_n C dX12_in_5 (i := 0) rfl rfl ?_
    refine a_iload_n C dX12_in_6 (i := 2) rfl rfl ?_
    refine s_ic_gt C dX12_in_7 (tgt := 14) rfl (fun c4 => ?_) (fun c4 => ?_)
    ·
      refine s_iconst C dX12_in_14 (0) (by decide) (fun z5 h6 => ?_)
      exact a_iret Rt dX12_in_15 (nar_z (by omega)).1 (⟨rfl, (show 0 ≤ z5.toInt ∧ z5.toInt ≤ 1 by intros; omega), (show z5.toInt = 1 → x2.toInt ≤ x1.toInt ∧ x1.toInt ≤ x3.toInt by intros; omega)⟩)
    ·
      refine s_iconst C dX12_in_10 (1) (by decide) (fun z7 h8 => ?_)
      refine a_goto C dX12_in_11 (tgt := 15) rfl ?_
      exact a_iret Rt dX12_in_15 (nar_z (by omega)).1 (⟨rfl, (show 0 ≤ z7.toInt ∧ z7.toInt ≤ 1 by intros; omega), (show z7.toInt = 1 → x2.toInt ≤ x1.toInt ∧ x1.toInt ≤ x3.toInt by intros; omega)⟩)
set_option maxHeartbeats 4000000 in
set_option maxRecDepth 100000 in
theorem S_X12_isSome {l : Launch} {D : va_G} {ids : List Nat} {ad : Nat → Nat} {ca : Nat → ClassId} {σ : HS} {x1 : Int32} (hid : ∀ i, i < 277 → i ∈ ids) (hG : GIm σ) : Ki l D ids ad ca yX12_isSome cX12_isSome 1 .boolean 1 22 [.int x1] σ (fun r σ1 => (σ1 = σ) ∧ (0 ≤ r.toInt ∧ r.toInt ≤ 1) ∧ (r.toInt = 1 → 1 ≤ x1.toInt ∧ x1.toInt ≤ 60)) := by
  refine Ki.of (by decide) (Nat.le_of_ble_eq_true rfl) 0 (fun Γ C Rt => ?_)
  show AW ids ad ca Γ 0 [some (.int x1)] [] σ
  refine a_iload_n C dX12_isSome_0 (i := 0) rfl rfl ?_
  refine s_iconst C dX12_isSome_1 (1) (by decide) (fun z1 h2 => ?_)
  refine s_bipush C dX12_isSome_2 (60) (by decide) (fun z3 h4 => ?_)
  refine a_callSi C (S_X12_in (x1 := x1) (x2 := z1) (x3 := z3) hid hG) ms_X12_in ml_RX12_301 rfl rfl (Nat.le_of_ble_eq_true rfl) (Nat.le_of_ble_eq_true rfl) (Nat.le_of_ble_eq_true rfl) dX12_isSome_4 (fun z5 σ6 q7 => ?_)
  obtain ⟨w8, w9, w10⟩ := q7
  rw [w8]
  exact a_iret Rt dX12_isSome_7 (nar_z (by omega)).1 (⟨rfl, (show 0 ≤ z5.toInt ∧ z5.toInt ≤ 1 by intros; omega), (show z5.toInt = 1 → 1 ≤ x1.toInt ∧ x1.toInt ≤ 60 by intros; omega)⟩)
set_option maxHeartbeats 4000000 in
set_option maxRecDepth 100000 in
theorem S_X12_isLong {l : Launch} {D : va_G} {ids : List Nat} {ad : Nat → Nat} {ca : Nat → ClassId} {σ : HS} {x1 : Int32} (hid : ∀ i, i < 277 → i ∈ ids) (hG : GIm σ) : Ki l D ids ad ca yX12_isLong cX12_isLong 1 .boolean 1 22 [.int x1] σ (fun r σ1 => (σ1 = σ) ∧ (0 ≤ r.toInt ∧ r.toInt ≤ 1)) := by
  refine Ki.of (by decide) (Nat.le_of_ble_eq_true rfl) 0 (fun Γ C Rt => ?_)
  show AW ids ad ca Γ 0 [some (.int x1)] [] σ
  refine a_iload_n C dX12_isLong_0 (i := 0) rfl rfl ?_
  refine s_iconst C dX12_isLong_1 (0) (by decide) (fun z1 h2 => ?_)
  refine s_bipush C dX12_isLong_2 (60) (by decide) (fun z3 h4 => ?_)
  refine a_callSi C (S_X12_in (x1 := x1) (x2 := z1) (x3 := z3) hid hG) ms_X12_in ml_RX12_301 rfl rfl (Nat.le_of_ble_eq_true rfl) (Nat.le_of_ble_eq_true rfl) (Nat.le_of_ble_eq_true rfl) dX12_isLong_4 (fun z5 σ6 q7 => ?_)
  obtain ⟨w8, w9, w10⟩ := q7
  rw [w8]
  exact a_iret Rt dX12_isLong_7 (nar_z (by omega)).1 (⟨rfl, (show 0 ≤ z5.toInt ∧ z5.toInt ≤ 1 by intros; omega)⟩)
set_option maxHeartbeats 4000000 in
set_option maxRecDepth 100000 in
theorem S_X12_isThing_236 {l : Launch} {D : va_G} {ids : List Nat} {ad : Nat → Nat} {ca : Nat → ClassId} {σ : HS} {x1 : Int32} (hid : ∀ i, i < 277 → i ∈ ids) (hG : GIm σ) : Ki l D ids ad ca yX12_isThing cX12_isThing 2 .boolean 1 22 [.ref (ad 236), .int x1] σ (fun r σ1 => (σ1 = σ) ∧ (0 ≤ r.toInt ∧ r.toInt ≤ 1) ∧ (r.toInt = 1 → 0 ≤ x1.toInt ∧ x1.toInt ≤ 6)) := by
  refine Ki.of (by decide) (Nat.le_of_ble_eq_true rfl) 0 (fun Γ C Rt => ?_)
  show AW ids ad ca Γ 0 [some (.ref (ad 236)), some (.int x1)] [] σ
  refine a_iload_n C dX12_isThing_0 (i := 1) rfl rfl ?_
  refine s_iconst C dX12_isThing_1 (0) (by decide) (fun z1 h2 => ?_)
  refine a_aload_n C dX12_isThing_2 (i := 0) rfl rfl ?_
  refine a_get C fl_RX12_43 (i := 236) kd_236 (hid 236 (by decide)) (v := .ref (ad 245)) rfl dX12_isThing_3 ?_
  refine a_aload_n C dX12_isThing_6 (i := 0) rfl rfl ?_
  have g3 := bF_236_18 hG
  refine a_get C fl_RX12_221 (i := 236) kd_236 (hid 236 (by decide)) (v := .int (σ.1 236 18)) rfl dX12_isThing_7 ?_
  refine s_iald C (i := 245) kd_245 (hid 245 (by decide)) al_245 (by omega) (by omega) dX12_isThing_10 (fun n4 h5 => ?_)
  refine s_val (fun z6 e7 => ?_)
  have g8 := bA_245 hG n4
  rw [e7] at g8
  refine s_iconst C dX12_isThing_11 (1) (by decide) (fun z9 h10 => ?_)
  refine s_isub C dX12_isThing_12 (by omega) (fun z11 h12 => ?_)
  refine a_callSi C (S_X12_in (x1 := x1) (x2 := z1) (x3 := z11) hid hG) ms_X12_in ml_RX12_301 rfl rfl (Nat.le_of_ble_eq_true rfl) (Nat.le_of_ble_eq_true rfl) (Nat.le_of_ble_eq_true rfl) dX12_isThing_13 (fun z13 σ14 q15 => ?_)
  obtain ⟨w16, w17, w18⟩ := q15
  rw [w16]
  exact a_iret Rt dX12_isThing_16 (nar_z (by omega)).1 (⟨rfl, (show 0 ≤ z13.toInt ∧ z13.toInt ≤ 1 by intros; omega), (show z13.toInt = 1 → 0 ≤ x1.toInt ∧ x1.toInt ≤ 6 by intros; omega)⟩)
set_option maxHeartbeats 4000000 in
set_option maxRecDepth 100000 in
theorem S_X12_isPattern_236 {l : Launch} {D : va_G} {ids : List Nat} {ad : Nat → Nat} {ca : Nat → ClassId} {σ : HS} {x1 : Int32} (hid : ∀ i, i < 277 → i ∈ ids) (hG : GIm σ) : Ki l D ids ad ca yX12_isPattern cX12_isPattern 2 .boolean 1 22 [.ref (ad 236), .int x1] σ (fun r σ1 => (σ1 = σ) ∧ (0 ≤ r.toInt ∧ r.toInt ≤ 1) ∧ (r.toInt = 1 → 0 ≤ x1.toInt ∧ x1.toInt ≤ 4)) := by
  refine Ki.of (by decide) (Nat.le_of_ble_eq_true rfl) 0 (fun Γ C Rt => ?_)
  show AW ids ad ca Γ 0 [some (.ref (ad 236)), some (.int x1)] [] σ
  refine a_iload_n C dX12_isPattern_0 (i := 1) rfl rfl ?_
  refine s_iconst C dX12_isPattern_1 (0) (by decide) (fun z1 h2 => ?_)
  refine a_aload_n C dX12_isPattern_2 (i := 0) rfl rfl ?_
  refine a_get C fl_RX12_55 (i := 236) kd_236 (hid 236 (by decide)) (v := .ref (ad 249)) rfl dX12_isPattern_3 ?_
  refine a_aload_n C dX12_isPattern_6 (i := 0) rfl rfl ?_
  have g3 := bF_236_18 hG
  refine a_get C fl_RX12_221 (i := 236) kd_236 (hid 236 (by decide)) (v := .int (σ.1 236 18)) rfl dX12_isPattern_7 ?_
  refine s_iald C (i := 249) kd_249 (hid 249 (by decide)) al_249 (by omega) (by omega) dX12_isPattern_10 (fun n4 h5 => ?_)
  refine s_val (fun z6 e7 => ?_)
  have g8 := bA_249 hG n4
  rw [e7] at g8
  refine s_iconst C dX12_isPattern_11 (1) (by decide) (fun z9 h10 => ?_)
  refine s_isub C dX12_isPattern_12 (by omega) (fun z11 h12 => ?_)
  refine a_callSi C (S_X12_in (x1 := x1) (x2 := z1) (x3 := z11) hid hG) ms_X12_in ml_RX12_301 rfl rfl (Nat.le_of_ble_eq_true rfl) (Nat.le_of_ble_eq_true rfl) (Nat.le_of_ble_eq_true rfl) dX12_isPattern_13 (fun z13 σ14 q15 => ?_)
  obtain ⟨w16, w17, w18⟩ := q15
  rw [w16]
  exact a_iret Rt dX12_isPattern_16 (nar_z (by omega)).1 (⟨rfl, (show 0 ≤ z13.toInt ∧ z13.toInt ≤ 1 by intros; omega), (show z13.toInt = 1 → 0 ≤ x1.toInt ∧ x1.toInt ≤ 4 by intros; omega)⟩)
theorem dX12_byteAt_8 : decode cX12_byteAt 8 = .ok (.aload_n 0, 1) := by decide +kernel
theorem dX12_byteAt_9 : decode cX12_byteAt 9 = .ok (.getfield 17, 3) := by decide +kernel
theorem dX12_byteAt_12 : decode cX12_byteAt 12 = .ok (.iload_n 1, 1) := by decide +kernel
theorem dX12_byteAt_13 : decode cX12_byteAt 13 = .ok (.baload, 1) := by decide +kernel
theorem dX12_byteAt_14 : decode cX12_byteAt 14 = .ok (.sipush 255, 3) := by decide +kernel
theorem dX12_byteAt_17 : decode cX12_byteAt 17 = .ok (.iand, 1) := by decide +kernel
theorem dX12_byteAt_18 : decode cX12_byteAt 18 = .ok (.goto 4, 3) := by decide +kernel
set_option maxHeartbeats 4000000 in
set_option maxRecDepth 100000 in
theorem S_X12_byteAt_236 {l : Launch} {D : va_G} {ids : List Nat} {ad : Nat → Nat} {ca : Nat → ClassId} {σ : HS} {x1 : Int32} (hid : ∀ i, i < 277 → i ∈ ids) (hG : GIm σ) (hx1 : 0 ≤ x1.toInt ∧ x1.toInt ≤ 100000) : Ki l D ids ad ca yX12_byteAt cX12_byteAt 2 .int 0 0 [.ref (ad 236), .int x1] σ (fun r σ1 => (σ1 = σ) ∧ (0 ≤ r.toInt ∧ r.toInt ≤ 255)) := by
  refine Ki.of (by decide) (Nat.le_of_ble_eq_true rfl) 0 (fun Γ C Rt => ?_)
  show AW ids ad ca Γ 0 [some (.ref (ad 236)), some (.int x1)] [] σ
  refine a_iload_n C dX12_byteAt_0 (i := 1) rfl rfl ?_
  refine a_aload_n C dX12_byteAt_1 (i := 0) rfl rfl ?_
  have g1 := bF_236_4 hG
  refine a_get C fl_RX12_160 (i := 236) kd_236 (hid 236 (by decide)) (v := .int (σ.1 236 4)) rfl dX12_byteAt_2 ?_
  refine s_ic_ge C dX12_byteAt_5 (tgt := 21) rfl (fun c2 => ?_) (fun c2 => ?_)
  ·
    refine s_iconst C dX12_byteAt_21 (0) (by decide) (fun z3 h4 => ?_)
    exact a_iret Rt dX12_byteAt_22 rfl (⟨rfl, (show 0 ≤ z3.toInt ∧ z3.toInt ≤ 255 by intros; omega)⟩)
  ·
    refine a_aload_n C dX12_byteAt_8 (i := 0) rfl rfl ?_
    refine a_get C fl_RX12_17 (i := 236) kd_236 (hid 236 (by decide)) (v := .ref (ad 238)) rfl dX12_byteAt_9 ?_
    refine a_iload_n C dX12_byteAt_12 (i := 1) rfl rfl ?_
    refine s_bald C (i := 238) kd_238 (hid 238 (by decide)) al_238 (by omega) (by omega) dX12_byteAt_13 (fun n5 h6 => ?_)
    refine s_val (fun z7 e8 => ?_)
    refine s_sipush C dX12_byteAt_14 (255) (by decide) (fun z9 h10 => ?_)
    refine s_iand C dX12_byteAt_17 (by omega) (fun z11 h12 => ?_)
    refine a_goto C dX12_byteAt_18 (tgt := 22) rfl ?_
    exact a_iret Rt dX12_byteAt_22 rfl (⟨rfl, (show 0 ≤ z11.toInt ∧ z11.toInt ≤ 255 by intros; omega)⟩)
set_option maxHeartbeats 4000000 in
set_option maxRecDepth 100000 in
theorem S_X12_place_236 {l : Launch} {D : va_G} {ids : List Nat} {ad : Nat → Nat} {ca : Nat → ClassId} {σ : HS} (hid : ∀ i, i < 277 → i ∈ ids) (hG : GIm σ) : Ki l D ids ad ca yX12_place cX12_place 1 .int 0 0 [.ref (ad 236)] σ (fun r σ1 => (σ1 = σ)) := by
  refine Ki.of (by decide) (Nat.le_of_ble_eq_true rfl) 0 (fun Γ C Rt => ?_)
  show AW ids ad ca Γ 0 [some (.ref (ad 236))] [] σ
  refine a_aload_n C dX12_place_0 (i := 0) rfl rfl ?_
  refine a_get C fl_RX12_37 (i := 236) kd_236 (hid 236 (by decide)) (v := .int (σ.1 236 17)) rfl dX12_place_1 ?_
  exact a_iret Rt dX12_place_4 rfl (rfl)
set_option maxHeartbeats 4000000 in
set_option maxRecDepth 100000 in
theorem S_X12_forget_236 {l : Launch} {D : va_G} {ids : List Nat} {ad : Nat → Nat} {ca : Nat → ClassId} {σ : HS} (hid : ∀ i, i < 277 → i ∈ ids) (hG : GIm σ) : Ki l D ids ad ca yX12_forget cX12_forget 2 .int 0 0 [.ref (ad 236)] σ (fun r σ1 => (GIm σ1) ∧ (ony [236] σ σ1)) := by
  refine Ki.of (by decide) (Nat.le_of_ble_eq_true rfl) 1 (fun Γ C Rt => ?_)
  show AW ids ad ca Γ 0 [some (.ref (ad 236)), none] [] σ
  refine a_aload_n C dX12_forget_0 (i := 0) rfl rfl ?_
  have g1 := bF_236_60 hG
  refine a_get C fl_RX12_242 (i := 236) kd_236 (hid 236 (by decide)) (v := .int (σ.1 236 60)) rfl dX12_forget_1 ?_
  refine a_istore_n C dX12_forget_4 (i := 1) rfl (by decide) rfl (vs1 := [some (.ref (ad 236)), some (.int (σ.1 236 60))]) rfl ?_
  refine a_aload_n C dX12_forget_5 (i := 0) rfl rfl ?_
  refine s_iconst C dX12_forget_6 (0) (by decide) (fun z2 h3 => ?_)
  refine a_put C fp_RX12_242 (i := 236) kd_236 (hid 236 (by decide)) rfl rfl dX12_forget_7 ?_
  have hG4 := wF_236_60 (v := z2) hG (by omega) (by omega)
  refine a_iload_n C dX12_forget_10 (i := 1) rfl rfl ?_
  exact a_iret Rt dX12_forget_11 rfl (⟨hG4, (ony.I ony.rf (by decide))⟩)
theorem dX12_isDigit_0 : decode cX12_isDigit 0 = .ok (.iload_n 0, 1) := by decide +kernel
theorem dX12_isDigit_1 : decode cX12_isDigit 1 = .ok (.bipush 48, 2) := by decide +kernel
theorem dX12_isDigit_3 : decode cX12_isDigit 3 = .ok (.if_icmp .lt 13, 3) := by decide +kernel
theorem dX12_isDigit_6 : decode cX12_isDigit 6 = .ok (.iload_n 0, 1) := by decide +kernel
theorem dX12_isDigit_7 : decode cX12_isDigit 7 = .ok (.bipush 57, 2) := by decide +kernel
theorem dX12_isDigit_9 : decode cX12_isDigit 9 = .ok (.if_icmp .gt 7, 3) := by decide +kernel
theorem dX12_isDigit_12 : decode cX12_isDigit 12 = .ok (.iconst 1, 1) := by decide +kernel
theorem dX12_isDigit_13 : decode cX12_isDigit 13 = .ok (.goto 4, 3) := by decide +kernel
theorem dX12_isDigit_16 : decode cX12_isDigit 16 = .ok (.iconst 0, 1) := by decide +kernel
theorem dX12_isDigit_17 : decode cX12_isDigit 17 = .ok (.ireturn, 1) := by decide +kernel
set_option maxHeartbeats 4000000 in
set_option maxRecDepth 100000 in
theorem S_X12_isDigit {l : Launch} {D : va_G} {ids : List Nat} {ad : Nat → Nat} {ca : Nat → ClassId} {σ : HS} {x1 : Int32} (hid : ∀ i, i < 277 → i ∈ ids) (hG : GIm σ) : Ki l D ids ad ca yX12_isDigit cX12_isDigit 1 .boolean 0 0 [.int x1] σ (fun r σ1 => (σ1 = σ) ∧ (0 ≤ r.toInt ∧ r.toInt ≤ 1)) := by
  refine Ki.of (by decide) (Nat.le_of_ble_eq_true rfl) 0 (fun Γ C Rt => ?_)
  show AW ids ad ca Γ 0 [some (.int x1)] [] σ
  refine a_iload_n C dX12_isDigit_0 (i := 0) rfl rfl ?_
  refine s_bipush C dX12_isDigit_1 (48) (by decide) (fun z1 h2 => ?_)
  refine s_ic_lt C dX12_isDigit_3 (tgt := 16) rfl (fun c3 => ?_) (fun c3 => ?_)
  ·
    refine s_iconst C dX12_isDigit_16 (0) (by decide) (fun z4 h5 => ?_)
    exact a_iret Rt dX12_isDigit_17 (nar_z (by omega)).1 (⟨rfl, (show 0 ≤ z4.toInt ∧ z4.toInt ≤ 1 by intros; omega)⟩)
  ·
    refine a_iload_n C dX12_isDigit_6 (i := 0) rfl rfl ?_
    refine s_bipush C dX12_isDigit_7 (57) (by decide) (fun z6 h7 => ?_)
    refine s_ic_gt C dX12_isDigit_9 (tgt := 16) rfl (fun c8 => ?_) (fun c8 => ?_)
    ·
      refine s_iconst C dX12_isDigit_16 (0) (by decide) (fun z9 h10 => ?_)
      exact a_iret Rt dX12_isDigit_17 (nar_z (by omega)).1 (⟨rfl, (show 0 ≤ z9.toInt ∧ z9.toInt ≤ 1 by intros; omega)⟩)
    ·
      refine s_iconst C dX12_isDigit_12 (1) (by decide) (fun z11 h12 => ?_)
      refine a_goto C dX12_isDigit_13 (tgt := 17) rfl ?_
      exact a_iret Rt dX12_isDigit_17 (nar_z (by omega)).1 (⟨rfl, (show 0 ≤ z11.toInt ∧ z11.toInt ≤ 1 by intros; omega)⟩)
theorem dX12_isLetter_0 : decode cX12_isLetter 0 = .ok (.iload_n 0, 1) := by decide +kernel
theorem dX12_isLetter_1 : decode cX12_isLetter 1 = .ok (.bipush 97, 2) := by decide +kernel
theorem dX12_isLetter_3 : decode cX12_isLetter 3 = .ok (.if_icmp .lt 13, 3) := by decide +kernel
theorem dX12_isLetter_6 : decode cX12_isLetter 6 = .ok (.iload_n 0, 1) := by decide +kernel
theorem dX12_isLetter_7 : decode cX12_isLetter 7 = .ok (.bipush 122, 2) := by decide +kernel
theorem dX12_isLetter_9 : decode cX12_isLetter 9 = .ok (.if_icmp .gt 7, 3) := by decide +kernel
theorem dX12_isLetter_12 : decode cX12_isLetter 12 = .ok (.iconst 1, 1) := by decide +kernel
theorem dX12_isLetter_13 : decode cX12_isLetter 13 = .ok (.goto 4, 3) := by decide +kernel
theorem dX12_isLetter_16 : decode cX12_isLetter 16 = .ok (.iconst 0, 1) := by decide +kernel
theorem dX12_isLetter_17 : decode cX12_isLetter 17 = .ok (.ireturn, 1) := by decide +kernel
set_option maxHeartbeats 4000000 in
set_option maxRecDepth 100000 in
theorem S_X12_isLetter {l : Launch} {D : va_G} {ids : List Nat} {ad : Nat → Nat} {ca : Nat → ClassId} {σ : HS} {x1 : Int32} (hid : ∀ i, i < 277 → i ∈ ids) (hG : GIm σ) : Ki l D ids ad ca yX12_isLetter cX12_isLetter 1 .boolean 0 0 [.int x1] σ (fun r σ1 => (σ1 = σ) ∧ (0 ≤ r.toInt ∧ r.toInt ≤ 1)) := by
  refine Ki.of (by decide) (Nat.le_of_ble_eq_true rfl) 0 (fun Γ C Rt => ?_)
  show AW ids ad ca Γ 0 [some (.int x1)] [] σ
  refine a_iload_n C dX12_isLetter_0 (i := 0) rfl rfl ?_
  refine s_bipush C dX12_isLetter_1 (97) (by decide) (fun z1 h2 => ?_)
  refine s_ic_lt C dX12_isLetter_3 (tgt := 16) rfl (fun c3 => ?_) (fun c3 => ?_)
  ·
    refine s_iconst C dX12_isLetter_16 (0) (by decide) (fun z4 h5 => ?_)
    exact a_iret Rt dX12_isLetter_17 (nar_z (by omega)).1 (⟨rfl, (show 0 ≤ z4.toInt ∧ z4.toInt ≤ 1 by intros; omega)⟩)
  ·
    refine a_iload_n C dX12_isLetter_6 (i := 0) rfl rfl ?_
    refine s_bipush C dX12_isLetter_7 (122) (by decide) (fun z6 h7 => ?_)
    refine s_ic_gt C dX12_isLetter_9 (tgt := 16) rfl (fun c8 => ?_) (fun c8 => ?_)
    ·
      refine s_iconst C dX12_isLetter_16 (0) (by decide) (fun z9 h10 => ?_)
      exact a_iret Rt dX12_isLetter_17 (nar_z (by omega)).1 (⟨rfl, (show 0 ≤ z9.toInt ∧ z9.toInt ≤ 1 by intros; omega)⟩)
    ·
      refine s_iconst C dX12_isLetter_12 (1) (by decide) (fun z11 h12 => ?_)
      refine a_goto C dX12_isLetter_13 (tgt := 17) rfl ?_
      exact a_iret Rt dX12_isLetter_17 (nar_z (by omega)).1 (⟨rfl, (show 0 ≤ z11.toInt ∧ z11.toInt ≤ 1 by intros; omega)⟩)
theorem dX12_told_0 : decode cX12_told 0 = .ok (.iload_n 1, 1) := by decide +kernel
theorem dX12_told_1 : decode cX12_told 1 = .ok (.iconst 1, 1) := by decide +kernel
theorem dX12_told_2 : decode cX12_told 2 = .ok (.if_icmp .ne 7, 3) := by decide +kernel
theorem dX12_told_5 : decode cX12_told 5 = .ok (.iload_n 0, 1) := by decide +kernel
theorem dX12_told_6 : decode cX12_told 6 = .ok (.goto 12, 3) := by decide +kernel
theorem dX12_told_9 : decode cX12_told 9 = .ok (.iload_n 0, 1) := by decide +kernel
theorem dX12_told_10 : decode cX12_told 10 = .ok (.ifCond .ge 7, 3) := by decide +kernel
theorem dX12_told_13 : decode cX12_told 13 = .ok (.iconst 0, 1) := by decide +kernel
theorem dX12_told_14 : decode cX12_told 14 = .ok (.goto 4, 3) := by decide +kernel
theorem dX12_told_17 : decode cX12_told 17 = .ok (.iconst 1, 1) := by decide +kernel
theorem dX12_told_18 : decode cX12_told 18 = .ok (.ireturn, 1) := by decide +kernel
set_option maxHeartbeats 4000000 in
set_option maxRecDepth 100000 in
theorem S_X12_told {l : Launch} {D : va_G} {ids : List Nat} {ad : Nat → Nat} {ca : Nat → ClassId} {σ : HS} {x1 : Int32} {x2 : Int32} (hid : ∀ i, i < 277 → i ∈ ids) (hG : GIm σ) : Ki l D ids ad ca yX12_told cX12_told 2 .int 0 0 [.int x1, .int x2] σ (fun r σ1 => (σ1 = σ)) := by
  refine Ki.of (by decide) (Nat.le_of_ble_eq_true rfl) 0 (fun Γ C Rt => ?_)
  show AW ids ad ca Γ 0 [some (.int x1), some (.int x2)] [] σ
  refine a_iload_n C dX12_told_0 (i := 1) rfl rfl ?_
  refine s_iconst C dX12_told_1 (1) (by decide) (fun z1 h2 => ?_)
  refine s_ic_ne C dX12_told_2 (tgt := 9) rfl (fun c3 => ?_) (fun c3 => ?_)
  ·
    refine a_iload_n C dX12_told_9 (i := 0) rfl rfl ?_
    refine s_if_ge C dX12_told_10 (tgt := 17) rfl (fun c4 => ?_) (fun c4 => ?_)
    ·
      refine s_iconst C dX12_told_17 (1) (by decide) (fun z5 h6 => ?_)
      exact a_iret Rt dX12_told_18 rfl (rfl)
    ·
      refine s_iconst C dX12_told_13 (0) (by decide) (fun z7 h8 => ?_)
      refine a_goto C dX12_told_14 (tgt := 18) rfl ?_
      exact a_iret Rt dX12_told_18 rfl (rfl)
  ·
    refine a_iload_n C dX12_told_5 (i := 0) rfl rfl ?_
    refine a_goto C dX12_told_6 (tgt := 18) rfl ?_
    exact a_iret Rt dX12_told_18 rfl (rfl)
theorem dX12_mixed_0 : decode cX12_mixed 0 = .ok (.iload_n 0, 1) := by decide +kernel
theorem dX12_mixed_1 : decode cX12_mixed 1 = .ok (.iload_n 1, 1) := by decide +kernel
theorem dX12_mixed_2 : decode cX12_mixed 2 = .ok (.ixor, 1) := by decide +kernel
theorem dX12_mixed_3 : decode cX12_mixed 3 = .ok (.ldc_w 314, 3) := by decide +kernel
theorem dX12_mixed_6 : decode cX12_mixed 6 = .ok (.imul, 1) := by decide +kernel
theorem dX12_mixed_7 : decode cX12_mixed 7 = .ok (.sipush 12345, 3) := by decide +kernel
theorem dX12_mixed_10 : decode cX12_mixed 10 = .ok (.iadd, 1) := by decide +kernel
theorem dX12_mixed_11 : decode cX12_mixed 11 = .ok (.istore_n 2, 1) := by decide +kernel
theorem dX12_mixed_12 : decode cX12_mixed 12 = .ok (.iload_n 2, 1) := by decide +kernel
theorem dX12_mixed_13 : decode cX12_mixed 13 = .ok (.iload_n 2, 1) := by decide +kernel
theorem dX12_mixed_14 : decode cX12_mixed 14 = .ok (.bipush 15, 2) := by decide +kernel
theorem dX12_mixed_16 : decode cX12_mixed 16 = .ok (.iushr, 1) := by decide +kernel
theorem dX12_mixed_17 : decode cX12_mixed 17 = .ok (.ixor, 1) := by decide +kernel
theorem dX12_mixed_18 : decode cX12_mixed 18 = .ok (.ireturn, 1) := by decide +kernel
set_option maxHeartbeats 4000000 in
set_option maxRecDepth 100000 in
theorem S_X12_mixed {l : Launch} {D : va_G} {ids : List Nat} {ad : Nat → Nat} {ca : Nat → ClassId} {σ : HS} {x1 : Int32} {x2 : Int32} (hid : ∀ i, i < 277 → i ∈ ids) (hG : GIm σ) : Ki l D ids ad ca yX12_mixed cX12_mixed 3 .int 0 0 [.int x1, .int x2] σ (fun r σ1 => (σ1 = σ)) := by
  refine Ki.of (by decide) (Nat.le_of_ble_eq_true rfl) 1 (fun Γ C Rt => ?_)
  show AW ids ad ca Γ 0 [some (.int x1), some (.int x2), none] [] σ
  refine a_iload_n C dX12_mixed_0 (i := 0) rfl rfl ?_
  refine a_iload_n C dX12_mixed_1 (i := 1) rfl rfl ?_
  refine s_ixorU C dX12_mixed_2 (fun z1 => ?_)
  refine s_ldcw C dX12_mixed_3 ko_RX12_314 (1103515245) (by decide) (fun z3 h4 => ?_)
  refine s_imulU C dX12_mixed_6 (fun z5 => ?_)
  refine s_sipush C dX12_mixed_7 (12345) (by decide) (fun z7 h8 => ?_)
  refine s_iaddU C dX12_mixed_10 (fun z9 => ?_)
  refine a_istore_n C dX12_mixed_11 (i := 2) rfl (by decide) rfl (vs1 := [some (.int x1), some (.int x2), some (.int z9)]) rfl ?_
  refine a_iload_n C dX12_mixed_12 (i := 2) rfl rfl ?_
  refine a_iload_n C dX12_mixed_13 (i := 2) rfl rfl ?_
  refine s_bipush C dX12_mixed_14 (15) (by decide) (fun z11 h12 => ?_)
  refine s_iushrU C dX12_mixed_16 (fun z13 => ?_)
  refine s_ixorU C dX12_mixed_17 (fun z15 => ?_)
  exact a_iret Rt dX12_mixed_18 rfl (rfl)
set_option maxHeartbeats 4000000 in
set_option maxRecDepth 100000 in
theorem S_X12_bits {l : Launch} {D : va_G} {ids : List Nat} {ad : Nat → Nat} {ca : Nat → ClassId} {σ : HS} {x1 : Int32} (hid : ∀ i, i < 277 → i ∈ ids) (hG : GIm σ) : Ki l D ids ad ca yX12_bits cX12_bits 3 .int 0 0 [.int x1] σ (fun r σ1 => (σ1 = σ)) := by
  refine Ki.of (by decide) (Nat.le_of_ble_eq_true rfl) 2 (fun Γ C Rt => ?_)
  show AW ids ad ca Γ 0 [some (.int x1), none, none] [] σ
  have j4 : ∀ (d4 : Nat) (y4_1 : Int32) (y4_2 : Int32), 10 - y4_2.toInt < d4 → 0 ≤ y4_2.toInt ∧ y4_2.toInt ≤ 10 → AW ids ad ca Γ 4 [some (.int x1), some (.int y4_1), some (.int y4_2)] [] σ := by
    intro d4
    induction d4 with
    | zero =>
      intro y4_1 y4_2 hd4 hx4_0
      exfalso
      omega
    | succ d4 ih4 =>
      intro y4_1 y4_2 hd4 hx4_0
      refine a_iload_n C dX12_bits_4 (i := 2) rfl rfl ?_
      refine s_bipush C dX12_bits_5 (10) (by decide) (fun z1 h2 => ?_)
      refine s_ic_ge C dX12_bits_7 (tgt := 24) rfl (fun c3 => ?_) (fun c3 => ?_)
      ·
        refine a_iload_n C dX12_bits_24 (i := 1) rfl rfl ?_
        exact a_iret Rt dX12_bits_25 rfl (rfl)
      ·
        refine a_iload_n C dX12_bits_10 (i := 1) rfl rfl ?_
        refine a_iload_n C dX12_bits_11 (i := 0) rfl rfl ?_
        refine a_iload_n C dX12_bits_12 (i := 2) rfl rfl ?_
        refine s_ishrU C dX12_bits_13 (fun z4 => ?_)
        refine s_iconst C dX12_bits_14 (1) (by decide) (fun z6 h7 => ?_)
        refine s_iand C dX12_bits_15 (by omega) (fun z8 h9 => ?_)
        refine s_iaddU C dX12_bits_16 (fun z10 => ?_)
        refine a_istore_n C dX12_bits_17 (i := 1) rfl (by decide) rfl (vs1 := [some (.int x1), some (.int z10), some (.int y4_2)]) rfl ?_
        refine s_iinc C dX12_bits_18 rfl (1) (by decide) (by omega) (by decide) rfl (fun z12 h13 => ?_)
        show AW ids ad ca Γ 21 [some (.int x1), some (.int z10), some (.int z12)] _ _
        refine a_goto C dX12_bits_21 (tgt := 4) rfl ?_
        exact ih4 z10 z12 (by omega) (by omega)
  refine s_iconst C dX12_bits_0 (0) (by decide) (fun z14 h15 => ?_)
  refine a_istore_n C dX12_bits_1 (i := 1) rfl (by decide) rfl (vs1 := [some (.int x1), some (.int z14), none]) rfl ?_
  refine s_iconst C dX12_bits_2 (0) (by decide) (fun z16 h17 => ?_)
  refine a_istore_n C dX12_bits_3 (i := 2) rfl (by decide) rfl (vs1 := [some (.int x1), some (.int z14), some (.int z16)]) rfl ?_
  exact j4 100000 z14 z16 (by omega) (by omega)
set_option maxHeartbeats 4000000 in
set_option maxRecDepth 100000 in
theorem S_X12_tell_236 {l : Launch} {D : va_G} {ids : List Nat} {ad : Nat → Nat} {ca : Nat → ClassId} {σ : HS} {x1 : Int32} {x2 : Int32} (hid : ∀ i, i < 277 → i ∈ ids) (hG : GIm σ) (hx2 : 0 ≤ x2.toInt ∧ x2.toInt ≤ 1) : Ki l D ids ad ca yX12_tell cX12_tell 3 .int 1 22 [.ref (ad 236), .int x1, .int x2] σ (fun r σ1 => (GIm σ1) ∧ (ony [236, 272, 273] σ σ1)) := by
  refine Ki.of (by decide) (Nat.le_of_ble_eq_true rfl) 0 (fun Γ C Rt => ?_)
  show AW ids ad ca Γ 0 [some (.ref (ad 236)), some (.int x1), some (.int x2)] [] σ
  refine a_aload_n C dX12_tell_0 (i := 0) rfl rfl ?_
  have g1 := bF_236_60 hG
  refine a_get C fl_RX12_242 (i := 236) kd_236 (hid 236 (by decide)) (v := .int (σ.1 236 60)) rfl dX12_tell_1 ?_
  refine s_bipush C dX12_tell_4 (20) (by decide) (fun z2 h3 => ?_)
  refine s_ic_eq C dX12_tell_6 (tgt := 19) rfl (fun c4 => ?_) (fun c4 => ?_)
  ·
    refine s_iconst C dX12_tell_19 (-1) (by decide) (fun z5 h6 => ?_)
    exact a_iret Rt dX12_tell_20 rfl (⟨hG, ony.rf⟩)
  ·
    refine a_iload_n C dX12_tell_9 (i := 1) rfl rfl ?_
    refine s_iconst C dX12_tell_10 (0) (by decide) (fun z7 h8 => ?_)
    refine s_bipush C dX12_tell_11 (40) (by decide) (fun z9 h10 => ?_)
    refine a_callSi C (S_X12_in (x1 := x1) (x2 := z7) (x3 := z9) hid hG) ms_X12_in ml_RX12_301 rfl rfl (Nat.le_of_ble_eq_true rfl) (Nat.le_of_ble_eq_true rfl) (Nat.le_of_ble_eq_true rfl) dX12_tell_13 (fun z11 σ12 q13 => ?_)
    obtain ⟨w14, w15, w16⟩ := q13
    rw [w14]
    refine s_if_ne C dX12_tell_16 (tgt := 21) rfl (fun c17 => ?_) (fun c17 => ?_)
    ·
      refine a_aload_n C dX12_tell_21 (i := 0) rfl rfl ?_
      refine a_get C fl_RX12_125 (i := 236) kd_236 (hid 236 (by decide)) (v := .ref (ad 272)) rfl dX12_tell_22 ?_
      refine a_aload_n C dX12_tell_25 (i := 0) rfl rfl ?_
      have g18 := bF_236_60 hG
      refine a_get C fl_RX12_242 (i := 236) kd_236 (hid 236 (by decide)) (v := .int (σ.1 236 60)) rfl dX12_tell_26 ?_
      refine a_iload_n C dX12_tell_29 (i := 1) rfl rfl ?_
      refine s_iast C (i := 272) kd_272 (hid 272 (by decide)) al_272 (by omega) (by omega) dX12_tell_30 (fun n19 h20 => ?_)
      have hG21 := wA_272 (v := x1) (j := n19) hG
      refine a_aload_n C dX12_tell_31 (i := 0) rfl rfl ?_
      refine a_get C fl_RX12_128 (i := 236) kd_236 (hid 236 (by decide)) (v := .ref (ad 273)) rfl dX12_tell_32 ?_
      refine a_aload_n C dX12_tell_35 (i := 0) rfl rfl ?_
      have g22 := bF_236_60 hG
      refine a_get C fl_RX12_242 (i := 236) kd_236 (hid 236 (by decide)) (v := .int (σ.1 236 60)) rfl dX12_tell_36 ?_
      refine a_iload_n C dX12_tell_39 (i := 2) rfl rfl ?_
      refine s_zast C (i := 273) (nar_v (by omega)) kd_273 (hid 273 (by decide)) al_273 (by omega) (by omega) dX12_tell_40 (fun n23 h24 => ?_)
      have hG25 := wA_273 (v := x2) (j := n23) hG21
      refine a_aload_n C dX12_tell_41 (i := 0) rfl rfl ?_
      refine a_dup C dX12_tell_42 rfl ?_
      have g26 := bF_236_60 hG
      refine a_get C fl_RX12_242 (i := 236) kd_236 (hid 236 (by decide)) (v := .int (σ.1 236 60)) rfl dX12_tell_43 ?_
      refine s_iconst C dX12_tell_46 (1) (by decide) (fun z27 h28 => ?_)
      refine s_iadd C dX12_tell_47 (by omega) (fun z29 h30 => ?_)
      refine a_put C fp_RX12_242 (i := 236) kd_236 (hid 236 (by decide)) rfl rfl dX12_tell_48 ?_
      have hG31 := wF_236_60 (v := z29) hG25 (by omega) (by omega)
      refine a_aload_n C dX12_tell_51 (i := 0) rfl rfl ?_
      refine a_get C fl_RX12_242 (i := 236) kd_236 (hid 236 (by decide)) (v := .int z29) rfl dX12_tell_52 ?_
      refine s_iconst C dX12_tell_55 (1) (by decide) (fun z32 h33 => ?_)
      refine s_isub C dX12_tell_56 (by omega) (fun z34 h35 => ?_)
      exact a_iret Rt dX12_tell_57 rfl (⟨hG31, (ony.I (ony.I (ony.I ony.rf (by decide)) (by decide)) (by decide))⟩)
    ·
      refine s_iconst C dX12_tell_19 (-1) (by decide) (fun z36 h37 => ?_)
      exact a_iret Rt dX12_tell_20 rfl (⟨hG, ony.rf⟩)
theorem dX12_held_9 : decode cX12_held 9 = .ok (.iload_n 0, 1) := by decide +kernel
theorem dX12_held_10 : decode cX12_held 10 = .ok (.iload_n 2, 1) := by decide +kernel
theorem dX12_held_11 : decode cX12_held 11 = .ok (.if_icmp .le 7, 3) := by decide +kernel
theorem dX12_held_14 : decode cX12_held 14 = .ok (.iload_n 2, 1) := by decide +kernel
theorem dX12_held_15 : decode cX12_held 15 = .ok (.goto 4, 3) := by decide +kernel
theorem dX12_held_18 : decode cX12_held 18 = .ok (.iload_n 0, 1) := by decide +kernel
set_option maxHeartbeats 4000000 in
set_option maxRecDepth 100000 in
theorem S_X12_held {l : Launch} {D : va_G} {ids : List Nat} {ad : Nat → Nat} {ca : Nat → ClassId} {σ : HS} {x1 : Int32} {x2 : Int32} {x3 : Int32} (hid : ∀ i, i < 277 → i ∈ ids) (hG : GIm σ) : Ki l D ids ad ca yX12_held cX12_held 3 .int 0 0 [.int x1, .int x2, .int x3] σ (fun r σ1 => (σ1 = σ)) := by
  refine Ki.of (by decide) (Nat.le_of_ble_eq_true rfl) 0 (fun Γ C Rt => ?_)
  show AW ids ad ca Γ 0 [some (.int x1), some (.int x2), some (.int x3)] [] σ
  refine a_iload_n C dX12_held_0 (i := 0) rfl rfl ?_
  refine a_iload_n C dX12_held_1 (i := 1) rfl rfl ?_
  refine s_ic_ge C dX12_held_2 (tgt := 9) rfl (fun c1 => ?_) (fun c1 => ?_)
  ·
    refine a_iload_n C dX12_held_9 (i := 0) rfl rfl ?_
    refine a_iload_n C dX12_held_10 (i := 2) rfl rfl ?_
    refine s_ic_le C dX12_held_11 (tgt := 18) rfl (fun c2 => ?_) (fun c2 => ?_)
    ·
      refine a_iload_n C dX12_held_18 (i := 0) rfl rfl ?_
      exact a_iret Rt dX12_held_19 rfl (rfl)
    ·
      refine a_iload_n C dX12_held_14 (i := 2) rfl rfl ?_
      refine a_goto C dX12_held_15 (tgt := 19) rfl ?_
      exact a_iret Rt dX12_held_19 rfl (rfl)
  ·
    refine a_iload_n C dX12_held_5 (i := 1) rfl rfl ?_
    refine a_goto C dX12_held_6 (tgt := 19) rfl ?_
    exact a_iret Rt dX12_held_19 rfl (rfl)
theorem dX12_is_24 : decode cX12_is 24 = .ok (.iconst 0, 1) := by decide +kernel
set_option maxHeartbeats 4000000 in
set_option maxRecDepth 100000 in
theorem S_X12_is_236 {l : Launch} {D : va_G} {ids : List Nat} {ad : Nat → Nat} {ca : Nat → ClassId} {σ : HS} {x1 : Int32} (hid : ∀ i, i < 277 → i ∈ ids) (hG : GIm σ) : Ki l D ids ad ca yX12_is cX12_is 2 .boolean 0 0 [.ref (ad 236), .int x1] σ (fun r σ1 => (σ1 = σ) ∧ (0 ≤ r.toInt ∧ r.toInt ≤ 1)) := by
  refine Ki.of (by decide) (Nat.le_of_ble_eq_true rfl) 0 (fun Γ C Rt => ?_)
  show AW ids ad ca Γ 0 [some (.ref (ad 236)), some (.int x1)] [] σ
  refine a_aload_n C dX12_is_0 (i := 0) rfl rfl ?_
  refine a_get C fl_RX12_191 (i := 236) kd_236 (hid 236 (by decide)) (v := .int (σ.1 236 13)) rfl dX12_is_1 ?_
  refine s_if_ne C dX12_is_4 (tgt := 24) rfl (fun c1 => ?_) (fun c1 => ?_)
  ·
    refine s_iconst C dX12_is_24 (0) (by decide) (fun z2 h3 => ?_)
    exact a_iret Rt dX12_is_25 (nar_z (by omega)).1 (⟨rfl, (show 0 ≤ z2.toInt ∧ z2.toInt ≤ 1 by intros; omega)⟩)
  ·
    refine a_aload_n C dX12_is_7 (i := 0) rfl rfl ?_
    refine a_get C fl_RX12_20 (i := 236) kd_236 (hid 236 (by decide)) (v := .ref (ad 239)) rfl dX12_is_8 ?_
    refine a_aload_n C dX12_is_11 (i := 0) rfl rfl ?_
    have g4 := bF_236_11 hG
    refine a_get C fl_RX12_194 (i := 236) kd_236 (hid 236 (by decide)) (v := .int (σ.1 236 11)) rfl dX12_is_12 ?_
    refine s_iald C (i := 239) kd_239 (hid 239 (by decide)) al_239 (by omega) (by omega) dX12_is_15 (fun n5 h6 => ?_)
    refine s_val (fun z7 e8 => ?_)
    refine a_iload_n C dX12_is_16 (i := 1) rfl rfl ?_
    refine s_ic_ne C dX12_is_17 (tgt := 24) rfl (fun c9 => ?_) (fun c9 => ?_)
    ·
      refine s_iconst C dX12_is_24 (0) (by decide) (fun z10 h11 => ?_)
      exact a_iret Rt dX12_is_25 (nar_z (by omega)).1 (⟨rfl, (show 0 ≤ z10.toInt ∧ z10.toInt ≤ 1 by intros; omega)⟩)
    ·
      refine s_iconst C dX12_is_20 (1) (by decide) (fun z12 h13 => ?_)
      refine a_goto C dX12_is_21 (tgt := 25) rfl ?_
      exact a_iret Rt dX12_is_25 (nar_z (by omega)).1 (⟨rfl, (show 0 ≤ z12.toInt ∧ z12.toInt ≤ 1 by intros; omega)⟩)
theorem dX12_fail_0 : decode cX12_fail 0 = .ok (.aload_n 0, 1) := by decide +kernel
theorem dX12_fail_1 : decode cX12_fail 1 = .ok (.getfield 191, 3) := by decide +kernel
theorem dX12_fail_4 : decode cX12_fail 4 = .ok (.ifCond .le 4, 3) := by decide +kernel
theorem dX12_fail_7 : decode cX12_fail 7 = .ok (.return_, 1) := by decide +kernel
theorem dX12_fail_8 : decode cX12_fail 8 = .ok (.aload_n 0, 1) := by decide +kernel
theorem dX12_fail_9 : decode cX12_fail 9 = .ok (.iload_n 1, 1) := by decide +kernel
theorem dX12_fail_10 : decode cX12_fail 10 = .ok (.putfield 191, 3) := by decide +kernel
theorem dX12_fail_13 : decode cX12_fail 13 = .ok (.aload_n 0, 1) := by decide +kernel
theorem dX12_fail_14 : decode cX12_fail 14 = .ok (.aload_n 0, 1) := by decide +kernel
theorem dX12_fail_15 : decode cX12_fail 15 = .ok (.getfield 24, 3) := by decide +kernel
theorem dX12_fail_18 : decode cX12_fail 18 = .ok (.aload_n 0, 1) := by decide +kernel
theorem dX12_fail_19 : decode cX12_fail 19 = .ok (.getfield 194, 3) := by decide +kernel
theorem dX12_fail_22 : decode cX12_fail 22 = .ok (.iaload, 1) := by decide +kernel
theorem dX12_fail_23 : decode cX12_fail 23 = .ok (.putfield 197, 3) := by decide +kernel
theorem dX12_fail_26 : decode cX12_fail 26 = .ok (.return_, 1) := by decide +kernel
set_option maxHeartbeats 4000000 in
set_option maxRecDepth 100000 in
theorem S_X12_fail_236 {l : Launch} {D : va_G} {ids : List Nat} {ad : Nat → Nat} {ca : Nat → ClassId} {σ : HS} {x1 : Int32} (hid : ∀ i, i < 277 → i ∈ ids) (hG : GIm σ) : Kv l D ids ad ca yX12_fail cX12_fail 2 0 0 [.ref (ad 236), .int x1] σ (fun σ1 => (GIm σ1) ∧ (ony [236] σ σ1)) := by
  refine Kv.of (by decide) (Nat.le_of_ble_eq_true rfl) 0 (fun Γ C Rt => ?_)
  show AW ids ad ca Γ 0 [some (.ref (ad 236)), some (.int x1)] [] σ
  refine a_aload_n C dX12_fail_0 (i := 0) rfl rfl ?_
  refine a_get C fl_RX12_191 (i := 236) kd_236 (hid 236 (by decide)) (v := .int (σ.1 236 13)) rfl dX12_fail_1 ?_
  refine s_if_le C dX12_fail_4 (tgt := 8) rfl (fun c1 => ?_) (fun c1 => ?_)
  ·
    refine a_aload_n C dX12_fail_8 (i := 0) rfl rfl ?_
    refine a_iload_n C dX12_fail_9 (i := 1) rfl rfl ?_
    refine a_put C fp_RX12_191 (i := 236) kd_236 (hid 236 (by decide)) rfl rfl dX12_fail_10 ?_
    have hG2 := wF_236_13 (v := x1) hG
    refine a_aload_n C dX12_fail_13 (i := 0) rfl rfl ?_
    refine a_aload_n C dX12_fail_14 (i := 0) rfl rfl ?_
    refine a_get C fl_RX12_24 (i := 236) kd_236 (hid 236 (by decide)) (v := .ref (ad 240)) rfl dX12_fail_15 ?_
    refine a_aload_n C dX12_fail_18 (i := 0) rfl rfl ?_
    have g3 := bF_236_11 hG
    refine a_get C fl_RX12_194 (i := 236) kd_236 (hid 236 (by decide)) (v := .int (σ.1 236 11)) rfl dX12_fail_19 ?_
    refine s_iald C (i := 240) kd_240 (hid 240 (by decide)) al_240 (by omega) (by omega) dX12_fail_22 (fun n4 h5 => ?_)
    refine s_val (fun z6 e7 => ?_)
    refine a_put C fp_RX12_197 (i := 236) kd_236 (hid 236 (by decide)) rfl rfl dX12_fail_23 ?_
    have hG8 := wF_236_14 (v := z6) hG2
    exact a_vret Rt dX12_fail_26 (⟨hG8, (ony.I (ony.I ony.rf (by decide)) (by decide))⟩)
  ·
    exact a_vret Rt dX12_fail_7 (⟨hG, ony.rf⟩)
theorem dX12_goesOn_0 : decode cX12_goesOn 0 = .ok (.aload_n 0, 1) := by decide +kernel
theorem dX12_goesOn_1 : decode cX12_goesOn 1 = .ok (.getfield 194, 3) := by decide +kernel
theorem dX12_goesOn_4 : decode cX12_goesOn 4 = .ok (.sipush 400, 3) := by decide +kernel
theorem dX12_goesOn_7 : decode cX12_goesOn 7 = .ok (.if_icmp .ne 11, 3) := by decide +kernel
theorem dX12_goesOn_10 : decode cX12_goesOn 10 = .ok (.aload_n 0, 1) := by decide +kernel
theorem dX12_goesOn_11 : decode cX12_goesOn 11 = .ok (.iconst 2, 1) := by decide +kernel
theorem dX12_goesOn_12 : decode cX12_goesOn 12 = .ok (.invokevirtual 206, 3) := by decide +kernel
theorem dX12_goesOn_15 : decode cX12_goesOn 15 = .ok (.goto 13, 3) := by decide +kernel
theorem dX12_goesOn_18 : decode cX12_goesOn 18 = .ok (.aload_n 0, 1) := by decide +kernel
theorem dX12_goesOn_19 : decode cX12_goesOn 19 = .ok (.dup, 1) := by decide +kernel
theorem dX12_goesOn_20 : decode cX12_goesOn 20 = .ok (.getfield 194, 3) := by decide +kernel
theorem dX12_goesOn_23 : decode cX12_goesOn 23 = .ok (.iconst 1, 1) := by decide +kernel
theorem dX12_goesOn_24 : decode cX12_goesOn 24 = .ok (.iadd, 1) := by decide +kernel
theorem dX12_goesOn_25 : decode cX12_goesOn 25 = .ok (.putfield 194, 3) := by decide +kernel
theorem dX12_goesOn_28 : decode cX12_goesOn 28 = .ok (.return_, 1) := by decide +kernel
set_option maxHeartbeats 4000000 in
set_option maxRecDepth 100000 in
theorem S_X12_goesOn_236 {l : Launch} {D : va_G} {ids : List Nat} {ad : Nat → Nat} {ca : Nat → ClassId} {σ : HS} (hid : ∀ i, i < 277 → i ∈ ids) (hG : GIm σ) : Kv l D ids ad ca yX12_goesOn cX12_goesOn 1 1 21 [.ref (ad 236)] σ (fun σ1 => (GIm σ1) ∧ (ony [236] σ σ1)) := by
  refine Kv.of (by decide) (Nat.le_of_ble_eq_true rfl) 0 (fun Γ C Rt => ?_)
  show AW ids ad ca Γ 0 [some (.ref (ad 236))] [] σ
  refine a_aload_n C dX12_goesOn_0 (i := 0) rfl rfl ?_
  have g1 := bF_236_11 hG
  refine a_get C fl_RX12_194 (i := 236) kd_236 (hid 236 (by decide)) (v := .int (σ.1 236 11)) rfl dX12_goesOn_1 ?_
  refine s_sipush C dX12_goesOn_4 (400) (by decide) (fun z2 h3 => ?_)
  refine s_ic_ne C dX12_goesOn_7 (tgt := 18) rfl (fun c4 => ?_) (fun c4 => ?_)
  ·
    refine a_aload_n C dX12_goesOn_18 (i := 0) rfl rfl ?_
    refine a_dup C dX12_goesOn_19 rfl ?_
    have g5 := bF_236_11 hG
    refine a_get C fl_RX12_194 (i := 236) kd_236 (hid 236 (by decide)) (v := .int (σ.1 236 11)) rfl dX12_goesOn_20 ?_
    refine s_iconst C dX12_goesOn_23 (1) (by decide) (fun z6 h7 => ?_)
    refine s_iadd C dX12_goesOn_24 (by omega) (fun z8 h9 => ?_)
    refine a_put C fp_RX12_194 (i := 236) kd_236 (hid 236 (by decide)) rfl rfl dX12_goesOn_25 ?_
    have hG10 := wF_236_11 (v := z8) hG (by omega) (by omega)
    exact a_vret Rt dX12_goesOn_28 (⟨hG10, (ony.I ony.rf (by decide))⟩)
  ·
    refine a_aload_n C dX12_goesOn_10 (i := 0) rfl rfl ?_
    refine s_iconst C dX12_goesOn_11 (2) (by decide) (fun z11 h12 => ?_)
    refine a_callVv C (i := 236) kd_236 (hid 236 (by decide)) ⟨_, _, rfl⟩ (by decide) (S_X12_fail_236 (x1 := z11) hid hG) mi_X12_fail ml_RX12_206 rfl rfl (Nat.le_of_ble_eq_true rfl) (Nat.le_of_ble_eq_true rfl) (Nat.le_of_ble_eq_true rfl) dX12_goesOn_12 (fun σ14 q15 => ?_)
    obtain ⟨hG16, ho17⟩ := q15
    refine a_goto C dX12_goesOn_15 (tgt := 28) rfl ?_
    exact a_vret Rt dX12_goesOn_28 (⟨hG16, (ony.tr ony.rf (ony.mono ho17 (by decide)))⟩)
theorem dX12_must_0 : decode cX12_must 0 = .ok (.aload_n 0, 1) := by decide +kernel
theorem dX12_must_1 : decode cX12_must 1 = .ok (.iload_n 1, 1) := by decide +kernel
theorem dX12_must_2 : decode cX12_must 2 = .ok (.invokevirtual 209, 3) := by decide +kernel
theorem dX12_must_5 : decode cX12_must 5 = .ok (.ifCond .eq 10, 3) := by decide +kernel
theorem dX12_must_8 : decode cX12_must 8 = .ok (.aload_n 0, 1) := by decide +kernel
theorem dX12_must_9 : decode cX12_must 9 = .ok (.invokevirtual 212, 3) := by decide +kernel
theorem dX12_must_12 : decode cX12_must 12 = .ok (.goto 8, 3) := by decide +kernel
theorem dX12_must_15 : decode cX12_must 15 = .ok (.aload_n 0, 1) := by decide +kernel
theorem dX12_must_16 : decode cX12_must 16 = .ok (.iconst 1, 1) := by decide +kernel
theorem dX12_must_17 : decode cX12_must 17 = .ok (.invokevirtual 206, 3) := by decide +kernel
theorem dX12_must_20 : decode cX12_must 20 = .ok (.return_, 1) := by decide +kernel
set_option maxHeartbeats 4000000 in
set_option maxRecDepth 100000 in
theorem S_X12_must_236 {l : Launch} {D : va_G} {ids : List Nat} {ad : Nat → Nat} {ca : Nat → ClassId} {σ : HS} {x1 : Int32} (hid : ∀ i, i < 277 → i ∈ ids) (hG : GIm σ) : Kv l D ids ad ca yX12_must cX12_must 2 2 41 [.ref (ad 236), .int x1] σ (fun σ1 => (GIm σ1) ∧ (ony [236] σ σ1)) := by
  refine Kv.of (by decide) (Nat.le_of_ble_eq_true rfl) 0 (fun Γ C Rt => ?_)
  show AW ids ad ca Γ 0 [some (.ref (ad 236)), some (.int x1)] [] σ
  refine a_aload_n C dX12_must_0 (i := 0) rfl rfl ?_
  refine a_iload_n C dX12_must_1 (i := 1) rfl rfl ?_
  refine a_callVi C (i := 236) kd_236 (hid 236 (by decide)) ⟨_, _, rfl⟩ (by decide) (S_X12_is_236 (x1 := x1) hid hG) mi_X12_is ml_RX12_209 rfl rfl (Nat.le_of_ble_eq_true rfl) (Nat.le_of_ble_eq_true rfl) (Nat.le_of_ble_eq_true rfl) dX12_must_2 (fun z1 σ2 q3 => ?_)
  obtain ⟨w4, w5⟩ := q3
  rw [w4]
  refine s_if_eq C dX12_must_5 (tgt := 15) rfl (fun c6 => ?_) (fun c6 => ?_)
  ·
    refine a_aload_n C dX12_must_15 (i := 0) rfl rfl ?_
    refine s_iconst C dX12_must_16 (1) (by decide) (fun z7 h8 => ?_)
    refine a_callVv C (i := 236) kd_236 (hid 236 (by decide)) ⟨_, _, rfl⟩ (by decide) (S_X12_fail_236 (x1 := z7) hid hG) mi_X12_fail ml_RX12_206 rfl rfl (Nat.le_of_ble_eq_true rfl) (Nat.le_of_ble_eq_true rfl) (Nat.le_of_ble_eq_true rfl) dX12_must_17 (fun σ10 q11 => ?_)
    obtain ⟨hG12, ho13⟩ := q11
    exact a_vret Rt dX12_must_20 (⟨hG12, (ony.tr ony.rf (ony.mono ho13 (by decide)))⟩)
  ·
    refine a_aload_n C dX12_must_8 (i := 0) rfl rfl ?_
    refine a_callVv C (i := 236) kd_236 (hid 236 (by decide)) ⟨_, _, rfl⟩ (by decide) (S_X12_goesOn_236 hid hG) mi_X12_goesOn ml_RX12_212 rfl rfl (Nat.le_of_ble_eq_true rfl) (Nat.le_of_ble_eq_true rfl) (Nat.le_of_ble_eq_true rfl) dX12_must_9 (fun σ16 q17 => ?_)
    obtain ⟨hG18, ho19⟩ := q17
    refine a_goto C dX12_must_12 (tgt := 20) rfl ?_
    exact a_vret Rt dX12_must_20 (⟨hG18, (ony.tr ony.rf (ony.mono ho19 (by decide)))⟩)
theorem dX12_roomFor_0 : decode cX12_roomFor 0 = .ok (.iload_n 1, 1) := by decide +kernel
theorem dX12_roomFor_1 : decode cX12_roomFor 1 = .ok (.iload_n 2, 1) := by decide +kernel
theorem dX12_roomFor_2 : decode cX12_roomFor 2 = .ok (.if_icmp .ne 8, 3) := by decide +kernel
theorem dX12_roomFor_5 : decode cX12_roomFor 5 = .ok (.aload_n 0, 1) := by decide +kernel
theorem dX12_roomFor_6 : decode cX12_roomFor 6 = .ok (.iconst 2, 1) := by decide +kernel
theorem dX12_roomFor_7 : decode cX12_roomFor 7 = .ok (.invokevirtual 206, 3) := by decide +kernel
theorem dX12_roomFor_10 : decode cX12_roomFor 10 = .ok (.aload_n 0, 1) := by decide +kernel
theorem dX12_roomFor_11 : decode cX12_roomFor 11 = .ok (.getfield 191, 3) := by decide +kernel
theorem dX12_roomFor_14 : decode cX12_roomFor 14 = .ok (.ifCond .ne 7, 3) := by decide +kernel
theorem dX12_roomFor_17 : decode cX12_roomFor 17 = .ok (.aload_n 0, 1) := by decide +kernel
theorem dX12_roomFor_18 : decode cX12_roomFor 18 = .ok (.invokevirtual 212, 3) := by decide +kernel
theorem dX12_roomFor_21 : decode cX12_roomFor 21 = .ok (.return_, 1) := by decide +kernel
set_option maxHeartbeats 4000000 in
set_option maxRecDepth 100000 in
theorem S_X12_roomFor_236 {l : Launch} {D : va_G} {ids : List Nat} {ad : Nat → Nat} {ca : Nat → ClassId} {σ : HS} {x1 : Int32} {x2 : Int32} (hid : ∀ i, i < 277 → i ∈ ids) (hG : GIm σ) : Kv l D ids ad ca yX12_roomFor cX12_roomFor 3 2 41 [.ref (ad 236), .int x1, .int x2] σ (fun σ1 => (GIm σ1) ∧ (ony [236] σ σ1)) := by
  refine Kv.of (by decide) (Nat.le_of_ble_eq_true rfl) 0 (fun Γ C Rt => ?_)
  show AW ids ad ca Γ 0 [some (.ref (ad 236)), some (.int x1), some (.int x2)] [] σ
  have j10 : ∀ (σq10 : HS), GIm σq10 → ony [236] σ σq10 → AW ids ad ca Γ 10 [some (.ref (ad 236)), none, none] [] σq10 := by
    intro σq10 hGq10 hoq10
    refine a_aload_n C dX12_roomFor_10 (i := 0) rfl rfl ?_
    refine a_get C fl_RX12_191 (i := 236) kd_236 (hid 236 (by decide)) (v := .int (σq10.1 236 13)) rfl dX12_roomFor_11 ?_
    refine s_if_ne C dX12_roomFor_14 (tgt := 21) rfl (fun c1 => ?_) (fun c1 => ?_)
    ·
      exact a_vret Rt dX12_roomFor_21 (⟨hGq10, hoq10⟩)
    ·
      refine a_aload_n C dX12_roomFor_17 (i := 0) rfl rfl ?_
      refine a_callVv C (i := 236) kd_236 (hid 236 (by decide)) ⟨_, _, rfl⟩ (by decide) (S_X12_goesOn_236 hid hGq10) mi_X12_goesOn ml_RX12_212 rfl rfl (Nat.le_of_ble_eq_true rfl) (Nat.le_of_ble_eq_true rfl) (Nat.le_of_ble_eq_true rfl) dX12_roomFor_18 (fun σ3 q4 => ?_)
      obtain ⟨hG5, ho6⟩ := q4
      exact a_vret Rt dX12_roomFor_21 (⟨hG5, (ony.tr hoq10 (ony.mono ho6 (by decide)))⟩)
  refine a_iload_n C dX12_roomFor_0 (i := 1) rfl rfl ?_
  refine a_iload_n C dX12_roomFor_1 (i := 2) rfl rfl ?_
  refine s_ic_ne C dX12_roomFor_2 (tgt := 10) rfl (fun c8 => ?_) (fun c8 => ?_)
  ·
    refine AW.sub (vs' := [some (.ref (ad 236)), none, none]) (lsub_of (by simp [lsubB])) ?_
    exact j10 _ hG ony.rf
  ·
    refine a_aload_n C dX12_roomFor_5 (i := 0) rfl rfl ?_
    refine s_iconst C dX12_roomFor_6 (2) (by decide) (fun z9 h10 => ?_)
    refine a_callVv C (i := 236) kd_236 (hid 236 (by decide)) ⟨_, _, rfl⟩ (by decide) (S_X12_fail_236 (x1 := z9) hid hG) mi_X12_fail ml_RX12_206 rfl rfl (Nat.le_of_ble_eq_true rfl) (Nat.le_of_ble_eq_true rfl) (Nat.le_of_ble_eq_true rfl) dX12_roomFor_7 (fun σ12 q13 => ?_)
    obtain ⟨hG14, ho15⟩ := q13
    refine AW.sub (vs' := [some (.ref (ad 236)), none, none]) (lsub_of (by simp [lsubB])) ?_
    exact j10 _ hG14 (ony.tr ony.rf (ony.mono ho15 (by decide)))
theorem dX12_wrong_0 : decode cX12_wrong 0 = .ok (.aload_n 0, 1) := by decide +kernel
theorem dX12_wrong_1 : decode cX12_wrong 1 = .ok (.getfield 24, 3) := by decide +kernel
theorem dX12_wrong_4 : decode cX12_wrong 4 = .ok (.iload_n 2, 1) := by decide +kernel
theorem dX12_wrong_5 : decode cX12_wrong 5 = .ok (.iaload, 1) := by decide +kernel
theorem dX12_wrong_6 : decode cX12_wrong 6 = .ok (.istore_n 3, 1) := by decide +kernel
theorem dX12_wrong_7 : decode cX12_wrong 7 = .ok (.aload_n 0, 1) := by decide +kernel
theorem dX12_wrong_8 : decode cX12_wrong 8 = .ok (.getfield 191, 3) := by decide +kernel
theorem dX12_wrong_11 : decode cX12_wrong 11 = .ok (.ifCond .gt 34, 3) := by decide +kernel
theorem dX12_wrong_14 : decode cX12_wrong 14 = .ok (.aload_n 0, 1) := by decide +kernel
theorem dX12_wrong_15 : decode cX12_wrong 15 = .ok (.getfield 200, 3) := by decide +kernel
theorem dX12_wrong_18 : decode cX12_wrong 18 = .ok (.ifCond .eq 28, 3) := by decide +kernel
theorem dX12_wrong_21 : decode cX12_wrong 21 = .ok (.iload_n 3, 1) := by decide +kernel
theorem dX12_wrong_22 : decode cX12_wrong 22 = .ok (.aload_n 0, 1) := by decide +kernel
theorem dX12_wrong_23 : decode cX12_wrong 23 = .ok (.getfield 203, 3) := by decide +kernel
theorem dX12_wrong_26 : decode cX12_wrong 26 = .ok (.if_icmp .gt 19, 3) := by decide +kernel
theorem dX12_wrong_29 : decode cX12_wrong 29 = .ok (.iload_n 3, 1) := by decide +kernel
theorem dX12_wrong_30 : decode cX12_wrong 30 = .ok (.aload_n 0, 1) := by decide +kernel
theorem dX12_wrong_31 : decode cX12_wrong 31 = .ok (.getfield 203, 3) := by decide +kernel
theorem dX12_wrong_34 : decode cX12_wrong 34 = .ok (.if_icmp .ne 12, 3) := by decide +kernel
theorem dX12_wrong_37 : decode cX12_wrong 37 = .ok (.iload_n 1, 1) := by decide +kernel
theorem dX12_wrong_38 : decode cX12_wrong 38 = .ok (.aload_n 0, 1) := by decide +kernel
theorem dX12_wrong_39 : decode cX12_wrong 39 = .ok (.getfield 200, 3) := by decide +kernel
theorem dX12_wrong_42 : decode cX12_wrong 42 = .ok (.if_icmp .lt 4, 3) := by decide +kernel
theorem dX12_wrong_45 : decode cX12_wrong 45 = .ok (.return_, 1) := by decide +kernel
theorem dX12_wrong_46 : decode cX12_wrong 46 = .ok (.aload_n 0, 1) := by decide +kernel
theorem dX12_wrong_47 : decode cX12_wrong 47 = .ok (.iload_n 1, 1) := by decide +kernel
theorem dX12_wrong_48 : decode cX12_wrong 48 = .ok (.putfield 200, 3) := by decide +kernel
theorem dX12_wrong_51 : decode cX12_wrong 51 = .ok (.aload_n 0, 1) := by decide +kernel
theorem dX12_wrong_52 : decode cX12_wrong 52 = .ok (.iload_n 3, 1) := by decide +kernel
theorem dX12_wrong_53 : decode cX12_wrong 53 = .ok (.putfield 203, 3) := by decide +kernel
theorem dX12_wrong_56 : decode cX12_wrong 56 = .ok (.return_, 1) := by decide +kernel
set_option maxHeartbeats 4000000 in
set_option maxRecDepth 100000 in
theorem S_X12_wrong_236 {l : Launch} {D : va_G} {ids : List Nat} {ad : Nat → Nat} {ca : Nat → ClassId} {σ : HS} {x1 : Int32} {x2 : Int32} (hid : ∀ i, i < 277 → i ∈ ids) (hG : GIm σ) (hx2 : 0 ≤ x2.toInt ∧ x2.toInt ≤ 402) : Kv l D ids ad ca yX12_wrong cX12_wrong 4 0 0 [.ref (ad 236), .int x1, .int x2] σ (fun σ1 => (GIm σ1) ∧ (ony [236] σ σ1)) := by
  refine Kv.of (by decide) (Nat.le_of_ble_eq_true rfl) 1 (fun Γ C Rt => ?_)
  show AW ids ad ca Γ 0 [some (.ref (ad 236)), some (.int x1), some (.int x2), none] [] σ
  have j46 : ∀ (σq46 : HS) (y46_3 : Int32), GIm σq46 → ony [236] σ σq46 → AW ids ad ca Γ 46 [some (.ref (ad 236)), some (.int x1), none, some (.int y46_3)] [] σq46 := by
    intro σq46 y46_3 hGq46 hoq46
    refine a_aload_n C dX12_wrong_46 (i := 0) rfl rfl ?_
    refine a_iload_n C dX12_wrong_47 (i := 1) rfl rfl ?_
    refine a_put C fp_RX12_200 (i := 236) kd_236 (hid 236 (by decide)) rfl rfl dX12_wrong_48 ?_
    have hG1 := wF_236_15 (v := x1) hGq46
    refine a_aload_n C dX12_wrong_51 (i := 0) rfl rfl ?_
    refine a_iload_n C dX12_wrong_52 (i := 3) rfl rfl ?_
    refine a_put C fp_RX12_203 (i := 236) kd_236 (hid 236 (by decide)) rfl rfl dX12_wrong_53 ?_
    have hG2 := wF_236_16 (v := y46_3) hG1
    exact a_vret Rt dX12_wrong_56 (⟨hG2, (ony.I (ony.I hoq46 (by decide)) (by decide))⟩)
  refine a_aload_n C dX12_wrong_0 (i := 0) rfl rfl ?_
  refine a_get C fl_RX12_24 (i := 236) kd_236 (hid 236 (by decide)) (v := .ref (ad 240)) rfl dX12_wrong_1 ?_
  refine a_iload_n C dX12_wrong_4 (i := 2) rfl rfl ?_
  refine s_iald C (i := 240) kd_240 (hid 240 (by decide)) al_240 (by omega) (by omega) dX12_wrong_5 (fun n3 h4 => ?_)
  refine s_val (fun z5 e6 => ?_)
  refine a_istore_n C dX12_wrong_6 (i := 3) rfl (by decide) rfl (vs1 := [some (.ref (ad 236)), some (.int x1), some (.int x2), some (.int z5)]) rfl ?_
  refine a_aload_n C dX12_wrong_7 (i := 0) rfl rfl ?_
  refine a_get C fl_RX12_191 (i := 236) kd_236 (hid 236 (by decide)) (v := .int (σ.1 236 13)) rfl dX12_wrong_8 ?_
  refine s_if_gt C dX12_wrong_11 (tgt := 45) rfl (fun c7 => ?_) (fun c7 => ?_)
  ·
    exact a_vret Rt dX12_wrong_45 (⟨hG, ony.rf⟩)
  ·
    refine a_aload_n C dX12_wrong_14 (i := 0) rfl rfl ?_
    refine a_get C fl_RX12_200 (i := 236) kd_236 (hid 236 (by decide)) (v := .int (σ.1 236 15)) rfl dX12_wrong_15 ?_
    refine s_if_eq C dX12_wrong_18 (tgt := 46) rfl (fun c8 => ?_) (fun c8 => ?_)
    ·
      refine AW.sub (vs' := [some (.ref (ad 236)), some (.int x1), none, some (.int z5)]) (lsub_of (by simp [lsubB])) ?_
      exact j46 _ z5 hG ony.rf
    ·
      refine a_iload_n C dX12_wrong_21 (i := 3) rfl rfl ?_
      refine a_aload_n C dX12_wrong_22 (i := 0) rfl rfl ?_
      refine a_get C fl_RX12_203 (i := 236) kd_236 (hid 236 (by decide)) (v := .int (σ.1 236 16)) rfl dX12_wrong_23 ?_
      refine s_ic_gt C dX12_wrong_26 (tgt := 45) rfl (fun c9 => ?_) (fun c9 => ?_)
      ·
        exact a_vret Rt dX12_wrong_45 (⟨hG, ony.rf⟩)
      ·
        refine a_iload_n C dX12_wrong_29 (i := 3) rfl rfl ?_
        refine a_aload_n C dX12_wrong_30 (i := 0) rfl rfl ?_
        refine a_get C fl_RX12_203 (i := 236) kd_236 (hid 236 (by decide)) (v := .int (σ.1 236 16)) rfl dX12_wrong_31 ?_
        refine s_ic_ne C dX12_wrong_34 (tgt := 46) rfl (fun c10 => ?_) (fun c10 => ?_)
        ·
          refine AW.sub (vs' := [some (.ref (ad 236)), some (.int x1), none, some (.int z5)]) (lsub_of (by simp [lsubB])) ?_
          exact j46 _ z5 hG ony.rf
        ·
          refine a_iload_n C dX12_wrong_37 (i := 1) rfl rfl ?_
          refine a_aload_n C dX12_wrong_38 (i := 0) rfl rfl ?_
          refine a_get C fl_RX12_200 (i := 236) kd_236 (hid 236 (by decide)) (v := .int (σ.1 236 15)) rfl dX12_wrong_39 ?_
          refine s_ic_lt C dX12_wrong_42 (tgt := 46) rfl (fun c11 => ?_) (fun c11 => ?_)
          ·
            refine AW.sub (vs' := [some (.ref (ad 236)), some (.int x1), none, some (.int z5)]) (lsub_of (by simp [lsubB])) ?_
            exact j46 _ z5 hG ony.rf
          ·
            exact a_vret Rt dX12_wrong_45 (⟨hG, ony.rf⟩)
set_option maxHeartbeats 4000000 in
set_option maxRecDepth 100000 in
theorem S_X12_token_236 {l : Launch} {D : va_G} {ids : List Nat} {ad : Nat → Nat} {ca : Nat → ClassId} {σ : HS} {x1 : Int32} {x2 : Int32} {x3 : Int32} {x4 : Int64} (hid : ∀ i, i < 277 → i ∈ ids) (hG : GIm σ) (hp0 : (σ.1 236 10).toInt ≤ 401) : Kv l D ids ad ca yX12_token cX12_token 6 0 0 [.ref (ad 236), .int x1, .int x2, .int x3, .long x4] σ (fun σ1 => (GIm σ1) ∧ (ony [236, 239, 240, 241, 242] σ σ1)) := by
  refine Kv.of (by decide) (Nat.le_of_ble_eq_true rfl) 0 (fun Γ C Rt => ?_)
  show AW ids ad ca Γ 0 [some (.ref (ad 236)), some (.int x1), some (.int x2), some (.int x3), some (.long x4), none] [] σ
  refine a_aload_n C dX12_token_0 (i := 0) rfl rfl ?_
  refine a_get C fl_RX12_20 (i := 236) kd_236 (hid 236 (by decide)) (v := .ref (ad 239)) rfl dX12_token_1 ?_
  refine a_aload_n C dX12_token_4 (i := 0) rfl rfl ?_
  have g1 := bF_236_10 hG
  refine a_get C fl_RX12_169 (i := 236) kd_236 (hid 236 (by decide)) (v := .int (σ.1 236 10)) rfl dX12_token_5 ?_
  refine a_iload_n C dX12_token_8 (i := 1) rfl rfl ?_
  refine s_iast C (i := 239) kd_239 (hid 239 (by decide)) al_239 (by omega) (by omega) dX12_token_9 (fun n2 h3 => ?_)
  have hG4 := wA_239 (v := x1) (j := n2) hG
  refine a_aload_n C dX12_token_10 (i := 0) rfl rfl ?_
  refine a_get C fl_RX12_24 (i := 236) kd_236 (hid 236 (by decide)) (v := .ref (ad 240)) rfl dX12_token_11 ?_
  refine a_aload_n C dX12_token_14 (i := 0) rfl rfl ?_
  have g5 := bF_236_10 hG
  refine a_get C fl_RX12_169 (i := 236) kd_236 (hid 236 (by decide)) (v := .int (σ.1 236 10)) rfl dX12_token_15 ?_
  refine a_iload_n C dX12_token_18 (i := 2) rfl rfl ?_
  refine s_iast C (i := 240) kd_240 (hid 240 (by decide)) al_240 (by omega) (by omega) dX12_token_19 (fun n6 h7 => ?_)
  have hG8 := wA_240 (v := x2) (j := n6) hG4
  refine a_aload_n C dX12_token_20 (i := 0) rfl rfl ?_
  refine a_get C fl_RX12_27 (i := 236) kd_236 (hid 236 (by decide)) (v := .ref (ad 241)) rfl dX12_token_21 ?_
  refine a_aload_n C dX12_token_24 (i := 0) rfl rfl ?_
  have g9 := bF_236_10 hG
  refine a_get C fl_RX12_169 (i := 236) kd_236 (hid 236 (by decide)) (v := .int (σ.1 236 10)) rfl dX12_token_25 ?_
  refine a_iload_n C dX12_token_28 (i := 3) rfl rfl ?_
  refine s_iast C (i := 241) kd_241 (hid 241 (by decide)) al_241 (by omega) (by omega) dX12_token_29 (fun n10 h11 => ?_)
  have hG12 := wA_241 (v := x3) (j := n10) hG8
  refine a_aload_n C dX12_token_30 (i := 0) rfl rfl ?_
  refine a_get C fl_RX12_30 (i := 236) kd_236 (hid 236 (by decide)) (v := .ref (ad 242)) rfl dX12_token_31 ?_
  refine a_aload_n C dX12_token_34 (i := 0) rfl rfl ?_
  have g13 := bF_236_10 hG
  refine a_get C fl_RX12_169 (i := 236) kd_236 (hid 236 (by decide)) (v := .int (σ.1 236 10)) rfl dX12_token_35 ?_
  refine a_lload C dX12_token_38 rfl ?_
  refine s_last C (i := 242) kd_242 (hid 242 (by decide)) al_242 (by omega) (by omega) dX12_token_40 (fun n14 h15 => ?_)
  have hG16 := GIm.L (i := 242) (k := n14) (v := x4) hG12 (by decide)
  refine a_aload_n C dX12_token_41 (i := 0) rfl rfl ?_
  refine a_dup C dX12_token_42 rfl ?_
  have g17 := bF_236_10 hG
  refine a_get C fl_RX12_169 (i := 236) kd_236 (hid 236 (by decide)) (v := .int (σ.1 236 10)) rfl dX12_token_43 ?_
  refine s_iconst C dX12_token_46 (1) (by decide) (fun z18 h19 => ?_)
  refine s_iadd C dX12_token_47 (by omega) (fun z20 h21 => ?_)
  refine a_put C fp_RX12_169 (i := 236) kd_236 (hid 236 (by decide)) rfl rfl dX12_token_48 ?_
  have hG22 := wF_236_10 (v := z20) hG16 (by omega) (by omega)
  exact a_vret Rt dX12_token_51 (⟨hG22, (ony.I (ony.L (ony.I (ony.I (ony.I ony.rf (by decide)) (by decide)) (by decide)) (by decide)) (by decide))⟩)
theorem dX12_sign_0 : decode cX12_sign 0 = .ok (.iload_n 2, 1) := by decide +kernel
theorem dX12_sign_1 : decode cX12_sign 1 = .ok (.bipush 59, 2) := by decide +kernel
theorem dX12_sign_3 : decode cX12_sign 3 = .ok (.if_icmp .ne 7, 3) := by decide +kernel
theorem dX12_sign_6 : decode cX12_sign 6 = .ok (.iconst 4, 1) := by decide +kernel
theorem dX12_sign_7 : decode cX12_sign 7 = .ok (.goto 36, 3) := by decide +kernel
theorem dX12_sign_10 : decode cX12_sign 10 = .ok (.iload_n 2, 1) := by decide +kernel
theorem dX12_sign_11 : decode cX12_sign 11 = .ok (.bipush 61, 2) := by decide +kernel
theorem dX12_sign_13 : decode cX12_sign 13 = .ok (.if_icmp .ne 7, 3) := by decide +kernel
theorem dX12_sign_16 : decode cX12_sign 16 = .ok (.iconst 5, 1) := by decide +kernel
theorem dX12_sign_17 : decode cX12_sign 17 = .ok (.goto 26, 3) := by decide +kernel
theorem dX12_sign_20 : decode cX12_sign 20 = .ok (.iload_n 2, 1) := by decide +kernel
theorem dX12_sign_21 : decode cX12_sign 21 = .ok (.bipush 40, 2) := by decide +kernel
theorem dX12_sign_23 : decode cX12_sign 23 = .ok (.if_icmp .ne 8, 3) := by decide +kernel
theorem dX12_sign_26 : decode cX12_sign 26 = .ok (.bipush 6, 2) := by decide +kernel
theorem dX12_sign_28 : decode cX12_sign 28 = .ok (.goto 15, 3) := by decide +kernel
theorem dX12_sign_31 : decode cX12_sign 31 = .ok (.iload_n 2, 1) := by decide +kernel
theorem dX12_sign_32 : decode cX12_sign 32 = .ok (.bipush 41, 2) := by decide +kernel
theorem dX12_sign_34 : decode cX12_sign 34 = .ok (.if_icmp .ne 8, 3) := by decide +kernel
theorem dX12_sign_37 : decode cX12_sign 37 = .ok (.bipush 7, 2) := by decide +kernel
theorem dX12_sign_39 : decode cX12_sign 39 = .ok (.goto 4, 3) := by decide +kernel
theorem dX12_sign_42 : decode cX12_sign 42 = .ok (.iconst 3, 1) := by decide +kernel
theorem dX12_sign_43 : decode cX12_sign 43 = .ok (.istore 4, 2) := by decide +kernel
theorem dX12_sign_45 : decode cX12_sign 45 = .ok (.iload_n 2, 1) := by decide +kernel
theorem dX12_sign_46 : decode cX12_sign 46 = .ok (.bipush 43, 2) := by decide +kernel
theorem dX12_sign_48 : decode cX12_sign 48 = .ok (.if_icmp .ne 7, 3) := by decide +kernel
theorem dX12_sign_51 : decode cX12_sign 51 = .ok (.bipush 8, 2) := by decide +kernel
theorem dX12_sign_53 : decode cX12_sign 53 = .ok (.istore 4, 2) := by decide +kernel
theorem dX12_sign_55 : decode cX12_sign 55 = .ok (.iload_n 2, 1) := by decide +kernel
theorem dX12_sign_56 : decode cX12_sign 56 = .ok (.bipush 45, 2) := by decide +kernel
theorem dX12_sign_58 : decode cX12_sign 58 = .ok (.if_icmp .ne 7, 3) := by decide +kernel
theorem dX12_sign_61 : decode cX12_sign 61 = .ok (.bipush 9, 2) := by decide +kernel
theorem dX12_sign_63 : decode cX12_sign 63 = .ok (.istore 4, 2) := by decide +kernel
theorem dX12_sign_65 : decode cX12_sign 65 = .ok (.iload_n 2, 1) := by decide +kernel
theorem dX12_sign_66 : decode cX12_sign 66 = .ok (.bipush 42, 2) := by decide +kernel
theorem dX12_sign_68 : decode cX12_sign 68 = .ok (.if_icmp .ne 7, 3) := by decide +kernel
theorem dX12_sign_71 : decode cX12_sign 71 = .ok (.bipush 10, 2) := by decide +kernel
theorem dX12_sign_73 : decode cX12_sign 73 = .ok (.istore 4, 2) := by decide +kernel
theorem dX12_sign_75 : decode cX12_sign 75 = .ok (.iload_n 2, 1) := by decide +kernel
theorem dX12_sign_76 : decode cX12_sign 76 = .ok (.bipush 47, 2) := by decide +kernel
theorem dX12_sign_78 : decode cX12_sign 78 = .ok (.if_icmp .ne 7, 3) := by decide +kernel
theorem dX12_sign_81 : decode cX12_sign 81 = .ok (.bipush 15, 2) := by decide +kernel
theorem dX12_sign_83 : decode cX12_sign 83 = .ok (.istore 4, 2) := by decide +kernel
theorem dX12_sign_85 : decode cX12_sign 85 = .ok (.iload_n 2, 1) := by decide +kernel
theorem dX12_sign_86 : decode cX12_sign 86 = .ok (.bipush 60, 2) := by decide +kernel
theorem dX12_sign_88 : decode cX12_sign 88 = .ok (.if_icmp .ne 7, 3) := by decide +kernel
theorem dX12_sign_91 : decode cX12_sign 91 = .ok (.bipush 13, 2) := by decide +kernel
theorem dX12_sign_93 : decode cX12_sign 93 = .ok (.istore 4, 2) := by decide +kernel
theorem dX12_sign_95 : decode cX12_sign 95 = .ok (.aload_n 0, 1) := by decide +kernel
theorem dX12_sign_96 : decode cX12_sign 96 = .ok (.iload 4, 2) := by decide +kernel
theorem dX12_sign_98 : decode cX12_sign 98 = .ok (.iload_n 1, 1) := by decide +kernel
theorem dX12_sign_99 : decode cX12_sign 99 = .ok (.iconst 0, 1) := by decide +kernel
theorem dX12_sign_100 : decode cX12_sign 100 = .ok (.lconst 0, 1) := by decide +kernel
theorem dX12_sign_101 : decode cX12_sign 101 = .ok (.invokevirtual 176, 3) := by decide +kernel
theorem dX12_sign_104 : decode cX12_sign 104 = .ok (.iconst 1, 1) := by decide +kernel
theorem dX12_sign_105 : decode cX12_sign 105 = .ok (.ireturn, 1) := by decide +kernel
set_option maxHeartbeats 4000000 in
set_option maxRecDepth 100000 in
theorem S_X12_sign_236 {l : Launch} {D : va_G} {ids : List Nat} {ad : Nat → Nat} {ca : Nat → ClassId} {σ : HS} {x1 : Int32} {x2 : Int32} {x3 : Int32} (hid : ∀ i, i < 277 → i ∈ ids) (hG : GIm σ) (hp0 : (σ.1 236 10).toInt ≤ 401) : Ki l D ids ad ca yX12_sign cX12_sign 5 .int 1 25 [.ref (ad 236), .int x1, .int x2, .int x3] σ (fun r σ1 => (GIm σ1) ∧ (ony [236, 239, 240, 241, 242] σ σ1)) := by
  refine Ki.of (by decide) (Nat.le_of_ble_eq_true rfl) 1 (fun Γ C Rt => ?_)
  show AW ids ad ca Γ 0 [some (.ref (ad 236)), some (.int x1), some (.int x2), some (.int x3), none] [] σ
  have j95 : ∀ (σq95 : HS) (y95_4 : Int32), GIm σq95 → ony [236, 239, 240, 241, 242] σ σq95 → 3 ≤ y95_4.toInt ∧ y95_4.toInt ≤ 15 → (σq95.1 236 10).toInt ≤ 401 → AW ids ad ca Γ 95 [some (.ref (ad 236)), some (.int x1), none, none, some (.int y95_4)] [] σq95 := by
    intro σq95 y95_4 hGq95 hoq95 hx95_0 hx95_1
    refine a_aload_n C dX12_sign_95 (i := 0) rfl rfl ?_
    refine a_iload C dX12_sign_96 rfl ?_
    refine a_iload_n C dX12_sign_98 (i := 1) rfl rfl ?_
    refine s_iconst C dX12_sign_99 (0) (by decide) (fun z1 h2 => ?_)
    refine a_lconst C dX12_sign_100 (v := 0) rfl ?_
    refine a_callVv C (i := 236) kd_236 (hid 236 (by decide)) ⟨_, _, rfl⟩ (by decide) (S_X12_token_236 (x1 := y95_4) (x2 := x1) (x3 := z1) (x4 := 0) hid hGq95 (by omega)) mi_X12_token ml_RX12_176 rfl rfl (Nat.le_of_ble_eq_true rfl) (Nat.le_of_ble_eq_true rfl) (Nat.le_of_ble_eq_true rfl) dX12_sign_101 (fun σ4 q5 => ?_)
    obtain ⟨hG6, ho7⟩ := q5
    refine s_iconst C dX12_sign_104 (1) (by decide) (fun z9 h10 => ?_)
    exact a_iret Rt dX12_sign_105 rfl (⟨hG6, (ony.tr hoq95 (ony.mono ho7 (by decide)))⟩)
  have j85 : ∀ (σq85 : HS) (y85_4 : Int32), GIm σq85 → ony [236, 239, 240, 241, 242] σ σq85 → 3 ≤ y85_4.toInt ∧ y85_4.toInt ≤ 15 → (σq85.1 236 10).toInt ≤ 401 → AW ids ad ca Γ 85 [some (.ref (ad 236)), some (.int x1), some (.int x2), none, some (.int y85_4)] [] σq85 := by
    intro σq85 y85_4 hGq85 hoq85 hx85_0 hx85_1
    refine a_iload_n C dX12_sign_85 (i := 2) rfl rfl ?_
    refine s_bipush C dX12_sign_86 (60) (by decide) (fun z11 h12 => ?_)
    refine s_ic_ne C dX12_sign_88 (tgt := 95) rfl (fun c13 => ?_) (fun c13 => ?_)
    ·
      have g14 := bF_236_10 hGq85
      refine AW.sub (vs' := [some (.ref (ad 236)), some (.int x1), none, none, some (.int y85_4)]) (lsub_of (by simp [lsubB])) ?_
      exact j95 _ y85_4 hGq85 hoq85 (by omega) (show (σq85.1 236 10).toInt ≤ 401 by omega)
    ·
      refine s_bipush C dX12_sign_91 (13) (by decide) (fun z15 h16 => ?_)
      refine a_istore C dX12_sign_93 (by decide) rfl (vs1 := [some (.ref (ad 236)), some (.int x1), some (.int x2), none, some (.int z15)]) rfl ?_
      have g17 := bF_236_10 hGq85
      refine AW.sub (vs' := [some (.ref (ad 236)), some (.int x1), none, none, some (.int z15)]) (lsub_of (by simp [lsubB])) ?_
      exact j95 _ z15 hGq85 hoq85 (by omega) (show (σq85.1 236 10).toInt ≤ 401 by omega)
  have j75 : ∀ (σq75 : HS) (y75_4 : Int32), GIm σq75 → ony [236, 239, 240, 241, 242] σ σq75 → 3 ≤ y75_4.toInt ∧ y75_4.toInt ≤ 10 → (σq75.1 236 10).toInt ≤ 401 → AW ids ad ca Γ 75 [some (.ref (ad 236)), some (.int x1), some (.int x2), none, some (.int y75_4)] [] σq75 := by
    intro σq75 y75_4 hGq75 hoq75 hx75_0 hx75_1
    refine a_iload_n C dX12_sign_75 (i := 2) rfl rfl ?_
    refine s_bipush C dX12_sign_76 (47) (by decide) (fun z18 h19 => ?_)
    refine s_ic_ne C dX12_sign_78 (tgt := 85) rfl (fun c20 => ?_) (fun c20 => ?_)
    ·
      have g21 := bF_236_10 hGq75
      exact j85 _ y75_4 hGq75 hoq75 (by omega) (show (σq75.1 236 10).toInt ≤ 401 by omega)
    ·
      refine s_bipush C dX12_sign_81 (15) (by decide) (fun z22 h23 => ?_)
      refine a_istore C dX12_sign_83 (by decide) rfl (vs1 := [some (.ref (ad 236)), some (.int x1), some (.int x2), none, some (.int z22)]) rfl ?_
      have g24 := bF_236_10 hGq75
      exact j85 _ z22 hGq75 hoq75 (by omega) (show (σq75.1 236 10).toInt ≤ 401 by omega)
  have j65 : ∀ (σq65 : HS) (y65_4 : Int32), GIm σq65 → ony [236, 239, 240, 241, 242] σ σq65 → 3 ≤ y65_4.toInt ∧ y65_4.toInt ≤ 9 → (σq65.1 236 10).toInt ≤ 401 → AW ids ad ca Γ 65 [some (.ref (ad 236)), some (.int x1), some (.int x2), none, some (.int y65_4)] [] σq65 := by
    intro σq65 y65_4 hGq65 hoq65 hx65_0 hx65_1
    refine a_iload_n C dX12_sign_65 (i := 2) rfl rfl ?_
    refine s_bipush C dX12_sign_66 (42) (by decide) (fun z25 h26 => ?_)
    refine s_ic_ne C dX12_sign_68 (tgt := 75) rfl (fun c27 => ?_) (fun c27 => ?_)
    ·
      have g28 := bF_236_10 hGq65
      exact j75 _ y65_4 hGq65 hoq65 (by omega) (show (σq65.1 236 10).toInt ≤ 401 by omega)
    ·
      refine s_bipush C dX12_sign_71 (10) (by decide) (fun z29 h30 => ?_)
      refine a_istore C dX12_sign_73 (by decide) rfl (vs1 := [some (.ref (ad 236)), some (.int x1), some (.int x2), none, some (.int z29)]) rfl ?_
      have g31 := bF_236_10 hGq65
      exact j75 _ z29 hGq65 hoq65 (by omega) (show (σq65.1 236 10).toInt ≤ 401 by omega)
  have j55 : ∀ (σq55 : HS) (y55_4 : Int32), GIm σq55 → ony [236, 239, 240, 241, 242] σ σq55 → 3 ≤ y55_4.toInt ∧ y55_4.toInt ≤ 8 → (σq55.1 236 10).toInt ≤ 401 → AW ids ad ca Γ 55 [some (.ref (ad 236)), some (.int x1), some (.int x2), none, some (.int y55_4)] [] σq55 := by
    intro σq55 y55_4 hGq55 hoq55 hx55_0 hx55_1
    refine a_iload_n C dX12_sign_55 (i := 2) rfl rfl ?_
    refine s_bipush C dX12_sign_56 (45) (by decide) (fun z32 h33 => ?_)
    refine s_ic_ne C dX12_sign_58 (tgt := 65) rfl (fun c34 => ?_) (fun c34 => ?_)
    ·
      have g35 := bF_236_10 hGq55
      exact j65 _ y55_4 hGq55 hoq55 (by omega) (show (σq55.1 236 10).toInt ≤ 401 by omega)
    ·
      refine s_bipush C dX12_sign_61 (9) (by decide) (fun z36 h37 => ?_)
      refine a_istore C dX12_sign_63 (by decide) rfl (vs1 := [some (.ref (ad 236)), some (.int x1), some (.int x2), none, some (.int z36)]) rfl ?_
      have g38 := bF_236_10 hGq55
      exact j65 _ z36 hGq55 hoq55 (by omega) (show (σq55.1 236 10).toInt ≤ 401 by omega)
  have j43 : ∀ (σq43 : HS) (u43_0 : Int32), GIm σq43 → ony [236, 239, 240, 241, 242] σ σq43 → 3 ≤ u43_0.toInt ∧ u43_0.toInt ≤ 7 → (σq43.1 236 10).toInt ≤ 401 → AW ids ad ca Γ 43 [some (.ref (ad 236)), some (.int x1), some (.int x2), none, none] [.int u43_0] σq43 := by
    intro σq43 u43_0 hGq43 hoq43 hx43_0 hx43_1
    refine a_istore C dX12_sign_43 (by decide) rfl (vs1 := [some (.ref (ad 236)), some (.int x1), some (.int x2), none, some (.int u43_0)]) rfl ?_
    refine a_iload_n C dX12_sign_45 (i := 2) rfl rfl ?_
    refine s_bipush C dX12_sign_46 (43) (by decide) (fun z39 h40 => ?_)
    refine s_ic_ne C dX12_sign_48 (tgt := 55) rfl (fun c41 => ?_) (fun c41 => ?_)
    ·
      have g42 := bF_236_10 hGq43
      exact j55 _ u43_0 hGq43 hoq43 (by omega) (show (σq43.1 236 10).toInt ≤ 401 by omega)
    ·
      refine s_bipush C dX12_sign_51 (8) (by decide) (fun z43 h44 => ?_)
      refine a_istore C dX12_sign_53 (by decide) rfl (vs1 := [some (.ref (ad 236)), some (.int x1), some (.int x2), none, some (.int z43)]) rfl ?_
      have g45 := bF_236_10 hGq43
      exact j55 _ z43 hGq43 hoq43 (by omega) (show (σq43.1 236 10).toInt ≤ 401 by omega)
  refine a_iload_n C dX12_sign_0 (i := 2) rfl rfl ?_
  refine s_bipush C dX12_sign_1 (59) (by decide) (fun z46 h47 => ?_)
  refine s_ic_ne C dX12_sign_3 (tgt := 10) rfl (fun c48 => ?_) (fun c48 => ?_)
  ·
    refine a_iload_n C dX12_sign_10 (i := 2) rfl rfl ?_
    refine s_bipush C dX12_sign_11 (61) (by decide) (fun z49 h50 => ?_)
    refine s_ic_ne C dX12_sign_13 (tgt := 20) rfl (fun c51 => ?_) (fun c51 => ?_)
    ·
      refine a_iload_n C dX12_sign_20 (i := 2) rfl rfl ?_
      refine s_bipush C dX12_sign_21 (40) (by decide) (fun z52 h53 => ?_)
      refine s_ic_ne C dX12_sign_23 (tgt := 31) rfl (fun c54 => ?_) (fun c54 => ?_)
      ·
        refine a_iload_n C dX12_sign_31 (i := 2) rfl rfl ?_
        refine s_bipush C dX12_sign_32 (41) (by decide) (fun z55 h56 => ?_)
        refine s_ic_ne C dX12_sign_34 (tgt := 42) rfl (fun c57 => ?_) (fun c57 => ?_)
        ·
          refine s_iconst C dX12_sign_42 (3) (by decide) (fun z58 h59 => ?_)
          have g60 := bF_236_10 hG
          refine AW.sub (vs' := [some (.ref (ad 236)), some (.int x1), some (.int x2), none, none]) (lsub_of (by simp [lsubB])) ?_
          exact j43 _ z58 hG ony.rf (by omega) (show (σ.1 236 10).toInt ≤ 401 by omega)
        ·
          refine s_bipush C dX12_sign_37 (7) (by decide) (fun z61 h62 => ?_)
          refine a_goto C dX12_sign_39 (tgt := 43) rfl ?_
          have g63 := bF_236_10 hG
          refine AW.sub (vs' := [some (.ref (ad 236)), some (.int x1), some (.int x2), none, none]) (lsub_of (by simp [lsubB])) ?_
          exact j43 _ z61 hG ony.rf (by omega) (show (σ.1 236 10).toInt ≤ 401 by omega)
      ·
        refine s_bipush C dX12_sign_26 (6) (by decide) (fun z64 h65 => ?_)
        refine a_goto C dX12_sign_28 (tgt := 43) rfl ?_
        have g66 := bF_236_10 hG
        refine AW.sub (vs' := [some (.ref (ad 236)), some (.int x1), some (.int x2), none, none]) (lsub_of (by simp [lsubB])) ?_
        exact j43 _ z64 hG ony.rf (by omega) (show (σ.1 236 10).toInt ≤ 401 by omega)
    ·
      refine s_iconst C dX12_sign_16 (5) (by decide) (fun z67 h68 => ?_)
      refine a_goto C dX12_sign_17 (tgt := 43) rfl ?_
      have g69 := bF_236_10 hG
      refine AW.sub (vs' := [some (.ref (ad 236)), some (.int x1), some (.int x2), none, none]) (lsub_of (by simp [lsubB])) ?_
      exact j43 _ z67 hG ony.rf (by omega) (show (σ.1 236 10).toInt ≤ 401 by omega)
  ·
    refine s_iconst C dX12_sign_6 (4) (by decide) (fun z70 h71 => ?_)
    refine a_goto C dX12_sign_7 (tgt := 43) rfl ?_
    have g72 := bF_236_10 hG
    refine AW.sub (vs' := [some (.ref (ad 236)), some (.int x1), some (.int x2), none, none]) (lsub_of (by simp [lsubB])) ?_
    exact j43 _ z70 hG ony.rf (by omega) (show (σ.1 236 10).toInt ≤ 401 by omega)
