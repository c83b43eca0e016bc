set_option maxHeartbeats 4000000 in
set_option maxRecDepth 100000 in
theorem S_X12_place_236 {l : Launch} {D : va_G} {ids : List Nat} {ad : Nat → Nat} {ca : Nat → ClassId} {σ : HS} (hid : ∀ i, i < 277 → i ∈ ids) (hG : GIm σ) : Ki l D ids ad ca yX12_place cX12_place 1 .int 0 0 [.ref (ad 236)] σ (fun r σ1 => (σ1 = σ)) := by
  refine Ki.of (by decide) (Nat.le_of_ble_eq_true rfl) 0 (fun Γ C Rt => ?_)
  show AW ids ad ca Γ 0 [some (.ref (ad 236))] [] σ
  refine a_aload_n C dX12_place_0 (i := 0) rfl rfl ?_
  refine a_get C fl_RX12_37 (i := 236) kd_236 (hid 236 (by decide)) (v := .int (σ.1 236 17)) rfl dX12_place_1 ?_
  exact a_iret Rt dX12_place_4 rfl (rfl)
set_option maxHeartbeats 4000000 in
set_option maxRecDepth 100000 in
theorem S_X12_forget_236 {l : Launch} {D : va_G} {ids : List Nat} {ad : Nat → Nat} {ca : Nat → ClassId} {σ : HS} (hid : ∀ i, i < 277 → i ∈ ids) (hG : GIm σ) : Ki l D ids ad ca yX12_forget cX12_forget 2 .int 0 0 [.ref (ad 236)] σ (fun r σ1 => (GIm σ1) ∧ (ony [236] σ σ1)) := by
  refine Ki.of (by decide) (Nat.le_of_ble_eq_true rfl) 1 (fun Γ C Rt => ?_)
  show AW ids ad ca Γ 0 [some (.ref (ad 236)), none] [] σ
  refine a_aload_n C dX12_forget_0 (i := 0) rfl rfl ?_
  have g1 := bF_236_60 hG
  refine a_get C fl_RX12_242 (i := 236) kd_236 (hid 236 (by decide)) (v := .int (σ.1 236 60)) rfl dX12_forget_1 ?_
  refine a_istore_n C dX12_forget_4 (i := 1) rfl (by decide) rfl (vs1 := [some (.ref (ad 236)), some (.int (σ.1 236 60))]) rfl ?_
  refine a_aload_n C dX12_forget_5 (i := 0) rfl rfl ?_
  refine s_iconst C dX12_forget_6 (0) (by decide) (fun z2 h3 => ?_)
  refine a_put C fp_RX12_242 (i := 236) kd_236 (hid 236 (by decide)) rfl rfl dX12_forget_7 ?_
  have hG4 := wF_236_60 (v := z2) hG (by omega) (by omega)
  refine a_iload_n C dX12_forget_10 (i := 1) rfl rfl ?_
  exact a_iret Rt dX12_forget_11 rfl (⟨hG4, (ony.I ony.rf (by decide))⟩)
set_option maxHeartbeats 4000000 in
set_option maxRecDepth 100000 in
theorem S_X12_in {l : Launch} {D : va_G} {ids : List Nat} {ad : Nat → Nat} {ca : Nat → ClassId} {σ : HS} {x1 : Int32} {x2 : Int32} {x3 : Int32} (hid : ∀ i, i < 277 → i ∈ ids) (hG : GIm σ) : Ki l D ids ad ca yX12_in cX12_in 3 .boolean 0 0 [.int x1, .int x2, .int x3] σ (fun r σ1 => (σ1 = σ) ∧ (0 ≤ r.toInt ∧ r.toInt ≤ 1)) := by
  refine Ki.of (by decide) (Nat.le_of_ble_eq_true rfl) 0 (fun Γ C Rt => ?_)
  show AW ids ad ca Γ 0 [some (.int x1), some (.int x2), some (.int x3)] [] σ
  refine a_iload_n C dX12_in_0 (i := 0) rfl rfl ?_
  refine a_iload_n C dX12_in_1 (i := 1) rfl rfl ?_
  refine s_ic_lt C dX12_in_2 (tgt := 14) rfl (fun c1 => ?_) (fun c1 => ?_)
  ·
    refine s_iconst C dX12_in_14 (0) (by decide) (fun z2 h3 => ?_)
    exact a_iret Rt dX12_in_15 (nar_z (by omega)).1 (⟨rfl, (show 0 ≤ z2.toInt ∧ z2.toInt ≤ 1 by intros; omega)⟩)
  ·
    refine a_iload_n C dX12_in_5 (i := 0) rfl rfl ?_
    refine a_iload_n C dX12_in_6 (i := 2) rfl rfl ?_
    refine s_ic_gt C dX12_in_7 (tgt := 14) rfl (fun c4 => ?_) (fun c4 => ?_)
    ·
      refine s_iconst C dX12_in_14 (0) (by decide) (fun z5 h6 => ?_)
      exact a_iret Rt dX12_in_15 (nar_z (by omega)).1 (⟨rfl, (show 0 ≤ z5.toInt ∧ z5.toInt ≤ 1 by intros; omega)⟩)
    ·
      refine s_iconst C dX12_in_10 (1) (by decide) (fun z7 h8 => ?_)
      refine a_goto C dX12_in_11 (tgt := 15) rfl ?_
      exact a_iret Rt dX12_in_15 (nar_z (by omega)).1 (⟨rfl, (show 0 ≤ z7.toInt ∧ z7.toInt ≤ 1 by intros; omega)⟩)
set_option maxHeartbeats 4000000 in
set_option maxRecDepth 100000 in
theorem S_X12_isSome {l : Launch} {D : va_G} {ids : List Nat} {ad : Nat → Nat} {ca : Nat → ClassId} {σ : HS} {x1 : Int32} (hid : ∀ i, i < 277 → i ∈ ids) (hG : GIm σ) : Ki l D ids ad ca yX12_isSome cX12_isSome 1 .boolean 1 22 [.int x1] σ (fun r σ1 => (σ1 = σ) ∧ (0 ≤ r.toInt ∧ r.toInt ≤ 1)) := by
  refine Ki.of (by decide) (Nat.le_of_ble_eq_true rfl) 0 (fun Γ C Rt => ?_)
  show AW ids ad ca Γ 0 [some (.int x1)] [] σ
  refine a_iload_n C dX12_isSome_0 (i := 0) rfl rfl ?_
  refine s_iconst C dX12_isSome_1 (1) (by decide) (fun z1 h2 => ?_)
  refine s_bipush C dX12_isSome_2 (60) (by decide) (fun z3 h4 => ?_)
  refine a_callSi C (S_X12_in (x1 := x1) (x2 := z1) (x3 := z3) hid hG) ms_X12_in ml_RX12_301 rfl rfl (Nat.le_of_ble_eq_true rfl) (Nat.le_of_ble_eq_true rfl) (Nat.le_of_ble_eq_true rfl) dX12_isSome_4 (fun z5 σ6 q7 => ?_)
  obtain ⟨w8, w9⟩ := q7
  rw [w8]
  exact a_iret Rt dX12_isSome_7 (nar_z (by omega)).1 (⟨rfl, (show 0 ≤ z5.toInt ∧ z5.toInt ≤ 1 by intros; omega)⟩)
set_option maxHeartbeats 4000000 in
set_option maxRecDepth 100000 in
theorem S_X12_isLong {l : Launch} {D : va_G} {ids : List Nat} {ad : Nat → Nat} {ca : Nat → ClassId} {σ : HS} {x1 : Int32} (hid : ∀ i, i < 277 → i ∈ ids) (hG : GIm σ) : Ki l D ids ad ca yX12_isLong cX12_isLong 1 .boolean 1 22 [.int x1] σ (fun r σ1 => (σ1 = σ) ∧ (0 ≤ r.toInt ∧ r.toInt ≤ 1)) := by
  refine Ki.of (by decide) (Nat.le_of_ble_eq_true rfl) 0 (fun Γ C Rt => ?_)
  show AW ids ad ca Γ 0 [some (.int x1)] [] σ
  refine a_iload_n C dX12_isLong_0 (i := 0) rfl rfl ?_
  refine s_iconst C dX12_isLong_1 (0) (by decide) (fun z1 h2 => ?_)
  refine s_bipush C dX12_isLong_2 (60) (by decide) (fun z3 h4 => ?_)
  refine a_callSi C (S_X12_in (x1 := x1) (x2 := z1) (x3 := z3) hid hG) ms_X12_in ml_RX12_301 rfl rfl (Nat.le_of_ble_eq_true rfl) (Nat.le_of_ble_eq_true rfl) (Nat.le_of_ble_eq_true rfl) dX12_isLong_4 (fun z5 σ6 q7 => ?_)
  obtain ⟨w8, w9⟩ := q7
  rw [w8]
  exact a_iret Rt dX12_isLong_7 (nar_z (by omega)).1 (⟨rfl, (show 0 ≤ z5.toInt ∧ z5.toInt ≤ 1 by intros; omega)⟩)
theorem dX12_isDigit_0 : decode cX12_isDigit 0 = .ok (.iload_n 0, 1) := by decide +kernel
theorem dX12_isDigit_1 : decode cX12_isDigit 1 = .ok (.bipush 48, 2) := by decide +kernel
theorem dX12_isDigit_3 : decode cX12_isDigit 3 = .ok (.if_icmp .lt 13, 3) := by decide +kernel
theorem dX12_isDigit_6 : decode cX12_isDigit 6 = .ok (.iload_n 0, 1) := by decide +kernel
theorem dX12_isDigit_7 : decode cX12_isDigit 7 = .ok (.bipush 57, 2) := by decide +kernel
theorem dX12_isDigit_9 : decode cX12_isDigit 9 = .ok (.if_icmp .gt 7, 3) := by decide +kernel
theorem dX12_isDigit_12 : decode cX12_isDigit 12 = .ok (.iconst 1, 1) := by decide +kernel
theorem dX12_isDigit_13 : decode cX12_isDigit 13 = .ok (.goto 4, 3) := by decide +kernel
theorem dX12_isDigit_16 : decode cX12_isDigit 16 = .ok (.iconst 0, 1) := by decide +kernel
theorem dX12_isDigit_17 : decode cX12_isDigit 17 = .ok (.ireturn, 1) := by decide +kernel
set_option maxHeartbeats 4000000 in
set_option maxRecDepth 100000 in
theorem S_X12_isDigit {l : Launch} {D : va_G} {ids : List Nat} {ad : Nat → Nat} {ca : Nat → ClassId} {σ : HS} {x1 : Int32} (hid : ∀ i, i < 277 → i ∈ ids) (hG : GIm σ) : Ki l D ids ad ca yX12_isDigit cX12_isDigit 1 .boolean 0 0 [.int x1] σ (fun r σ1 => (σ1 = σ) ∧ (0 ≤ r.toInt ∧ r.toInt ≤ 1)) := by
  refine Ki.of (by decide) (Nat.le_of_ble_eq_true rfl) 0 (fun Γ C Rt => ?_)
  show AW ids ad ca Γ 0 [some (.int x1)] [] σ
  refine a_iload_n C dX12_isDigit_0 (i := 0) rfl rfl ?_
  refine s_bipush C dX12_isDigit_1 (48) (by decide) (fun z1 h2 => ?_)
  refine s_ic_lt C dX12_isDigit_3 (tgt := 16) rfl (fun c3 => ?_) (fun c3 => ?_)
  ·
    refine s_iconst C dX12_isDigit_16 (0) (by decide) (fun z4 h5 => ?_)
    exact a_iret Rt dX12_isDigit_17 (nar_z (by omega)).1 (⟨rfl, (show 0 ≤ z4.toInt ∧ z4.toInt ≤ 1 by intros; omega)⟩)
  ·
    refine a_iload_n C dX12_isDigit_6 (i := 0) rfl rfl ?_
    refine s_bipush C dX12_isDigit_7 (57) (by decide) (fun z6 h7 => ?_)
    refine s_ic_gt C dX12_isDigit_9 (tgt := 16) rfl (fun c8 => ?_) (fun c8 => ?_)
    ·
      refine s_iconst C dX12_isDigit_16 (0) (by decide) (fun z9 h10 => ?_)
      exact a_iret Rt dX12_isDigit_17 (nar_z (by omega)).1 (⟨rfl, (show 0 ≤ z9.toInt ∧ z9.toInt ≤ 1 by intros; omega)⟩)
    ·
      refine s_iconst C dX12_isDigit_12 (1) (by decide) (fun z11 h12 => ?_)
      refine a_goto C dX12_isDigit_13 (tgt := 17) rfl ?_
      exact a_iret Rt dX12_isDigit_17 (nar_z (by omega)).1 (⟨rfl, (show 0 ≤ z11.toInt ∧ z11.toInt ≤ 1 by intros; omega)⟩)
theorem dX12_isLetter_0 : decode cX12_isLetter 0 = .ok (.iload_n 0, 1) := by decide +kernel
theorem dX12_isLetter_1 : decode cX12_isLetter 1 = .ok (.bipush 97, 2) := by decide +kernel
theorem dX12_isLetter_3 : decode cX12_isLetter 3 = .ok (.if_icmp .lt 13, 3) := by decide +kernel
theorem dX12_isLetter_6 : decode cX12_isLetter 6 = .ok (.iload_n 0, 1) := by decide +kernel
theorem dX12_isLetter_7 : decode cX12_isLetter 7 = .ok (.bipush 122, 2) := by decide +kernel
theorem dX12_isLetter_9 : decode cX12_isLetter 9 = .ok (.if_icmp .gt 7, 3) := by decide +kernel
theorem dX12_isLetter_12 : decode cX12_isLetter 12 = .ok (.iconst 1, 1) := by decide +kernel
theorem dX12_isLetter_13 : decode cX12_isLetter 13 = .ok (.goto 4, 3) := by decide +kernel
theorem dX12_isLetter_16 : decode cX12_isLetter 16 = .ok (.iconst 0, 1) := by decide +kernel
theorem dX12_isLetter_17 : decode cX12_isLetter 17 = .ok (.ireturn, 1) := by decide +kernel
set_option maxHeartbeats 4000000 in
set_option maxRecDepth 100000 in
theorem S_X12_isLetter {l : Launch} {D : va_G} {ids : List Nat} {ad : Nat → Nat} {ca : Nat → ClassId} {σ : HS} {x1 : Int32} (hid : ∀ i, i < 277 → i ∈ ids) (hG : GIm σ) : Ki l D ids ad ca yX12_isLetter cX12_isLetter 1 .boolean 0 0 [.int x1] σ (fun r σ1 => (σ1 = σ) ∧ (0 ≤ r.toInt ∧ r.toInt ≤ 1)) := by
  refine Ki.of (by decide) (Nat.le_of_ble_eq_true rfl) 0 (fun Γ C Rt => ?_)
  show AW ids ad ca Γ 0 [some (.int x1)] [] σ
  refine a_iload_n C dX12_isLetter_0 (i := 0) rfl rfl ?_
  refine s_bipush C dX12_isLetter_1 (97) (by decide) (fun z1 h2 => ?_)
  refine s_ic_lt C dX12_isLetter_3 (tgt := 16) rfl (fun c3 => ?_) (fun c3 => ?_)
  ·
    refine s_iconst C dX12_isLetter_16 (0) (by decide) (fun z4 h5 => ?_)
    exact a_iret Rt dX12_isLetter_17 (nar_z (by omega)).1 (⟨rfl, (show 0 ≤ z4.toInt ∧ z4.toInt ≤ 1 by intros; omega)⟩)
  ·
    refine a_iload_n C dX12_isLetter_6 (i := 0) rfl rfl ?_
    refine s_bipush C dX12_isLetter_7 (122) (by decide) (fun z6 h7 => ?_)
    refine s_ic_gt C dX12_isLetter_9 (tgt := 16) rfl (fun c8 => ?_) (fun c8 => ?_)
    ·
      refine s_iconst C dX12_isLetter_16 (0) (by decide) (fun z9 h10 => ?_)
      exact a_iret Rt dX12_isLetter_17 (nar_z (by omega)).1 (⟨rfl, (show 0 ≤ z9.toInt ∧ z9.toInt ≤ 1 by intros; omega)⟩)
    ·
      refine s_iconst C dX12_isLetter_12 (1) (by decide) (fun z11 h12 => ?_)
      refine a_goto C dX12_isLetter_13 (tgt := 17) rfl ?_
      exact a_iret Rt dX12_isLetter_17 (nar_z (by omega)).1 (⟨rfl, (show 0 ≤ z11.toInt ∧ z11.toInt ≤ 1 by intros; omega)⟩)
set_option maxHeartbeats 4000000 in
set_option maxRecDepth 100000 in
theorem S_X12_isThing_236 {l : Launch} {D : va_G} {ids : List Nat} {ad : Nat → Nat} {ca : Nat → ClassId} {σ : HS} {x1 : Int32} (hid : ∀ i, i < 277 → i ∈ ids) (hG : GIm σ) : Ki l D ids ad ca yX12_isThing cX12_isThing 2 .boolean 1 22 [.ref (ad 236), .int x1] σ (fun r σ1 => (σ1 = σ) ∧ (0 ≤ r.toInt ∧ r.toInt ≤ 1)) := by
  refine Ki.of (by decide) (Nat.le_of_ble_eq_true rfl) 0 (fun Γ C Rt => ?_)
  show AW ids ad ca Γ 0 [some (.ref (ad 236)), some (.int x1)] [] σ
  refine a_iload_n C dX12_isThing_0 (i := 1) rfl rfl ?_
  refine s_iconst C dX12_isThing_1 (0) (by decide) (fun z1 h2 => ?_)
  refine a_aload_n C dX12_isThing_2 (i := 0) rfl rfl ?_
  refine a_get C fl_RX12_43 (i := 236) kd_236 (hid 236 (by decide)) (v := .ref (ad 245)) rfl dX12_isThing_3 ?_
  refine a_aload_n C dX12_isThing_6 (i := 0) rfl rfl ?_
  have g3 := bF_236_18 hG
  refine a_get C fl_RX12_221 (i := 236) kd_236 (hid 236 (by decide)) (v := .int (σ.1 236 18)) rfl dX12_isThing_7 ?_
  refine s_iald C (i := 245) kd_245 (hid 245 (by decide)) al_245 (by omega) (by omega) dX12_isThing_10 (fun n4 h5 => ?_)
  refine s_val (fun z6 e7 => ?_)
  have g8 := bA_245 hG n4
  rw [e7] at g8
  refine s_iconst C dX12_isThing_11 (1) (by decide) (fun z9 h10 => ?_)
  refine s_isub C dX12_isThing_12 (by omega) (fun z11 h12 => ?_)
  refine a_callSi C (S_X12_in (x1 := x1) (x2 := z1) (x3 := z11) hid hG) ms_X12_in ml_RX12_301 rfl rfl (Nat.le_of_ble_eq_true rfl) (Nat.le_of_ble_eq_true rfl) (Nat.le_of_ble_eq_true rfl) dX12_isThing_13 (fun z13 σ14 q15 => ?_)
  obtain ⟨w16, w17⟩ := q15
  rw [w16]
  exact a_iret Rt dX12_isThing_16 (nar_z (by omega)).1 (⟨rfl, (show 0 ≤ z13.toInt ∧ z13.toInt ≤ 1 by intros; omega)⟩)
set_option maxHeartbeats 4000000 in
set_option maxRecDepth 100000 in
theorem S_X12_isPattern_236 {l : Launch} {D : va_G} {ids : List Nat} {ad : Nat → Nat} {ca : Nat → ClassId} {σ : HS} {x1 : Int32} (hid : ∀ i, i < 277 → i ∈ ids) (hG : GIm σ) : Ki l D ids ad ca yX12_isPattern cX12_isPattern 2 .boolean 1 22 [.ref (ad 236), .int x1] σ (fun r σ1 => (σ1 = σ) ∧ (0 ≤ r.toInt ∧ r.toInt ≤ 1)) := by
  refine Ki.of (by decide) (Nat.le_of_ble_eq_true rfl) 0 (fun Γ C Rt => ?_)
  show AW ids ad ca Γ 0 [some (.ref (ad 236)), some (.int x1)] [] σ
  refine a_iload_n C dX12_isPattern_0 (i := 1) rfl rfl ?_
  refine s_iconst C dX12_isPattern_1 (0) (by decide) (fun z1 h2 => ?_)
  refine a_aload_n C dX12_isPattern_2 (i := 0) rfl rfl ?_
  refine a_get C fl_RX12_55 (i := 236) kd_236 (hid 236 (by decide)) (v := .ref (ad 249)) rfl dX12_isPattern_3 ?_
  refine a_aload_n C dX12_isPattern_6 (i := 0) rfl rfl ?_
  have g3 := bF_236_18 hG
  refine a_get C fl_RX12_221 (i := 236) kd_236 (hid 236 (by decide)) (v := .int (σ.1 236 18)) rfl dX12_isPattern_7 ?_
  refine s_iald C (i := 249) kd_249 (hid 249 (by decide)) al_249 (by omega) (by omega) dX12_isPattern_10 (fun n4 h5 => ?_)
  refine s_val (fun z6 e7 => ?_)
  have g8 := bA_249 hG n4
  rw [e7] at g8
  refine s_iconst C dX12_isPattern_11 (1) (by decide) (fun z9 h10 => ?_)
  refine s_isub C dX12_isPattern_12 (by omega) (fun z11 h12 => ?_)
  refine a_callSi C (S_X12_in (x1 := x1) (x2 := z1) (x3 := z11) hid hG) ms_X12_in ml_RX12_301 rfl rfl (Nat.le_of_ble_eq_true rfl) (Nat.le_of_ble_eq_true rfl) (Nat.le_of_ble_eq_true rfl) dX12_isPattern_13 (fun z13 σ14 q15 => ?_)
  obtain ⟨w16, w17⟩ := q15
  rw [w16]
  exact a_iret Rt dX12_isPattern_16 (nar_z (by omega)).1 (⟨rfl, (show 0 ≤ z13.toInt ∧ z13.toInt ≤ 1 by intros; omega)⟩)
theorem dX12_told_0 : decode cX12_told 0 = .ok (.iload_n 1, 1) := by decide +kernel
theorem dX12_told_1 : decode cX12_told 1 = .ok (.iconst 1, 1) := by decide +kernel
theorem dX12_told_2 : decode cX12_told 2 = .ok (.if_icmp .ne 7, 3) := by decide +kernel
theorem dX12_told_5 : decode cX12_told 5 = .ok (.iload_n 0, 1) := by decide +kernel
theorem dX12_told_6 : decode cX12_told 6 = .ok (.goto 12, 3) := by decide +kernel
theorem dX12_told_9 : decode cX12_told 9 = .ok (.iload_n 0, 1) := by decide +kernel
theorem dX12_told_10 : decode cX12_told 10 = .ok (.ifCond .ge 7, 3) := by decide +kernel
theorem dX12_told_13 : decode cX12_told 13 = .ok (.iconst 0, 1) := by decide +kernel
theorem dX12_told_14 : decode cX12_told 14 = .ok (.goto 4, 3) := by decide +kernel
theorem dX12_told_17 : decode cX12_told 17 = .ok (.iconst 1, 1) := by decide +kernel
theorem dX12_told_18 : decode cX12_told 18 = .ok (.ireturn, 1) := by decide +kernel
set_option maxHeartbeats 4000000 in
set_option maxRecDepth 100000 in
theorem S_X12_told {l : Launch} {D : va_G} {ids : List Nat} {ad : Nat → Nat} {ca : Nat → ClassId} {σ : HS} {x1 : Int32} {x2 : Int32} (hid : ∀ i, i < 277 → i ∈ ids) (hG : GIm σ) : Ki l D ids ad ca yX12_told cX12_told 2 .int 0 0 [.int x1, .int x2] σ (fun r σ1 => (σ1 = σ)) := by
  refine Ki.of (by decide) (Nat.le_of_ble_eq_true rfl) 0 (fun Γ C Rt => ?_)
  show AW ids ad ca Γ 0 [some (.int x1), some (.int x2)] [] σ
  refine a_iload_n C dX12_told_0 (i := 1) rfl rfl ?_
  refine s_iconst C dX12_told_1 (1) (by decide) (fun z1 h2 => ?_)
  refine s_ic_ne C dX12_told_2 (tgt := 9) rfl (fun c3 => ?_) (fun c3 => ?_)
  ·
    refine a_iload_n C dX12_told_9 (i := 0) rfl rfl ?_
    refine s_if_ge C dX12_told_10 (tgt := 17) rfl (fun c4 => ?_) (fun c4 => ?_)
    ·
      refine s_iconst C dX12_told_17 (1) (by decide) (fun z5 h6 => ?_)
      exact a_iret Rt dX12_told_18 rfl (rfl)
    ·
      refine s_iconst C dX12_told_13 (0) (by decide) (fun z7 h8 => ?_)
      refine a_goto C dX12_told_14 (tgt := 18) rfl ?_
      exact a_iret Rt dX12_told_18 rfl (rfl)
  ·
    refine a_iload_n C dX12_told_5 (i := 0) rfl rfl ?_
    refine a_goto C dX12_told_6 (tgt := 18) rfl ?_
    exact a_iret Rt dX12_told_18 rfl (rfl)
theorem dX12_mixed_0 : decode cX12_mixed 0 = .ok (.iload_n 0, 1) := by decide +kernel
theorem dX12_mixed_1 : decode cX12_mixed 1 = .ok (.iload_n 1, 1) := by decide +kernel
theorem dX12_mixed_2 : decode cX12_mixed 2 = .ok (.ixor, 1) := by decide +kernel
theorem dX12_mixed_3 : decode cX12_mixed 3 = .ok (.ldc_w 314, 3) := by decide +kernel
theorem dX12_mixed_6 : decode cX12_mixed 6 = .ok (.imul, 1) := by decide +kernel
theorem dX12_mixed_7 : decode cX12_mixed 7 = .ok (.sipush 12345, 3) := by decide +kernel
theorem dX12_mixed_10 : decode cX12_mixed 10 = .ok (.iadd, 1) := by decide +kernel
theorem dX12_mixed_11 : decode cX12_mixed 11 = .ok (.istore_n 2, 1) := by decide +kernel
theorem dX12_mixed_12 : decode cX12_mixed 12 = .ok (.iload_n 2, 1) := by decide +kernel
theorem dX12_mixed_13 : decode cX12_mixed 13 = .ok (.iload_n 2, 1) := by decide +kernel
theorem dX12_mixed_14 : decode cX12_mixed 14 = .ok (.bipush 15, 2) := by decide +kernel
theorem dX12_mixed_16 : decode cX12_mixed 16 = .ok (.iushr, 1) := by decide +kernel
theorem dX12_mixed_17 : decode cX12_mixed 17 = .ok (.ixor, 1) := by decide +kernel
theorem dX12_mixed_18 : decode cX12_mixed 18 = .ok (.ireturn, 1) := by decide +kernel
set_option maxHeartbeats 4000000 in
set_option maxRecDepth 100000 in
theorem S_X12_mixed {l : Launch} {D : va_G} {ids : List Nat} {ad : Nat → Nat} {ca : Nat → ClassId} {σ : HS} {x1 : Int32} {x2 : Int32} (hid : ∀ i, i < 277 → i ∈ ids) (hG : GIm σ) : Ki l D ids ad ca yX12_mixed cX12_mixed 3 .int 0 0 [.int x1, .int x2] σ (fun r σ1 => (σ1 = σ)) := by
  refine Ki.of (by decide) (Nat.le_of_ble_eq_true rfl) 1 (fun Γ C Rt => ?_)
  show AW ids ad ca Γ 0 [some (.int x1), some (.int x2), none] [] σ
  refine a_iload_n C dX12_mixed_0 (i := 0) rfl rfl ?_
  refine a_iload_n C dX12_mixed_1 (i := 1) rfl rfl ?_
  refine s_ixorU C dX12_mixed_2 (fun z1 => ?_)
  refine s_ldcw C dX12_mixed_3 ko_RX12_314 (1103515245) (by decide) (fun z3 h4 => ?_)
  refine s_imulU C dX12_mixed_6 (fun z5 => ?_)
  refine s_sipush C dX12_mixed_7 (12345) (by decide) (fun z7 h8 => ?_)
  refine s_iaddU C dX12_mixed_10 (fun z9 => ?_)
  refine a_istore_n C dX12_mixed_11 (i := 2) rfl (by decide) rfl (vs1 := [some (.int x1), some (.int x2), some (.int z9)]) rfl ?_
  refine a_iload_n C dX12_mixed_12 (i := 2) rfl rfl ?_
  refine a_iload_n C dX12_mixed_13 (i := 2) rfl rfl ?_
  refine s_bipush C dX12_mixed_14 (15) (by decide) (fun z11 h12 => ?_)
  refine s_iushrU C dX12_mixed_16 (fun z13 => ?_)
  refine s_ixorU C dX12_mixed_17 (fun z15 => ?_)
  exact a_iret Rt dX12_mixed_18 rfl (rfl)
set_option maxHeartbeats 4000000 in
set_option maxRecDepth 100000 in
theorem S_X12_bits {l : Launch} {D : va_G} {ids : List Nat} {ad : Nat → Nat} {ca : Nat → ClassId} {σ : HS} {x1 : Int32} (hid : ∀ i, i < 277 → i ∈ ids) (hG : GIm σ) : Ki l D ids ad ca yX12_bits cX12_bits 3 .int 0 0 [.int x1] σ (fun r σ1 => (σ1 = σ)) := by
  refine Ki.of (by decide) (Nat.le_of_ble_eq_true rfl) 2 (fun Γ C Rt => ?_)
  show AW ids ad ca Γ 0 [some (.int x1), none, none] [] σ
  have j4 : ∀ (d4 : Nat) (y4_1 : Int32) (y4_2 : Int32), 10 - y4_2.toInt < d4 → 0 ≤ y4_2.toInt ∧ y4_2.toInt ≤ 10 → AW ids ad ca Γ 4 [some (.int x1), some (.int y4_1), some (.int y4_2)] [] σ := by
    intro d4
    induction d4 with
    | zero =>
      intro y4_1 y4_2 hd4 hx4_0
      exfalso
      omega
    | succ d4 ih4 =>
      intro y4_1 y4_2 hd4 hx4_0
      refine a_iload_n C dX12_bits_4 (i := 2) rfl rfl ?_
      refine s_bipush C dX12_bits_5 (10) (by decide) (fun z1 h2 => ?_)
      refine s_ic_ge C dX12_bits_7 (tgt := 24) rfl (fun c3 => ?_) (fun c3 => ?_)
      ·
        refine a_iload_n C dX12_bits_24 (i := 1) rfl rfl ?_
        exact a_iret Rt dX12_bits_25 rfl (rfl)
      ·
        refine a_iload_n C dX12_bits_10 (i := 1) rfl rfl ?_
        refine a_iload_n C dX12_bits_11 (i := 0) rfl rfl ?_
        refine a_iload_n C dX12_bits_12 (i := 2) rfl rfl ?_
        refine s_ishrU C dX12_bits_13 (fun z4 => ?_)
        refine s_iconst C dX12_bits_14 (1) (by decide) (fun z6 h7 => ?_)
        refine s_iand C dX12_bits_15 (by omega) (fun z8 h9 => ?_)
        refine s_iaddU C dX12_bits_16 (fun z10 => ?_)
        refine a_istore_n C dX12_bits_17 (i := 1) rfl (by decide) rfl (vs1 := [some (.int x1), some (.int z10), some (.int y4_2)]) rfl ?_
        refine s_iinc C dX12_bits_18 rfl (1) (by decide) (by omega) (by decide) rfl (fun z12 h13 => ?_)
        show AW ids ad ca Γ 21 [some (.int x1), some (.int z10), some (.int z12)] _ _
        refine a_goto C dX12_bits_21 (tgt := 4) rfl ?_
        exact ih4 z10 z12 (by omega) (by omega)
  refine s_iconst C dX12_bits_0 (0) (by decide) (fun z14 h15 => ?_)
  refine a_istore_n C dX12_bits_1 (i := 1) rfl (by decide) rfl (vs1 := [some (.int x1), some (.int z14), none]) rfl ?_
  refine s_iconst C dX12_bits_2 (0) (by decide) (fun z16 h17 => ?_)
  refine a_istore_n C dX12_bits_3 (i := 2) rfl (by decide) rfl (vs1 := [some (.int x1), some (.int z14), some (.int z16)]) rfl ?_
  exact j4 100000 z14 z16 (by omega) (by omega)
set_option maxHeartbeats 4000000 in
set_option maxRecDepth 100000 in
theorem S_X12_tell_236 {l : Launch} {D : va_G} {ids : List Nat} {ad : Nat → Nat} {ca : Nat → ClassId} {σ : HS} {x1 : Int32} {x2 : Int32} (hid : ∀ i, i < 277 → i ∈ ids) (hG : GIm σ) (hx2 : 0 ≤ x2.toInt ∧ x2.toInt ≤ 1) : Ki l D ids ad ca yX12_tell cX12_tell 3 .int 1 22 [.ref (ad 236), .int x1, .int x2] σ (fun r σ1 => (GIm σ1) ∧ (ony [236, 272, 273] σ σ1)) := by
  refine Ki.of (by decide) (Nat.le_of_ble_eq_true rfl) 0 (fun Γ C Rt => ?_)
  show AW ids ad ca Γ 0 [some (.ref (ad 236)), some (.int x1), some (.int x2)] [] σ
  refine a_aload_n C dX12_tell_0 (i := 0) rfl rfl ?_
  have g1 := bF_236_60 hG
  refine a_get C fl_RX12_242 (i := 236) kd_236 (hid 236 (by decide)) (v := .int (σ.1 236 60)) rfl dX12_tell_1 ?_
  refine s_bipush C dX12_tell_4 (20) (by decide) (fun z2 h3 => ?_)
  refine s_ic_eq C dX12_tell_6 (tgt := 19) rfl (fun c4 => ?_) (fun c4 => ?_)
  ·
    refine s_iconst C dX12_tell_19 (-1) (by decide) (fun z5 h6 => ?_)
    exact a_iret Rt dX12_tell_20 rfl (⟨hG, ony.rf⟩)
  ·
    refine a_iload_n C dX12_tell_9 (i := 1) rfl rfl ?_
    refine s_iconst C dX12_tell_10 (0) (by decide) (fun z7 h8 => ?_)
    refine s_bipush C dX12_tell_11 (40) (by decide) (fun z9 h10 => ?_)
    refine a_callSi C (S_X12_in (x1 := x1) (x2 := z7) (x3 := z9) hid hG) ms_X12_in ml_RX12_301 rfl rfl (Nat.le_of_ble_eq_true rfl) (Nat.le_of_ble_eq_true rfl) (Nat.le_of_ble_eq_true rfl) dX12_tell_13 (fun z11 σ12 q13 => ?_)
    obtain ⟨w14, w15⟩ := q13
    rw [w14]
    refine s_if_ne C dX12_tell_16 (tgt := 21) rfl (fun c16 => ?_) (fun c16 => ?_)
    ·
      refine a_aload_n C dX12_tell_21 (i := 0) rfl rfl ?_
      refine a_get C fl_RX12_125 (i := 236) kd_236 (hid 236 (by decide)) (v := .ref (ad 272)) rfl dX12_tell_22 ?_
      refine a_aload_n C dX12_tell_25 (i := 0) rfl rfl ?_
      have g17 := bF_236_60 hG
      refine a_get C fl_RX12_242 (i := 236) kd_236 (hid 236 (by decide)) (v := .int (σ.1 236 60)) rfl dX12_tell_26 ?_
      refine a_iload_n C dX12_tell_29 (i := 1) rfl rfl ?_
      refine s_iast C (i := 272) kd_272 (hid 272 (by decide)) al_272 (by omega) (by omega) dX12_tell_30 (fun n18 h19 => ?_)
      have hG20 := wA_272 (v := x1) (j := n18) hG
      refine a_aload_n C dX12_tell_31 (i := 0) rfl rfl ?_
      refine a_get C fl_RX12_128 (i := 236) kd_236 (hid 236 (by decide)) (v := .ref (ad 273)) rfl dX12_tell_32 ?_
      refine a_aload_n C dX12_tell_35 (i := 0) rfl rfl ?_
      have g21 := bF_236_60 hG
      refine a_get C fl_RX12_242 (i := 236) kd_236 (hid 236 (by decide)) (v := .int (σ.1 236 60)) rfl dX12_tell_36 ?_
      refine a_iload_n C dX12_tell_39 (i := 2) rfl rfl ?_
      refine s_zast C (i := 273) (nar_v (by omega)) kd_273 (hid 273 (by decide)) al_273 (by omega) (by omega) dX12_tell_40 (fun n22 h23 => ?_)
      have hG24 := wA_273 (v := x2) (j := n22) hG20
      refine a_aload_n C dX12_tell_41 (i := 0) rfl rfl ?_
      refine a_dup C dX12_tell_42 rfl ?_
      have g25 := bF_236_60 hG
      refine a_get C fl_RX12_242 (i := 236) kd_236 (hid 236 (by decide)) (v := .int (σ.1 236 60)) rfl dX12_tell_43 ?_
      refine s_iconst C dX12_tell_46 (1) (by decide) (fun z26 h27 => ?_)
      refine s_iadd C dX12_tell_47 (by omega) (fun z28 h29 => ?_)
      refine a_put C fp_RX12_242 (i := 236) kd_236 (hid 236 (by decide)) rfl rfl dX12_tell_48 ?_
      have hG30 := wF_236_60 (v := z28) hG24 (by omega) (by omega)
      refine a_aload_n C dX12_tell_51 (i := 0) rfl rfl ?_
      refine a_get C fl_RX12_242 (i := 236) kd_236 (hid 236 (by decide)) (v := .int z28) rfl dX12_tell_52 ?_
      refine s_iconst C dX12_tell_55 (1) (by decide) (fun z31 h32 => ?_)
      refine s_isub C dX12_tell_56 (by omega) (fun z33 h34 => ?_)
      exact a_iret Rt dX12_tell_57 rfl (⟨hG30, (ony.I (ony.I (ony.I ony.rf (by decide)) (by decide)) (by decide))⟩)
    ·
      refine s_iconst C dX12_tell_19 (-1) (by decide) (fun z35 h36 => ?_)
      exact a_iret Rt dX12_tell_20 rfl (⟨hG, ony.rf⟩)
