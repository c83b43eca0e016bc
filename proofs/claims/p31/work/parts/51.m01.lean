set_option maxHeartbeats 4000000 in
set_option maxRecDepth 100000 in
theorem S_X12_in {l : Launch} {D : va_G} {ids : List Nat} {ad : Nat → Nat} {ca : Nat → ClassId} {σ : HS} {x1 : Int32} {x2 : Int32} {x3 : Int32} (hid : ∀ i, i < 277 → i ∈ ids) (hG : GIm σ) : Ki l D ids ad ca yX12_in cX12_in 3 .boolean 0 0 [.int x1, .int x2, .int x3] σ (fun r σ1 => (σ1 = σ) ∧ (0 ≤ r.toInt ∧ r.toInt ≤ 1) ∧ (r.toInt = 1 → x2.toInt ≤ x1.toInt ∧ x1.toInt ≤ x3.toInt)) := by
  refine Ki.of (by decide) (Nat.le_of_ble_eq_true rfl) 0 (fun Γ C Rt => ?_)
  show AW ids ad ca Γ 0 [some (.int x1), some (.int x2), some (.int x3)] [] σ
  refine a_iload_n C dX12_in_0 (i := 0) rfl rfl ?_
  refine a_iload_n C dX12_in_1 (i := 1) rfl rfl ?_
  refine s_ic_lt C dX12_in_2 (tgt := 14) rfl (fun c1 => ?_) (fun c1 => ?_)
  ·
    refine s_iconst C dX12_in_14 (0) (by decide) (fun z2 h3 => ?_)
    exact a_iret Rt dX12_in_15 (nar_z (by omega)).1 (⟨rfl, (show 0 ≤ z2.toInt ∧ z2.toInt ≤ 1 by intros; omega), (show z2.toInt = 1 → x2.toInt ≤ x1.toInt ∧ x1.toInt ≤ x3.toInt by intros; omega)⟩)
  ·
    refine a_iload_n C dX12_in_5 (i := 0) rfl rfl ?_
    refine a_iload_n C dX12_in_6 (i := 2) rfl rfl ?_
    refine s_ic_gt C dX12_in_7 (tgt := 14) rfl (fun c4 => ?_) (fun c4 => ?_)
    ·
      refine s_iconst C dX12_in_14 (0) (by decide) (fun z5 h6 => ?_)
      exact a_iret Rt dX12_in_15 (nar_z (by omega)).1 (⟨rfl, (show 0 ≤ z5.toInt ∧ z5.toInt ≤ 1 by intros; omega), (show z5.toInt = 1 → x2.toInt ≤ x1.toInt ∧ x1.toInt ≤ x3.toInt by intros; omega)⟩)
    ·
      refine s_iconst C dX12_in_10 (1) (by decide) (fun z7 h8 => ?_)
      refine a_goto C dX12_in_11 (tgt := 15) rfl ?_
      exact a_iret Rt dX12_in_15 (nar_z (by omega)).1 (⟨rfl, (show 0 ≤ z7.toInt ∧ z7.toInt ≤ 1 by intros; omega), (show z7.toInt = 1 → x2.toInt ≤ x1.toInt ∧ x1.toInt ≤ x3.toInt by intros; omega)⟩)
set_option maxHeartbeats 4000000 in
set_option maxRecDepth 100000 in
theorem S_X12_isSome {l : Launch} {D : va_G} {ids : List Nat} {ad : Nat → Nat} {ca : Nat → ClassId} {σ : HS} {x1 : Int32} (hid : ∀ i, i < 277 → i ∈ ids) (hG : GIm σ) : Ki l D ids ad ca yX12_isSome cX12_isSome 1 .boolean 1 22 [.int x1] σ (fun r σ1 => (σ1 = σ) ∧ (0 ≤ r.toInt ∧ r.toInt ≤ 1) ∧ (r.toInt = 1 → 1 ≤ x1.toInt ∧ x1.toInt ≤ 60)) := by
  refine Ki.of (by decide) (Nat.le_of_ble_eq_true rfl) 0 (fun Γ C Rt => ?_)
  show AW ids ad ca Γ 0 [some (.int x1)] [] σ
  refine a_iload_n C dX12_isSome_0 (i := 0) rfl rfl ?_
  refine s_iconst C dX12_isSome_1 (1) (by decide) (fun z1 h2 => ?_)
  refine s_bipush C dX12_isSome_2 (60) (by decide) (fun z3 h4 => ?_)
  refine a_callSi C (S_X12_in (x1 := x1) (x2 := z1) (x3 := z3) hid hG) ms_X12_in ml_RX12_301 rfl rfl (Nat.le_of_ble_eq_true rfl) (Nat.le_of_ble_eq_true rfl) (Nat.le_of_ble_eq_true rfl) dX12_isSome_4 (fun z5 σ6 q7 => ?_)
  obtain ⟨w8, w9, w10⟩ := q7
  rw [w8]
  exact a_iret Rt dX12_isSome_7 (nar_z (by omega)).1 (⟨rfl, (show 0 ≤ z5.toInt ∧ z5.toInt ≤ 1 by intros; omega), (show z5.toInt = 1 → 1 ≤ x1.toInt ∧ x1.toInt ≤ 60 by intros; omega)⟩)
set_option maxHeartbeats 4000000 in
set_option maxRecDepth 100000 in
theorem S_X12_isLong {l : Launch} {D : va_G} {ids : List Nat} {ad : Nat → Nat} {ca : Nat → ClassId} {σ : HS} {x1 : Int32} (hid : ∀ i, i < 277 → i ∈ ids) (hG : GIm σ) : Ki l D ids ad ca yX12_isLong cX12_isLong 1 .boolean 1 22 [.int x1] σ (fun r σ1 => (σ1 = σ) ∧ (0 ≤ r.toInt ∧ r.toInt ≤ 1) ∧ (r.toInt = 1 → 0 ≤ x1.toInt ∧ x1.toInt ≤ 60)) := by
  refine Ki.of (by decide) (Nat.le_of_ble_eq_true rfl) 0 (fun Γ C Rt => ?_)
  show AW ids ad ca Γ 0 [some (.int x1)] [] σ
  refine a_iload_n C dX12_isLong_0 (i := 0) rfl rfl ?_
  refine s_iconst C dX12_isLong_1 (0) (by decide) (fun z1 h2 => ?_)
  refine s_bipush C dX12_isLong_2 (60) (by decide) (fun z3 h4 => ?_)
  refine a_callSi C (S_X12_in (x1 := x1) (x2 := z1) (x3 := z3) hid hG) ms_X12_in ml_RX12_301 rfl rfl (Nat.le_of_ble_eq_true rfl) (Nat.le_of_ble_eq_true rfl) (Nat.le_of_ble_eq_true rfl) dX12_isLong_4 (fun z5 σ6 q7 => ?_)
  obtain ⟨w8, w9, w10⟩ := q7
  rw [w8]
  exact a_iret Rt dX12_isLong_7 (nar_z (by omega)).1 (⟨rfl, (show 0 ≤ z5.toInt ∧ z5.toInt ≤ 1 by intros; omega), (show z5.toInt = 1 → 0 ≤ x1.toInt ∧ x1.toInt ≤ 60 by intros; omega)⟩)
set_option maxHeartbeats 4000000 in
set_option maxRecDepth 100000 in
theorem S_X12_isThing_236 {l : Launch} {D : va_G} {ids : List Nat} {ad : Nat → Nat} {ca : Nat → ClassId} {σ : HS} {x1 : Int32} (hid : ∀ i, i < 277 → i ∈ ids) (hG : GIm σ) : Ki l D ids ad ca yX12_isThing cX12_isThing 2 .boolean 1 22 [.ref (ad 236), .int x1] σ (fun r σ1 => (σ1 = σ) ∧ (0 ≤ r.toInt ∧ r.toInt ≤ 1) ∧ (r.toInt = 1 → 0 ≤ x1.toInt ∧ x1.toInt ≤ 6)) := by
  refine Ki.of (by decide) (Nat.le_of_ble_eq_true rfl) 0 (fun Γ C Rt => ?_)
  show AW ids ad ca Γ 0 [some (.ref (ad 236)), some (.int x1)] [] σ
  refine a_iload_n C dX12_isThing_0 (i := 1) rfl rfl ?_
  refine s_iconst C dX12_isThing_1 (0) (by decide) (fun z1 h2 => ?_)
  refine a_aload_n C dX12_isThing_2 (i := 0) rfl rfl ?_
  refine a_get C fl_RX12_43 (i := 236) kd_236 (hid 236 (by decide)) (v := .ref (ad 245)) rfl dX12_isThing_3 ?_
  refine a_aload_n C dX12_isThing_6 (i := 0) rfl rfl ?_
  have g3 := bF_236_18 hG
  refine a_get C fl_RX12_221 (i := 236) kd_236 (hid 236 (by decide)) (v := .int (σ.1 236 18)) rfl dX12_isThing_7 ?_
  refine s_iald C (i := 245) kd_245 (hid 245 (by decide)) al_245 (by omega) (by omega) dX12_isThing_10 (fun n4 h5 => ?_)
  refine s_val (fun z6 e7 => ?_)
  have g8 := bA_245 hG n4
  rw [e7] at g8
  refine s_iconst C dX12_isThing_11 (1) (by decide) (fun z9 h10 => ?_)
  refine s_isub C dX12_isThing_12 (by omega) (fun z11 h12 => ?_)
  refine a_callSi C (S_X12_in (x1 := x1) (x2 := z1) (x3 := z11) hid hG) ms_X12_in ml_RX12_301 rfl rfl (Nat.le_of_ble_eq_true rfl) (Nat.le_of_ble_eq_true rfl) (Nat.le_of_ble_eq_true rfl) dX12_isThing_13 (fun z13 σ14 q15 => ?_)
  obtain ⟨w16, w17, w18⟩ := q15
  rw [w16]
  exact a_iret Rt dX12_isThing_16 (nar_z (by omega)).1 (⟨rfl, (show 0 ≤ z13.toInt ∧ z13.toInt ≤ 1 by intros; omega), (show z13.toInt = 1 → 0 ≤ x1.toInt ∧ x1.toInt ≤ 6 by intros; omega)⟩)
set_option maxHeartbeats 4000000 in
set_option maxRecDepth 100000 in
theorem S_X12_isPattern_236 {l : Launch} {D : va_G} {ids : List Nat} {ad : Nat → Nat} {ca : Nat → ClassId} {σ : HS} {x1 : Int32} (hid : ∀ i, i < 277 → i ∈ ids) (hG : GIm σ) : Ki l D ids ad ca yX12_isPattern cX12_isPattern 2 .boolean 1 22 [.ref (ad 236), .int x1] σ (fun r σ1 => (σ1 = σ) ∧ (0 ≤ r.toInt ∧ r.toInt ≤ 1) ∧ (r.toInt = 1 → 0 ≤ x1.toInt ∧ x1.toInt ≤ 4 ∧ x1.toInt < plm σ)) := by
  refine Ki.of (by decide) (Nat.le_of_ble_eq_true rfl) 0 (fun Γ C Rt => ?_)
  show AW ids ad ca Γ 0 [some (.ref (ad 236)), some (.int x1)] [] σ
  refine a_iload_n C dX12_isPattern_0 (i := 1) rfl rfl ?_
  refine s_iconst C dX12_isPattern_1 (0) (by decide) (fun z1 h2 => ?_)
  refine a_aload_n C dX12_isPattern_2 (i := 0) rfl rfl ?_
  refine a_get C fl_RX12_55 (i := 236) kd_236 (hid 236 (by decide)) (v := .ref (ad 249)) rfl dX12_isPattern_3 ?_
  refine a_aload_n C dX12_isPattern_6 (i := 0) rfl rfl ?_
  have g3 := bF_236_18 hG
  refine a_get C fl_RX12_221 (i := 236) kd_236 (hid 236 (by decide)) (v := .int (σ.1 236 18)) rfl dX12_isPattern_7 ?_
  refine s_iald C (i := 249) kd_249 (hid 249 (by decide)) al_249 (by omega) (by omega) dX12_isPattern_10 (fun n4 h5 => ?_)
  refine s_val (fun z6 e7 => ?_)
  have g8 := bA_249 hG n4
  rw [e7] at g8
  have gp : plm σ = z6.toInt := by unfold plm; rw [show (σ.1 236 18).toInt.toNat = n4 by omega, e7]
  refine s_iconst C dX12_isPattern_11 (1) (by decide) (fun z9 h10 => ?_)
  refine s_isub C dX12_isPattern_12 (by omega) (fun z11 h12 => ?_)
  refine a_callSi C (S_X12_in (x1 := x1) (x2 := z1) (x3 := z11) hid hG) ms_X12_in ml_RX12_301 rfl rfl (Nat.le_of_ble_eq_true rfl) (Nat.le_of_ble_eq_true rfl) (Nat.le_of_ble_eq_true rfl) dX12_isPattern_13 (fun z13 σ14 q15 => ?_)
  obtain ⟨w16, w17, w18⟩ := q15
  rw [w16]
  exact a_iret Rt dX12_isPattern_16 (nar_z (by omega)).1 (⟨rfl, (show 0 ≤ z13.toInt ∧ z13.toInt ≤ 1 by intros; omega), (show z13.toInt = 1 → 0 ≤ x1.toInt ∧ x1.toInt ≤ 4 ∧ x1.toInt < plm σ by intros; omega)⟩)
theorem dX12_byteAt_8 : decode cX12_byteAt 8 = .ok (.aload_n 0, 1) := by decide +kernel
theorem dX12_byteAt_9 : decode cX12_byteAt 9 = .ok (.getfield 17, 3) := by decide +kernel
theorem dX12_byteAt_12 : decode cX12_byteAt 12 = .ok (.iload_n 1, 1) := by decide +kernel
theorem dX12_byteAt_13 : decode cX12_byteAt 13 = .ok (.baload, 1) := by decide +kernel
theorem dX12_byteAt_14 : decode cX12_byteAt 14 = .ok (.sipush 255, 3) := by decide +kernel
theorem dX12_byteAt_17 : decode cX12_byteAt 17 = .ok (.iand, 1) := by decide +kernel
theorem dX12_byteAt_18 : decode cX12_byteAt 18 = .ok (.goto 4, 3) := by decide +kernel
set_option maxHeartbeats 4000000 in
set_option maxRecDepth 100000 in
theorem S_X12_byteAt_236 {l : Launch} {D : va_G} {ids : List Nat} {ad : Nat → Nat} {ca : Nat → ClassId} {σ : HS} {x1 : Int32} (hid : ∀ i, i < 277 → i ∈ ids) (hG : GIm σ) (hx1 : 0 ≤ x1.toInt ∧ x1.toInt ≤ 100000) : Ki l D ids ad ca yX12_byteAt cX12_byteAt 2 .int 0 0 [.ref (ad 236), .int x1] σ (fun r σ1 => (σ1 = σ) ∧ (0 ≤ r.toInt ∧ r.toInt ≤ 255) ∧ (r.toInt ≠ 0 → x1.toInt < (σ.1 236 4).toInt) ∧ (r = byt σ x1)) := by
  refine Ki.of (by decide) (Nat.le_of_ble_eq_true rfl) 0 (fun Γ C Rt => ?_)
  show AW ids ad ca Γ 0 [some (.ref (ad 236)), some (.int x1)] [] σ
  refine a_iload_n C dX12_byteAt_0 (i := 1) rfl rfl ?_
  refine a_aload_n C dX12_byteAt_1 (i := 0) rfl rfl ?_
  have g1 := bF_236_4 hG
  refine a_get C fl_RX12_160 (i := 236) kd_236 (hid 236 (by decide)) (v := .int (σ.1 236 4)) rfl dX12_byteAt_2 ?_
  refine s_ic_ge C dX12_byteAt_5 (tgt := 21) rfl (fun c2 => ?_) (fun c2 => ?_)
  ·
    refine s_iconst C dX12_byteAt_21 (0) (by decide) (fun z3 h4 => ?_)
    exact a_iret Rt dX12_byteAt_22 rfl (⟨rfl, (show 0 ≤ z3.toInt ∧ z3.toInt ≤ 255 by intros; omega), (show z3.toInt ≠ 0 → x1.toInt < (σ.1 236 4).toInt by intros; omega), (show z3 = byt σ x1 by unfold byt; rw [if_neg (by omega)]; exact Int32.toInt_inj.mp (by have : (0 : Int32).toInt = 0 := rfl; omega))⟩)
  ·
    refine a_aload_n C dX12_byteAt_8 (i := 0) rfl rfl ?_
    refine a_get C fl_RX12_17 (i := 236) kd_236 (hid 236 (by decide)) (v := .ref (ad 238)) rfl dX12_byteAt_9 ?_
    refine a_iload_n C dX12_byteAt_12 (i := 1) rfl rfl ?_
    refine s_bald C (i := 238) kd_238 (hid 238 (by decide)) al_238 (by omega) (by omega) dX12_byteAt_13 (fun n5 h6 => ?_)
    refine s_val (fun z7 e8 => ?_)
    refine s_sipush C dX12_byteAt_14 (255) (by decide) (fun z9 h10 => ?_)
    refine a_iand C dX12_byteAt_17 ?_
    refine s_val (fun z11 e12 => ?_)
    have gb := i32_and (x := z7) (y := z9) (by omega)
    rw [e12] at gb
    refine a_goto C dX12_byteAt_18 (tgt := 22) rfl ?_
    exact a_iret Rt dX12_byteAt_22 rfl (⟨rfl, (show 0 ≤ z11.toInt ∧ z11.toInt ≤ 255 by intros; omega), (show z11.toInt ≠ 0 → x1.toInt < (σ.1 236 4).toInt by intros; omega), (show z11 = byt σ x1 by unfold byt; rw [if_pos (by omega), show x1.toInt.toNat = n5 by omega, e8, ← e12, show (255 : Int32) = z9 from Int32.toInt_inj.mp (by have : (255 : Int32).toInt = 255 := rfl; omega)])⟩)
set_option maxHeartbeats 4000000 in
set_option maxRecDepth 100000 in
theorem S_X12_place_236 {l : Launch} {D : va_G} {ids : List Nat} {ad : Nat → Nat} {ca : Nat → ClassId} {σ : HS} (hid : ∀ i, i < 277 → i ∈ ids) (hG : GIm σ) : Ki l D ids ad ca yX12_place cX12_place 1 .int 0 0 [.ref (ad 236)] σ (fun r σ1 => (σ1 = σ)) := by
  refine Ki.of (by decide) (Nat.le_of_ble_eq_true rfl) 0 (fun Γ C Rt => ?_)
  show AW ids ad ca Γ 0 [some (.ref (ad 236))] [] σ
  refine a_aload_n C dX12_place_0 (i := 0) rfl rfl ?_
  refine a_get C fl_RX12_37 (i := 236) kd_236 (hid 236 (by decide)) (v := .int (σ.1 236 17)) rfl dX12_place_1 ?_
  exact a_iret Rt dX12_place_4 rfl (rfl)
set_option maxHeartbeats 4000000 in
set_option maxRecDepth 100000 in
theorem S_X12_forget_236 {l : Launch} {D : va_G} {ids : List Nat} {ad : Nat → Nat} {ca : Nat → ClassId} {σ : HS} (hid : ∀ i, i < 277 → i ∈ ids) (hG : GIm σ) : Ki l D ids ad ca yX12_forget cX12_forget 2 .int 0 0 [.ref (ad 236)] σ (fun r σ1 => (GIm σ1) ∧ (onm [1060] σ σ1)) := by
  refine Ki.of (by decide) (Nat.le_of_ble_eq_true rfl) 1 (fun Γ C Rt => ?_)
  show AW ids ad ca Γ 0 [some (.ref (ad 236)), none] [] σ
  refine a_aload_n C dX12_forget_0 (i := 0) rfl rfl ?_
  have g1 := bF_236_60 hG
  refine a_get C fl_RX12_242 (i := 236) kd_236 (hid 236 (by decide)) (v := .int (σ.1 236 60)) rfl dX12_forget_1 ?_
  refine a_istore_n C dX12_forget_4 (i := 1) rfl (by decide) rfl (vs1 := [some (.ref (ad 236)), some (.int (σ.1 236 60))]) rfl ?_
  refine a_aload_n C dX12_forget_5 (i := 0) rfl rfl ?_
  refine s_iconst C dX12_forget_6 (0) (by decide) (fun z2 h3 => ?_)
  refine a_put C fp_RX12_242 (i := 236) kd_236 (hid 236 (by decide)) rfl rfl dX12_forget_7 ?_
  have hG4 := wF_236_60 (v := z2) hG (by omega) (by omega)
  refine a_iload_n C dX12_forget_10 (i := 1) rfl rfl ?_
  exact a_iret Rt dX12_forget_11 rfl (⟨hG4, (onm.F onm.rf (by decide))⟩)
theorem dX12_told_0 : decode cX12_told 0 = .ok (.iload_n 1, 1) := by decide +kernel
theorem dX12_told_1 : decode cX12_told 1 = .ok (.iconst 1, 1) := by decide +kernel
theorem dX12_told_2 : decode cX12_told 2 = .ok (.if_icmp .ne 7, 3) := by decide +kernel
theorem dX12_told_5 : decode cX12_told 5 = .ok (.iload_n 0, 1) := by decide +kernel
theorem dX12_told_6 : decode cX12_told 6 = .ok (.goto 12, 3) := by decide +kernel
theorem dX12_told_9 : decode cX12_told 9 = .ok (.iload_n 0, 1) := by decide +kernel
theorem dX12_told_10 : decode cX12_told 10 = .ok (.ifCond .ge 7, 3) := by decide +kernel
theorem dX12_told_13 : decode cX12_told 13 = .ok (.iconst 0, 1) := by decide +kernel
theorem dX12_told_14 : decode cX12_told 14 = .ok (.goto 4, 3) := by decide +kernel
theorem dX12_told_17 : decode cX12_told 17 = .ok (.iconst 1, 1) := by decide +kernel
theorem dX12_told_18 : decode cX12_told 18 = .ok (.ireturn, 1) := by decide +kernel
set_option maxHeartbeats 4000000 in
set_option maxRecDepth 100000 in
theorem S_X12_told {l : Launch} {D : va_G} {ids : List Nat} {ad : Nat → Nat} {ca : Nat → ClassId} {σ : HS} {x1 : Int32} {x2 : Int32} (hid : ∀ i, i < 277 → i ∈ ids) (hG : GIm σ) : Ki l D ids ad ca yX12_told cX12_told 2 .int 0 0 [.int x1, .int x2] σ (fun r σ1 => (σ1 = σ)) := by
  refine Ki.of (by decide) (Nat.le_of_ble_eq_true rfl) 0 (fun Γ C Rt => ?_)
  show AW ids ad ca Γ 0 [some (.int x1), some (.int x2)] [] σ
  refine a_iload_n C dX12_told_0 (i := 1) rfl rfl ?_
  refine s_iconst C dX12_told_1 (1) (by decide) (fun z1 h2 => ?_)
  refine s_ic_ne C dX12_told_2 (tgt := 9) rfl (fun c3 => ?_) (fun c3 => ?_)
  ·
    refine a_iload_n C dX12_told_9 (i := 0) rfl rfl ?_
    refine s_if_ge C dX12_told_10 (tgt := 17) rfl (fun c4 => ?_) (fun c4 => ?_)
    ·
      refine s_iconst C dX12_told_17 (1) (by decide) (fun z5 h6 => ?_)
      exact a_iret Rt dX12_told_18 rfl (rfl)
    ·
      refine s_iconst C dX12_told_13 (0) (by decide) (fun z7 h8 => ?_)
      refine a_goto C dX12_told_14 (tgt := 18) rfl ?_
      exact a_iret Rt dX12_told_18 rfl (rfl)
  ·
    refine a_iload_n C dX12_told_5 (i := 0) rfl rfl ?_
    refine a_goto C dX12_told_6 (tgt := 18) rfl ?_
    exact a_iret Rt dX12_told_18 rfl (rfl)
theorem dX12_mixed_0 : decode cX12_mixed 0 = .ok (.iload_n 0, 1) := by decide +kernel
theorem dX12_mixed_1 : decode cX12_mixed 1 = .ok (.iload_n 1, 1) := by decide +kernel
theorem dX12_mixed_2 : decode cX12_mixed 2 = .ok (.ixor, 1) := by decide +kernel
theorem dX12_mixed_3 : decode cX12_mixed 3 = .ok (.ldc_w 314, 3) := by decide +kernel
theorem dX12_mixed_6 : decode cX12_mixed 6 = .ok (.imul, 1) := by decide +kernel
theorem dX12_mixed_7 : decode cX12_mixed 7 = .ok (.sipush 12345, 3) := by decide +kernel
theorem dX12_mixed_10 : decode cX12_mixed 10 = .ok (.iadd, 1) := by decide +kernel
theorem dX12_mixed_11 : decode cX12_mixed 11 = .ok (.istore_n 2, 1) := by decide +kernel
theorem dX12_mixed_12 : decode cX12_mixed 12 = .ok (.iload_n 2, 1) := by decide +kernel
theorem dX12_mixed_13 : decode cX12_mixed 13 = .ok (.iload_n 2, 1) := by decide +kernel
theorem dX12_mixed_14 : decode cX12_mixed 14 = .ok (.bipush 15, 2) := by decide +kernel
theorem dX12_mixed_16 : decode cX12_mixed 16 = .ok (.iushr, 1) := by decide +kernel
theorem dX12_mixed_17 : decode cX12_mixed 17 = .ok (.ixor, 1) := by decide +kernel
theorem dX12_mixed_18 : decode cX12_mixed 18 = .ok (.ireturn, 1) := by decide +kernel
set_option maxHeartbeats 4000000 in
set_option maxRecDepth 100000 in
theorem S_X12_mixed {l : Launch} {D : va_G} {ids : List Nat} {ad : Nat → Nat} {ca : Nat → ClassId} {σ : HS} {x1 : Int32} {x2 : Int32} (hid : ∀ i, i < 277 → i ∈ ids) (hG : GIm σ) : Ki l D ids ad ca yX12_mixed cX12_mixed 3 .int 0 0 [.int x1, .int x2] σ (fun r σ1 => (σ1 = σ)) := by
  refine Ki.of (by decide) (Nat.le_of_ble_eq_true rfl) 1 (fun Γ C Rt => ?_)
  show AW ids ad ca Γ 0 [some (.int x1), some (.int x2), none] [] σ
  refine a_iload_n C dX12_mixed_0 (i := 0) rfl rfl ?_
  refine a_iload_n C dX12_mixed_1 (i := 1) rfl rfl ?_
  refine s_ixorU C dX12_mixed_2 (fun z1 => ?_)
  refine s_ldcw C dX12_mixed_3 ko_RX12_314 (1103515245) (by decide) (fun z3 h4 => ?_)
  refine s_imulU C dX12_mixed_6 (fun z5 => ?_)
  refine s_sipush C dX12_mixed_7 (12345) (by decide) (fun z7 h8 => ?_)
  refine s_iaddU C dX12_mixed_10 (fun z9 => ?_)
  refine a_istore_n C dX12_mixed_11 (i := 2) rfl (by decide) rfl (vs1 := [some (.int x1), some (.int x2), some (.int z9)]) rfl ?_
  refine a_iload_n C dX12_mixed_12 (i := 2) rfl rfl ?_
  refine a_iload_n C dX12_mixed_13 (i := 2) rfl rfl ?_
  refine s_bipush C dX12_mixed_14 (15) (by decide) (fun z11 h12 => ?_)
  refine s_iushrU C dX12_mixed_16 (fun z13 => ?_)
  refine s_ixorU C dX12_mixed_17 (fun z15 => ?_)
  exact a_iret Rt dX12_mixed_18 rfl (rfl)
set_option maxHeartbeats 4000000 in
set_option maxRecDepth 100000 in
theorem S_X12_bits {l : Launch} {D : va_G} {ids : List Nat} {ad : Nat → Nat} {ca : Nat → ClassId} {σ : HS} {x1 : Int32} (hid : ∀ i, i < 277 → i ∈ ids) (hG : GIm σ) : Ki l D ids ad ca yX12_bits cX12_bits 3 .int 0 0 [.int x1] σ (fun r σ1 => (σ1 = σ)) := by
  refine Ki.of (by decide) (Nat.le_of_ble_eq_true rfl) 2 (fun Γ C Rt => ?_)
  show AW ids ad ca Γ 0 [some (.int x1), none, none] [] σ
  have j4 : ∀ (d4 : Nat) (y4_1 : Int32) (y4_2 : Int32), 10 - y4_2.toInt < d4 → 0 ≤ y4_2.toInt ∧ y4_2.toInt ≤ 10 → AW ids ad ca Γ 4 [some (.int x1), some (.int y4_1), some (.int y4_2)] [] σ := by
    intro d4
    induction d4 with
    | zero =>
      intro y4_1 y4_2 hd4 hx4_0
      exfalso
      omega
    | succ d4 ih4 =>
      intro y4_1 y4_2 hd4 hx4_0
      refine a_iload_n C dX12_bits_4 (i := 2) rfl rfl ?_
      refine s_bipush C dX12_bits_5 (10) (by decide) (fun z1 h2 => ?_)
      refine s_ic_ge C dX12_bits_7 (tgt := 24) rfl (fun c3 => ?_) (fun c3 => ?_)
      ·
        refine a_iload_n C dX12_bits_24 (i := 1) rfl rfl ?_
        exact a_iret Rt dX12_bits_25 rfl (rfl)
      ·
        refine a_iload_n C dX12_bits_10 (i := 1) rfl rfl ?_
        refine a_iload_n C dX12_bits_11 (i := 0) rfl rfl ?_
        refine a_iload_n C dX12_bits_12 (i := 2) rfl rfl ?_
        refine s_ishrU C dX12_bits_13 (fun z4 => ?_)
        refine s_iconst C dX12_bits_14 (1) (by decide) (fun z6 h7 => ?_)
        refine s_iand C dX12_bits_15 (by omega) (fun z8 h9 => ?_)
        refine s_iaddU C dX12_bits_16 (fun z10 => ?_)
        refine a_istore_n C dX12_bits_17 (i := 1) rfl (by decide) rfl (vs1 := [some (.int x1), some (.int z10), some (.int y4_2)]) rfl ?_
        refine s_iinc C dX12_bits_18 rfl (1) (by decide) (by omega) (by decide) rfl (fun z12 h13 => ?_)
        show AW ids ad ca Γ 21 [some (.int x1), some (.int z10), some (.int z12)] _ _
        refine a_goto C dX12_bits_21 (tgt := 4) rfl ?_
        exact ih4 z10 z12 (by omega) (by omega)
  refine s_iconst C dX12_bits_0 (0) (by decide) (fun z14 h15 => ?_)
  refine a_istore_n C dX12_bits_1 (i := 1) rfl (by decide) rfl (vs1 := [some (.int x1), some (.int z14), none]) rfl ?_
  refine s_iconst C dX12_bits_2 (0) (by decide) (fun z16 h17 => ?_)
  refine a_istore_n C dX12_bits_3 (i := 2) rfl (by decide) rfl (vs1 := [some (.int x1), some (.int z14), some (.int z16)]) rfl ?_
  exact j4 100000 z14 z16 (by omega) (by omega)
theorem dX12_held_9 : decode cX12_held 9 = .ok (.iload_n 0, 1) := by decide +kernel
theorem dX12_held_10 : decode cX12_held 10 = .ok (.iload_n 2, 1) := by decide +kernel
theorem dX12_held_11 : decode cX12_held 11 = .ok (.if_icmp .le 7, 3) := by decide +kernel
theorem dX12_held_14 : decode cX12_held 14 = .ok (.iload_n 2, 1) := by decide +kernel
theorem dX12_held_15 : decode cX12_held 15 = .ok (.goto 4, 3) := by decide +kernel
theorem dX12_held_18 : decode cX12_held 18 = .ok (.iload_n 0, 1) := by decide +kernel
set_option maxHeartbeats 4000000 in
set_option maxRecDepth 100000 in
theorem S_X12_held {l : Launch} {D : va_G} {ids : List Nat} {ad : Nat → Nat} {ca : Nat → ClassId} {σ : HS} {x1 : Int32} {x2 : Int32} {x3 : Int32} (hid : ∀ i, i < 277 → i ∈ ids) (hG : GIm σ) : Ki l D ids ad ca yX12_held cX12_held 3 .int 0 0 [.int x1, .int x2, .int x3] σ (fun r σ1 => (σ1 = σ) ∧ (x2.toInt ≤ x3.toInt → x2.toInt ≤ r.toInt ∧ r.toInt ≤ x3.toInt)) := by
  refine Ki.of (by decide) (Nat.le_of_ble_eq_true rfl) 0 (fun Γ C Rt => ?_)
  show AW ids ad ca Γ 0 [some (.int x1), some (.int x2), some (.int x3)] [] σ
  refine a_iload_n C dX12_held_0 (i := 0) rfl rfl ?_
  refine a_iload_n C dX12_held_1 (i := 1) rfl rfl ?_
  refine s_ic_ge C dX12_held_2 (tgt := 9) rfl (fun c1 => ?_) (fun c1 => ?_)
  ·
    refine a_iload_n C dX12_held_9 (i := 0) rfl rfl ?_
    refine a_iload_n C dX12_held_10 (i := 2) rfl rfl ?_
    refine s_ic_le C dX12_held_11 (tgt := 18) rfl (fun c2 => ?_) (fun c2 => ?_)
    ·
      refine a_iload_n C dX12_held_18 (i := 0) rfl rfl ?_
      exact a_iret Rt dX12_held_19 rfl (⟨rfl, (show x2.toInt ≤ x3.toInt → x2.toInt ≤ x1.toInt ∧ x1.toInt ≤ x3.toInt by intros; omega)⟩)
    ·
      refine a_iload_n C dX12_held_14 (i := 2) rfl rfl ?_
      refine a_goto C dX12_held_15 (tgt := 19) rfl ?_
      exact a_iret Rt dX12_held_19 rfl (⟨rfl, (show x2.toInt ≤ x3.toInt → x2.toInt ≤ x3.toInt ∧ x3.toInt ≤ x3.toInt by intros; omega)⟩)
  ·
    refine a_iload_n C dX12_held_5 (i := 1) rfl rfl ?_
    refine a_goto C dX12_held_6 (tgt := 19) rfl ?_
    exact a_iret Rt dX12_held_19 rfl (⟨rfl, (show x2.toInt ≤ x3.toInt → x2.toInt ≤ x2.toInt ∧ x2.toInt ≤ x3.toInt by intros; omega)⟩)
theorem dX12_thingsSo_17 : decode cX12_thingsSo 17 = .ok (.aload_n 0, 1) := by decide +kernel
theorem dX12_thingsSo_18 : decode cX12_thingsSo 18 = .ok (.getfield 110, 3) := by decide +kernel
theorem dX12_thingsSo_21 : decode cX12_thingsSo 21 = .ok (.iload_n 3, 1) := by decide +kernel
theorem dX12_thingsSo_22 : decode cX12_thingsSo 22 = .ok (.iaload, 1) := by decide +kernel
theorem dX12_thingsSo_23 : decode cX12_thingsSo 23 = .ok (.iload_n 1, 1) := by decide +kernel
theorem dX12_thingsSo_24 : decode cX12_thingsSo 24 = .ok (.if_icmp .ne 9, 3) := by decide +kernel
theorem dX12_thingsSo_27 : decode cX12_thingsSo 27 = .ok (.iload_n 2, 1) := by decide +kernel
theorem dX12_thingsSo_28 : decode cX12_thingsSo 28 = .ok (.iconst 1, 1) := by decide +kernel
theorem dX12_thingsSo_29 : decode cX12_thingsSo 29 = .ok (.iload_n 3, 1) := by decide +kernel
theorem dX12_thingsSo_30 : decode cX12_thingsSo 30 = .ok (.ishl, 1) := by decide +kernel
theorem dX12_thingsSo_31 : decode cX12_thingsSo 31 = .ok (.ior, 1) := by decide +kernel
theorem dX12_thingsSo_32 : decode cX12_thingsSo 32 = .ok (.istore_n 2, 1) := by decide +kernel
theorem dX12_thingsSo_33 : decode cX12_thingsSo 33 = .ok (.iinc 3 1, 3) := by decide +kernel
theorem dX12_thingsSo_36 : decode cX12_thingsSo 36 = .ok (.goto (-32), 3) := by decide +kernel
set_option maxHeartbeats 4000000 in
set_option maxRecDepth 100000 in
theorem S_X12_thingsSo_236 {l : Launch} {D : va_G} {ids : List Nat} {ad : Nat → Nat} {ca : Nat → ClassId} {σ : HS} {x1 : Int32} (hid : ∀ i, i < 277 → i ∈ ids) (hG : GIm σ) : Ki l D ids ad ca yX12_thingsSo cX12_thingsSo 4 .int 0 0 [.ref (ad 236), .int x1] σ (fun r σ1 => (σ1 = σ)) := by
  refine Ki.of (by decide) (Nat.le_of_ble_eq_true rfl) 2 (fun Γ C Rt => ?_)
  show AW ids ad ca Γ 0 [some (.ref (ad 236)), some (.int x1), none, none] [] σ
  have j4 : ∀ (d4 : Nat) (y4_2 : Int32) (y4_3 : Int32), 7 - y4_3.toInt < d4 → 0 ≤ y4_2.toInt ∧ y4_2.toInt ≤ 1023 → 0 ≤ y4_3.toInt ∧ y4_3.toInt ≤ 7 → AW ids ad ca Γ 4 [some (.ref (ad 236)), some (.int x1), some (.int y4_2), some (.int y4_3)] [] σ := by
    intro d4
    induction d4 with
    | zero =>
      intro y4_2 y4_3 hd4 hx4_0 hx4_1
      exfalso
      omega
    | succ d4 ih4 =>
      intro y4_2 y4_3 hd4 hx4_0 hx4_1
      have j33 : ∀ (y33_2 : Int32), 0 ≤ y33_2.toInt ∧ y33_2.toInt ≤ 1023 → 0 ≤ y4_3.toInt ∧ y4_3.toInt ≤ 6 → AW ids ad ca Γ 33 [some (.ref (ad 236)), some (.int x1), some (.int y33_2), some (.int y4_3)] [] σ := by
        intro y33_2 hx33_0 hx33_1
        refine s_iinc C dX12_thingsSo_33 rfl (1) (by decide) (by omega) (by decide) rfl (fun z1 h2 => ?_)
        show AW ids ad ca Γ 36 [some (.ref (ad 236)), some (.int x1), some (.int y33_2), some (.int z1)] _ _
        refine a_goto C dX12_thingsSo_36 (tgt := 4) rfl ?_
        exact ih4 y33_2 z1 (by omega) (by omega) (by omega)
      refine a_iload_n C dX12_thingsSo_4 (i := 3) rfl rfl ?_
      refine a_aload_n C dX12_thingsSo_5 (i := 0) rfl rfl ?_
      refine a_get C fl_RX12_43 (i := 236) kd_236 (hid 236 (by decide)) (v := .ref (ad 245)) rfl dX12_thingsSo_6 ?_
      refine a_aload_n C dX12_thingsSo_9 (i := 0) rfl rfl ?_
      have g3 := bF_236_18 hG
      refine a_get C fl_RX12_221 (i := 236) kd_236 (hid 236 (by decide)) (v := .int (σ.1 236 18)) rfl dX12_thingsSo_10 ?_
      refine s_iald C (i := 245) kd_245 (hid 245 (by decide)) al_245 (by omega) (by omega) dX12_thingsSo_13 (fun n4 h5 => ?_)
      refine s_val (fun z6 e7 => ?_)
      have g8 := bA_245 hG n4
      rw [e7] at g8
      refine s_ic_ge C dX12_thingsSo_14 (tgt := 39) rfl (fun c9 => ?_) (fun c9 => ?_)
      ·
        refine a_iload_n C dX12_thingsSo_39 (i := 2) rfl rfl ?_
        exact a_iret Rt dX12_thingsSo_40 rfl (rfl)
      ·
        refine a_aload_n C dX12_thingsSo_17 (i := 0) rfl rfl ?_
        refine a_get C fl_RX12_110 (i := 236) kd_236 (hid 236 (by decide)) (v := .ref (ad 267)) rfl dX12_thingsSo_18 ?_
        refine a_iload_n C dX12_thingsSo_21 (i := 3) rfl rfl ?_
        refine s_iald C (i := 267) kd_267 (hid 267 (by decide)) al_267 (by omega) (by omega) dX12_thingsSo_22 (fun n10 h11 => ?_)
        refine s_val (fun z12 e13 => ?_)
        refine a_iload_n C dX12_thingsSo_23 (i := 1) rfl rfl ?_
        refine s_ic_ne C dX12_thingsSo_24 (tgt := 33) rfl (fun c14 => ?_) (fun c14 => ?_)
        ·
          exact j33 y4_2 (by omega) (by omega)
        ·
          refine a_iload_n C dX12_thingsSo_27 (i := 2) rfl rfl ?_
          refine s_iconst C dX12_thingsSo_28 (1) (by decide) (fun z15 h16 => ?_)
          refine a_iload_n C dX12_thingsSo_29 (i := 3) rfl rfl ?_
          refine s_ishl1 C dX12_thingsSo_30 (by omega) (by omega) (fun z17 h18 => ?_)
          refine s_ior C dX12_thingsSo_31 10 (by decide) (by omega) (by omega) (fun z19 h20 => ?_)
          refine a_istore_n C dX12_thingsSo_32 (i := 2) rfl (by decide) rfl (vs1 := [some (.ref (ad 236)), some (.int x1), some (.int z19), some (.int y4_3)]) rfl ?_
          exact j33 z19 (by omega) (by omega)
  refine s_iconst C dX12_thingsSo_0 (0) (by decide) (fun z21 h22 => ?_)
  refine a_istore_n C dX12_thingsSo_1 (i := 2) rfl (by decide) rfl (vs1 := [some (.ref (ad 236)), some (.int x1), some (.int z21), none]) rfl ?_
  refine s_iconst C dX12_thingsSo_2 (0) (by decide) (fun z23 h24 => ?_)
  refine a_istore_n C dX12_thingsSo_3 (i := 3) rfl (by decide) rfl (vs1 := [some (.ref (ad 236)), some (.int x1), some (.int z21), some (.int z23)]) rfl ?_
  exact j4 100000 z21 z23 (by omega) (by omega) (by omega)
theorem dX12_weightsOf_17 : decode cX12_weightsOf 17 = .ok (.iload_n 1, 1) := by decide +kernel
theorem dX12_weightsOf_18 : decode cX12_weightsOf 18 = .ok (.iload_n 3, 1) := by decide +kernel
theorem dX12_weightsOf_19 : decode cX12_weightsOf 19 = .ok (.ishr, 1) := by decide +kernel
theorem dX12_weightsOf_20 : decode cX12_weightsOf 20 = .ok (.iconst 1, 1) := by decide +kernel
theorem dX12_weightsOf_21 : decode cX12_weightsOf 21 = .ok (.iand, 1) := by decide +kernel
theorem dX12_weightsOf_22 : decode cX12_weightsOf 22 = .ok (.iconst 1, 1) := by decide +kernel
theorem dX12_weightsOf_23 : decode cX12_weightsOf 23 = .ok (.if_icmp .ne 20, 3) := by decide +kernel
theorem dX12_weightsOf_26 : decode cX12_weightsOf 26 = .ok (.iload_n 2, 1) := by decide +kernel
theorem dX12_weightsOf_27 : decode cX12_weightsOf 27 = .ok (.aload_n 0, 1) := by decide +kernel
theorem dX12_weightsOf_28 : decode cX12_weightsOf 28 = .ok (.getfield 46, 3) := by decide +kernel
theorem dX12_weightsOf_31 : decode cX12_weightsOf 31 = .ok (.bipush 7, 2) := by decide +kernel
theorem dX12_weightsOf_33 : decode cX12_weightsOf 33 = .ok (.aload_n 0, 1) := by decide +kernel
theorem dX12_weightsOf_34 : decode cX12_weightsOf 34 = .ok (.getfield 221, 3) := by decide +kernel
theorem dX12_weightsOf_37 : decode cX12_weightsOf 37 = .ok (.imul, 1) := by decide +kernel
theorem dX12_weightsOf_38 : decode cX12_weightsOf 38 = .ok (.iload_n 3, 1) := by decide +kernel
theorem dX12_weightsOf_39 : decode cX12_weightsOf 39 = .ok (.iadd, 1) := by decide +kernel
theorem dX12_weightsOf_40 : decode cX12_weightsOf 40 = .ok (.iaload, 1) := by decide +kernel
theorem dX12_weightsOf_41 : decode cX12_weightsOf 41 = .ok (.iadd, 1) := by decide +kernel
theorem dX12_weightsOf_42 : decode cX12_weightsOf 42 = .ok (.istore_n 2, 1) := by decide +kernel
theorem dX12_weightsOf_43 : decode cX12_weightsOf 43 = .ok (.iinc 3 1, 3) := by decide +kernel
theorem dX12_weightsOf_46 : decode cX12_weightsOf 46 = .ok (.goto (-42), 3) := by decide +kernel
set_option maxHeartbeats 4000000 in
set_option maxRecDepth 100000 in
theorem S_X12_weightsOf_236 {l : Launch} {D : va_G} {ids : List Nat} {ad : Nat → Nat} {ca : Nat → ClassId} {σ : HS} {x1 : Int32} (hid : ∀ i, i < 277 → i ∈ ids) (hG : GIm σ) : Ki l D ids ad ca yX12_weightsOf cX12_weightsOf 4 .int 0 0 [.ref (ad 236), .int x1] σ (fun r σ1 => (σ1 = σ)) := by
  refine Ki.of (by decide) (Nat.le_of_ble_eq_true rfl) 2 (fun Γ C Rt => ?_)
  show AW ids ad ca Γ 0 [some (.ref (ad 236)), some (.int x1), none, none] [] σ
  have j4 : ∀ (d4 : Nat) (y4_2 : Int32) (y4_3 : Int32), 7 - y4_3.toInt < d4 → 0 ≤ y4_3.toInt ∧ y4_3.toInt ≤ 7 → AW ids ad ca Γ 4 [some (.ref (ad 236)), some (.int x1), some (.int y4_2), some (.int y4_3)] [] σ := by
    intro d4
    induction d4 with
    | zero =>
      intro y4_2 y4_3 hd4 hx4_0
      exfalso
      omega
    | succ d4 ih4 =>
      intro y4_2 y4_3 hd4 hx4_0
      have j43 : ∀ (y43_2 : Int32), 0 ≤ y4_3.toInt ∧ y4_3.toInt ≤ 6 → AW ids ad ca Γ 43 [some (.ref (ad 236)), some (.int x1), some (.int y43_2), some (.int y4_3)] [] σ := by
        intro y43_2 hx43_0
        refine s_iinc C dX12_weightsOf_43 rfl (1) (by decide) (by omega) (by decide) rfl (fun z1 h2 => ?_)
        show AW ids ad ca Γ 46 [some (.ref (ad 236)), some (.int x1), some (.int y43_2), some (.int z1)] _ _
        refine a_goto C dX12_weightsOf_46 (tgt := 4) rfl ?_
        exact ih4 y43_2 z1 (by omega) (by omega)
      refine a_iload_n C dX12_weightsOf_4 (i := 3) rfl rfl ?_
      refine a_aload_n C dX12_weightsOf_5 (i := 0) rfl rfl ?_
      refine a_get C fl_RX12_43 (i := 236) kd_236 (hid 236 (by decide)) (v := .ref (ad 245)) rfl dX12_weightsOf_6 ?_
      refine a_aload_n C dX12_weightsOf_9 (i := 0) rfl rfl ?_
      have g3 := bF_236_18 hG
      refine a_get C fl_RX12_221 (i := 236) kd_236 (hid 236 (by decide)) (v := .int (σ.1 236 18)) rfl dX12_weightsOf_10 ?_
      refine s_iald C (i := 245) kd_245 (hid 245 (by decide)) al_245 (by omega) (by omega) dX12_weightsOf_13 (fun n4 h5 => ?_)
      refine s_val (fun z6 e7 => ?_)
      have g8 := bA_245 hG n4
      rw [e7] at g8
      refine s_ic_ge C dX12_weightsOf_14 (tgt := 49) rfl (fun c9 => ?_) (fun c9 => ?_)
      ·
        refine a_iload_n C dX12_weightsOf_49 (i := 2) rfl rfl ?_
        exact a_iret Rt dX12_weightsOf_50 rfl (rfl)
      ·
        refine a_iload_n C dX12_weightsOf_17 (i := 1) rfl rfl ?_
        refine a_iload_n C dX12_weightsOf_18 (i := 3) rfl rfl ?_
        refine s_ishrU C dX12_weightsOf_19 (fun z10 => ?_)
        refine s_iconst C dX12_weightsOf_20 (1) (by decide) (fun z12 h13 => ?_)
        refine s_iand C dX12_weightsOf_21 (by omega) (fun z14 h15 => ?_)
        refine s_iconst C dX12_weightsOf_22 (1) (by decide) (fun z16 h17 => ?_)
        refine s_ic_ne C dX12_weightsOf_23 (tgt := 43) rfl (fun c18 => ?_) (fun c18 => ?_)
        ·
          exact j43 y4_2 (by omega)
        ·
          refine a_iload_n C dX12_weightsOf_26 (i := 2) rfl rfl ?_
          refine a_aload_n C dX12_weightsOf_27 (i := 0) rfl rfl ?_
          refine a_get C fl_RX12_46 (i := 236) kd_236 (hid 236 (by decide)) (v := .ref (ad 246)) rfl dX12_weightsOf_28 ?_
          refine s_bipush C dX12_weightsOf_31 (7) (by decide) (fun z19 h20 => ?_)
          refine a_aload_n C dX12_weightsOf_33 (i := 0) rfl rfl ?_
          refine a_get C fl_RX12_221 (i := 236) kd_236 (hid 236 (by decide)) (v := .int (σ.1 236 18)) rfl dX12_weightsOf_34 ?_
          refine s_imuld C dX12_weightsOf_37 (7) (by omega) (by omega) (fun z21 h22 => ?_)
          refine a_iload_n C dX12_weightsOf_38 (i := 3) rfl rfl ?_
          refine s_iadd C dX12_weightsOf_39 (by omega) (fun z23 h24 => ?_)
          refine s_iald C (i := 246) kd_246 (hid 246 (by decide)) al_246 (by omega) (by omega) dX12_weightsOf_40 (fun n25 h26 => ?_)
          refine s_val (fun z27 e28 => ?_)
          refine s_iaddU C dX12_weightsOf_41 (fun z29 => ?_)
          refine a_istore_n C dX12_weightsOf_42 (i := 2) rfl (by decide) rfl (vs1 := [some (.ref (ad 236)), some (.int x1), some (.int z29), some (.int y4_3)]) rfl ?_
          exact j43 z29 (by omega)
  refine s_iconst C dX12_weightsOf_0 (0) (by decide) (fun z31 h32 => ?_)
  refine a_istore_n C dX12_weightsOf_1 (i := 2) rfl (by decide) rfl (vs1 := [some (.ref (ad 236)), some (.int x1), some (.int z31), none]) rfl ?_
  refine s_iconst C dX12_weightsOf_2 (0) (by decide) (fun z33 h34 => ?_)
  refine a_istore_n C dX12_weightsOf_3 (i := 3) rfl (by decide) rfl (vs1 := [some (.ref (ad 236)), some (.int x1), some (.int z31), some (.int z33)]) rfl ?_
  exact j4 100000 z31 z33 (by omega) (by omega)
theorem dX12_doesLand_0 : decode cX12_doesLand 0 = .ok (.aload_n 0, 1) := by decide +kernel
theorem dX12_doesLand_1 : decode cX12_doesLand 1 = .ok (.getfield 110, 3) := by decide +kernel
theorem dX12_doesLand_4 : decode cX12_doesLand 4 = .ok (.iload_n 1, 1) := by decide +kernel
theorem dX12_doesLand_5 : decode cX12_doesLand 5 = .ok (.iaload, 1) := by decide +kernel
theorem dX12_doesLand_6 : decode cX12_doesLand 6 = .ok (.ifCond .ne 20, 3) := by decide +kernel
theorem dX12_doesLand_9 : decode cX12_doesLand 9 = .ok (.aload_n 0, 1) := by decide +kernel
theorem dX12_doesLand_10 : decode cX12_doesLand 10 = .ok (.getfield 110, 3) := by decide +kernel
theorem dX12_doesLand_13 : decode cX12_doesLand 13 = .ok (.bipush 7, 2) := by decide +kernel
theorem dX12_doesLand_15 : decode cX12_doesLand 15 = .ok (.iload_n 1, 1) := by decide +kernel
theorem dX12_doesLand_16 : decode cX12_doesLand 16 = .ok (.iadd, 1) := by decide +kernel
theorem dX12_doesLand_17 : decode cX12_doesLand 17 = .ok (.iaload, 1) := by decide +kernel
theorem dX12_doesLand_18 : decode cX12_doesLand 18 = .ok (.iload_n 2, 1) := by decide +kernel
theorem dX12_doesLand_19 : decode cX12_doesLand 19 = .ok (.if_icmp .ne 7, 3) := by decide +kernel
theorem dX12_doesLand_22 : decode cX12_doesLand 22 = .ok (.iconst 1, 1) := by decide +kernel
theorem dX12_doesLand_23 : decode cX12_doesLand 23 = .ok (.goto 4, 3) := by decide +kernel
theorem dX12_doesLand_26 : decode cX12_doesLand 26 = .ok (.iconst 0, 1) := by decide +kernel
theorem dX12_doesLand_27 : decode cX12_doesLand 27 = .ok (.ireturn, 1) := by decide +kernel
set_option maxHeartbeats 4000000 in
set_option maxRecDepth 100000 in
theorem S_X12_doesLand_236 {l : Launch} {D : va_G} {ids : List Nat} {ad : Nat → Nat} {ca : Nat → ClassId} {σ : HS} {x1 : Int32} {x2 : Int32} (hid : ∀ i, i < 277 → i ∈ ids) (hG : GIm σ) (hx1 : 0 ≤ x1.toInt ∧ x1.toInt ≤ 6) : Ki l D ids ad ca yX12_doesLand cX12_doesLand 3 .boolean 0 0 [.ref (ad 236), .int x1, .int x2] σ (fun r σ1 => (σ1 = σ) ∧ (0 ≤ r.toInt ∧ r.toInt ≤ 1)) := by
  refine Ki.of (by decide) (Nat.le_of_ble_eq_true rfl) 0 (fun Γ C Rt => ?_)
  show AW ids ad ca Γ 0 [some (.ref (ad 236)), some (.int x1), some (.int x2)] [] σ
  refine a_aload_n C dX12_doesLand_0 (i := 0) rfl rfl ?_
  refine a_get C fl_RX12_110 (i := 236) kd_236 (hid 236 (by decide)) (v := .ref (ad 267)) rfl dX12_doesLand_1 ?_
  refine a_iload_n C dX12_doesLand_4 (i := 1) rfl rfl ?_
  refine s_iald C (i := 267) kd_267 (hid 267 (by decide)) al_267 (by omega) (by omega) dX12_doesLand_5 (fun n1 h2 => ?_)
  refine s_val (fun z3 e4 => ?_)
  refine s_if_ne C dX12_doesLand_6 (tgt := 26) rfl (fun c5 => ?_) (fun c5 => ?_)
  ·
    refine s_iconst C dX12_doesLand_26 (0) (by decide) (fun z6 h7 => ?_)
    exact a_iret Rt dX12_doesLand_27 (nar_z (by omega)).1 (⟨rfl, (show 0 ≤ z6.toInt ∧ z6.toInt ≤ 1 by intros; omega)⟩)
  ·
    refine a_aload_n C dX12_doesLand_9 (i := 0) rfl rfl ?_
    refine a_get C fl_RX12_110 (i := 236) kd_236 (hid 236 (by decide)) (v := .ref (ad 267)) rfl dX12_doesLand_10 ?_
    refine s_bipush C dX12_doesLand_13 (7) (by decide) (fun z8 h9 => ?_)
    refine a_iload_n C dX12_doesLand_15 (i := 1) rfl rfl ?_
    refine s_iadd C dX12_doesLand_16 (by omega) (fun z10 h11 => ?_)
    refine s_iald C (i := 267) kd_267 (hid 267 (by decide)) al_267 (by omega) (by omega) dX12_doesLand_17 (fun n12 h13 => ?_)
    refine s_val (fun z14 e15 => ?_)
    refine a_iload_n C dX12_doesLand_18 (i := 2) rfl rfl ?_
    refine s_ic_ne C dX12_doesLand_19 (tgt := 26) rfl (fun c16 => ?_) (fun c16 => ?_)
    ·
      refine s_iconst C dX12_doesLand_26 (0) (by decide) (fun z17 h18 => ?_)
      exact a_iret Rt dX12_doesLand_27 (nar_z (by omega)).1 (⟨rfl, (show 0 ≤ z17.toInt ∧ z17.toInt ≤ 1 by intros; omega)⟩)
    ·
      refine s_iconst C dX12_doesLand_22 (1) (by decide) (fun z19 h20 => ?_)
      refine a_goto C dX12_doesLand_23 (tgt := 27) rfl ?_
      exact a_iret Rt dX12_doesLand_27 (nar_z (by omega)).1 (⟨rfl, (show 0 ≤ z19.toInt ∧ z19.toInt ≤ 1 by intros; omega)⟩)
theorem dX12_landsAt_17 : decode cX12_landsAt 17 = .ok (.aload_n 0, 1) := by decide +kernel
theorem dX12_landsAt_18 : decode cX12_landsAt 18 = .ok (.iload_n 3, 1) := by decide +kernel
theorem dX12_landsAt_19 : decode cX12_landsAt 19 = .ok (.iload_n 1, 1) := by decide +kernel
theorem dX12_landsAt_20 : decode cX12_landsAt 20 = .ok (.invokevirtual 324, 3) := by decide +kernel
theorem dX12_landsAt_23 : decode cX12_landsAt 23 = .ok (.ifCond .eq 6, 3) := by decide +kernel
theorem dX12_landsAt_26 : decode cX12_landsAt 26 = .ok (.iinc 2 1, 3) := by decide +kernel
theorem dX12_landsAt_29 : decode cX12_landsAt 29 = .ok (.iinc 3 1, 3) := by decide +kernel
theorem dX12_landsAt_32 : decode cX12_landsAt 32 = .ok (.goto (-28), 3) := by decide +kernel
set_option maxHeartbeats 4000000 in
set_option maxRecDepth 100000 in
theorem S_X12_landsAt_236 {l : Launch} {D : va_G} {ids : List Nat} {ad : Nat → Nat} {ca : Nat → ClassId} {σ : HS} {x1 : Int32} (hid : ∀ i, i < 277 → i ∈ ids) (hG : GIm σ) : Ki l D ids ad ca yX12_landsAt cX12_landsAt 4 .int 1 22 [.ref (ad 236), .int x1] σ (fun r σ1 => (σ1 = σ)) := by
  refine Ki.of (by decide) (Nat.le_of_ble_eq_true rfl) 2 (fun Γ C Rt => ?_)
  show AW ids ad ca Γ 0 [some (.ref (ad 236)), some (.int x1), none, none] [] σ
  have j4 : ∀ (d4 : Nat) (y4_2 : Int32) (y4_3 : Int32), 7 - y4_3.toInt < d4 → 0 ≤ y4_3.toInt ∧ y4_3.toInt ≤ 7 → AW ids ad ca Γ 4 [some (.ref (ad 236)), some (.int x1), some (.int y4_2), some (.int y4_3)] [] σ := by
    intro d4
    induction d4 with
    | zero =>
      intro y4_2 y4_3 hd4 hx4_0
      exfalso
      omega
    | succ d4 ih4 =>
      intro y4_2 y4_3 hd4 hx4_0
      have j29 : ∀ (y29_2 : Int32), 0 ≤ y4_3.toInt ∧ y4_3.toInt ≤ 6 → AW ids ad ca Γ 29 [some (.ref (ad 236)), some (.int x1), some (.int y29_2), some (.int y4_3)] [] σ := by
        intro y29_2 hx29_0
        refine s_iinc C dX12_landsAt_29 rfl (1) (by decide) (by omega) (by decide) rfl (fun z1 h2 => ?_)
        show AW ids ad ca Γ 32 [some (.ref (ad 236)), some (.int x1), some (.int y29_2), some (.int z1)] _ _
        refine a_goto C dX12_landsAt_32 (tgt := 4) rfl ?_
        exact ih4 y29_2 z1 (by omega) (by omega)
      refine a_iload_n C dX12_landsAt_4 (i := 3) rfl rfl ?_
      refine a_aload_n C dX12_landsAt_5 (i := 0) rfl rfl ?_
      refine a_get C fl_RX12_43 (i := 236) kd_236 (hid 236 (by decide)) (v := .ref (ad 245)) rfl dX12_landsAt_6 ?_
      refine a_aload_n C dX12_landsAt_9 (i := 0) rfl rfl ?_
      have g3 := bF_236_18 hG
      refine a_get C fl_RX12_221 (i := 236) kd_236 (hid 236 (by decide)) (v := .int (σ.1 236 18)) rfl dX12_landsAt_10 ?_
      refine s_iald C (i := 245) kd_245 (hid 245 (by decide)) al_245 (by omega) (by omega) dX12_landsAt_13 (fun n4 h5 => ?_)
      refine s_val (fun z6 e7 => ?_)
      have g8 := bA_245 hG n4
      rw [e7] at g8
      refine s_ic_ge C dX12_landsAt_14 (tgt := 35) rfl (fun c9 => ?_) (fun c9 => ?_)
      ·
        refine a_iload_n C dX12_landsAt_35 (i := 2) rfl rfl ?_
        exact a_iret Rt dX12_landsAt_36 rfl (rfl)
      ·
        refine a_aload_n C dX12_landsAt_17 (i := 0) rfl rfl ?_
        refine a_iload_n C dX12_landsAt_18 (i := 3) rfl rfl ?_
        refine a_iload_n C dX12_landsAt_19 (i := 1) rfl rfl ?_
        refine a_callVi C (i := 236) kd_236 (hid 236 (by decide)) ⟨_, _, rfl⟩ (by decide) (S_X12_doesLand_236 (x1 := y4_3) (x2 := x1) hid hG (by omega)) mi_X12_doesLand ml_RX12_324 rfl rfl (Nat.le_of_ble_eq_true rfl) (Nat.le_of_ble_eq_true rfl) (Nat.le_of_ble_eq_true rfl) dX12_landsAt_20 (fun z10 σ11 q12 => ?_)
        obtain ⟨w13, w14⟩ := q12
        rw [w13]
        refine s_if_eq C dX12_landsAt_23 (tgt := 29) rfl (fun c15 => ?_) (fun c15 => ?_)
        ·
          exact j29 y4_2 (by omega)
        ·
          refine s_iincU C dX12_landsAt_26 rfl (by decide) rfl (fun z16 => ?_)
          show AW ids ad ca Γ 29 [some (.ref (ad 236)), some (.int x1), some (.int z16), some (.int y4_3)] _ _
          exact j29 z16 (by omega)
  refine s_iconst C dX12_landsAt_0 (0) (by decide) (fun z18 h19 => ?_)
  refine a_istore_n C dX12_landsAt_1 (i := 2) rfl (by decide) rfl (vs1 := [some (.ref (ad 236)), some (.int x1), some (.int z18), none]) rfl ?_
  refine s_iconst C dX12_landsAt_2 (0) (by decide) (fun z20 h21 => ?_)
  refine a_istore_n C dX12_landsAt_3 (i := 3) rfl (by decide) rfl (vs1 := [some (.ref (ad 236)), some (.int x1), some (.int z18), some (.int z20)]) rfl ?_
  exact j4 100000 z18 z20 (by omega) (by omega)
theorem dX12_catchesNow_15 : decode cX12_catchesNow 15 = .ok (.aload_n 0, 1) := by decide +kernel
theorem dX12_catchesNow_16 : decode cX12_catchesNow 16 = .ok (.iload_n 1, 1) := by decide +kernel
theorem dX12_catchesNow_17 : decode cX12_catchesNow 17 = .ok (.iconst 0, 1) := by decide +kernel
theorem dX12_catchesNow_18 : decode cX12_catchesNow 18 = .ok (.invokevirtual 324, 3) := by decide +kernel
theorem dX12_catchesNow_21 : decode cX12_catchesNow 21 = .ok (.ifCond .eq 5, 3) := by decide +kernel
theorem dX12_catchesNow_24 : decode cX12_catchesNow 24 = .ok (.iload_n 1, 1) := by decide +kernel
theorem dX12_catchesNow_25 : decode cX12_catchesNow 25 = .ok (.ireturn, 1) := by decide +kernel
theorem dX12_catchesNow_26 : decode cX12_catchesNow 26 = .ok (.iinc 1 1, 3) := by decide +kernel
theorem dX12_catchesNow_29 : decode cX12_catchesNow 29 = .ok (.goto (-27), 3) := by decide +kernel
set_option maxHeartbeats 4000000 in
set_option maxRecDepth 100000 in
theorem S_X12_catchesNow_236 {l : Launch} {D : va_G} {ids : List Nat} {ad : Nat → Nat} {ca : Nat → ClassId} {σ : HS} (hid : ∀ i, i < 277 → i ∈ ids) (hG : GIm σ) : Ki l D ids ad ca yX12_catchesNow cX12_catchesNow 2 .int 1 22 [.ref (ad 236)] σ (fun r σ1 => (σ1 = σ) ∧ (-2 ≤ r.toInt ∧ r.toInt ≤ 6)) := by
  refine Ki.of (by decide) (Nat.le_of_ble_eq_true rfl) 1 (fun Γ C Rt => ?_)
  show AW ids ad ca Γ 0 [some (.ref (ad 236)), none] [] σ
  have j2 : ∀ (d2 : Nat) (y2_1 : Int32), 7 - y2_1.toInt < d2 → 0 ≤ y2_1.toInt ∧ y2_1.toInt ≤ 7 → AW ids ad ca Γ 2 [some (.ref (ad 236)), some (.int y2_1)] [] σ := by
    intro d2
    induction d2 with
    | zero =>
      intro y2_1 hd2 hx2_0
      exfalso
      omega
    | succ d2 ih2 =>
      intro y2_1 hd2 hx2_0
      refine a_iload_n C dX12_catchesNow_2 (i := 1) rfl rfl ?_
      refine a_aload_n C dX12_catchesNow_3 (i := 0) rfl rfl ?_
      refine a_get C fl_RX12_43 (i := 236) kd_236 (hid 236 (by decide)) (v := .ref (ad 245)) rfl dX12_catchesNow_4 ?_
      refine a_aload_n C dX12_catchesNow_7 (i := 0) rfl rfl ?_
      have g1 := bF_236_18 hG
      refine a_get C fl_RX12_221 (i := 236) kd_236 (hid 236 (by decide)) (v := .int (σ.1 236 18)) rfl dX12_catchesNow_8 ?_
      refine s_iald C (i := 245) kd_245 (hid 245 (by decide)) al_245 (by omega) (by omega) dX12_catchesNow_11 (fun n2 h3 => ?_)
      refine s_val (fun z4 e5 => ?_)
      have g6 := bA_245 hG n2
      rw [e5] at g6
      refine s_ic_ge C dX12_catchesNow_12 (tgt := 32) rfl (fun c7 => ?_) (fun c7 => ?_)
      ·
        refine s_bipush C dX12_catchesNow_32 (-2) (by decide) (fun z8 h9 => ?_)
        exact a_iret Rt dX12_catchesNow_34 rfl (⟨rfl, (show -2 ≤ z8.toInt ∧ z8.toInt ≤ 6 by intros; omega)⟩)
      ·
        refine a_aload_n C dX12_catchesNow_15 (i := 0) rfl rfl ?_
        refine a_iload_n C dX12_catchesNow_16 (i := 1) rfl rfl ?_
        refine s_iconst C dX12_catchesNow_17 (0) (by decide) (fun z10 h11 => ?_)
        refine a_callVi C (i := 236) kd_236 (hid 236 (by decide)) ⟨_, _, rfl⟩ (by decide) (S_X12_doesLand_236 (x1 := y2_1) (x2 := z10) hid hG (by omega)) mi_X12_doesLand ml_RX12_324 rfl rfl (Nat.le_of_ble_eq_true rfl) (Nat.le_of_ble_eq_true rfl) (Nat.le_of_ble_eq_true rfl) dX12_catchesNow_18 (fun z12 σ13 q14 => ?_)
        obtain ⟨w15, w16⟩ := q14
        rw [w15]
        refine s_if_eq C dX12_catchesNow_21 (tgt := 26) rfl (fun c17 => ?_) (fun c17 => ?_)
        ·
          refine s_iinc C dX12_catchesNow_26 rfl (1) (by decide) (by omega) (by decide) rfl (fun z18 h19 => ?_)
          show AW ids ad ca Γ 29 [some (.ref (ad 236)), some (.int z18)] _ _
          refine a_goto C dX12_catchesNow_29 (tgt := 2) rfl ?_
          exact ih2 z18 (by omega) (by omega)
        ·
          refine a_iload_n C dX12_catchesNow_24 (i := 1) rfl rfl ?_
          exact a_iret Rt dX12_catchesNow_25 rfl (⟨rfl, (show -2 ≤ y2_1.toInt ∧ y2_1.toInt ≤ 6 by intros; omega)⟩)
  refine s_iconst C dX12_catchesNow_0 (0) (by decide) (fun z20 h21 => ?_)
  refine a_istore_n C dX12_catchesNow_1 (i := 1) rfl (by decide) rfl (vs1 := [some (.ref (ad 236)), some (.int z20)]) rfl ?_
  exact j2 100000 z20 (by omega) (by omega)
theorem dX12_lotNow_0 : decode cX12_lotNow 0 = .ok (.aload_n 0, 1) := by decide +kernel
theorem dX12_lotNow_1 : decode cX12_lotNow 1 = .ok (.getfield 305, 3) := by decide +kernel
theorem dX12_lotNow_4 : decode cX12_lotNow 4 = .ok (.bipush 125, 2) := by decide +kernel
theorem dX12_lotNow_6 : decode cX12_lotNow 6 = .ok (.invokestatic 315, 3) := by decide +kernel
theorem dX12_lotNow_9 : decode cX12_lotNow 9 = .ok (.iconst 4, 1) := by decide +kernel
theorem dX12_lotNow_10 : decode cX12_lotNow 10 = .ok (.aload_n 0, 1) := by decide +kernel
theorem dX12_lotNow_11 : decode cX12_lotNow 11 = .ok (.getfield 110, 3) := by decide +kernel
theorem dX12_lotNow_14 : decode cX12_lotNow 14 = .ok (.bipush 21, 2) := by decide +kernel
theorem dX12_lotNow_16 : decode cX12_lotNow 16 = .ok (.iaload, 1) := by decide +kernel
theorem dX12_lotNow_17 : decode cX12_lotNow 17 = .ok (.imul, 1) := by decide +kernel
theorem dX12_lotNow_18 : decode cX12_lotNow 18 = .ok (.invokestatic 315, 3) := by decide +kernel
theorem dX12_lotNow_21 : decode cX12_lotNow 21 = .ok (.iconst 1, 1) := by decide +kernel
theorem dX12_lotNow_22 : decode cX12_lotNow 22 = .ok (.iushr, 1) := by decide +kernel
theorem dX12_lotNow_23 : decode cX12_lotNow 23 = .ok (.bipush 100, 2) := by decide +kernel
theorem dX12_lotNow_25 : decode cX12_lotNow 25 = .ok (.irem, 1) := by decide +kernel
theorem dX12_lotNow_26 : decode cX12_lotNow 26 = .ok (.ireturn, 1) := by decide +kernel
set_option maxHeartbeats 4000000 in
set_option maxRecDepth 100000 in
theorem S_X12_lotNow_236 {l : Launch} {D : va_G} {ids : List Nat} {ad : Nat → Nat} {ca : Nat → ClassId} {σ : HS} (hid : ∀ i, i < 277 → i ∈ ids) (hG : GIm σ) : Ki l D ids ad ca yX12_lotNow cX12_lotNow 1 .int 1 22 [.ref (ad 236)] σ (fun r σ1 => (σ1 = σ)) := by
  refine Ki.of (by decide) (Nat.le_of_ble_eq_true rfl) 0 (fun Γ C Rt => ?_)
  show AW ids ad ca Γ 0 [some (.ref (ad 236))] [] σ
  refine a_aload_n C dX12_lotNow_0 (i := 0) rfl rfl ?_
  refine a_get C fl_RX12_305 (i := 236) kd_236 (hid 236 (by decide)) (v := .int (σ.1 236 49)) rfl dX12_lotNow_1 ?_
  refine s_bipush C dX12_lotNow_4 (125) (by decide) (fun z1 h2 => ?_)
  refine a_callSi C (S_X12_mixed (x1 := (σ.1 236 49)) (x2 := z1) hid hG) ms_X12_mixed ml_RX12_315 rfl rfl (Nat.le_of_ble_eq_true rfl) (Nat.le_of_ble_eq_true rfl) (Nat.le_of_ble_eq_true rfl) dX12_lotNow_6 (fun z3 σ4 q5 => ?_)
  rw [q5]
  refine s_iconst C dX12_lotNow_9 (4) (by decide) (fun z6 h7 => ?_)
  refine a_aload_n C dX12_lotNow_10 (i := 0) rfl rfl ?_
  refine a_get C fl_RX12_110 (i := 236) kd_236 (hid 236 (by decide)) (v := .ref (ad 267)) rfl dX12_lotNow_11 ?_
  refine s_bipush C dX12_lotNow_14 (21) (by decide) (fun z8 h9 => ?_)
  refine s_iald C (i := 267) kd_267 (hid 267 (by decide)) al_267 (by omega) (by omega) dX12_lotNow_16 (fun n10 h11 => ?_)
  refine s_val (fun z12 e13 => ?_)
  obtain rfl : n10 = 21 := by omega
  have g14 : z12.toInt = (σ.1 267 21).toInt := congrArg Int32.toInt (e13.symm.trans (rfl : _ = (σ.1 267 21)))
  refine s_imulU C dX12_lotNow_17 (fun z15 => ?_)
  refine a_callSi C (S_X12_mixed (x1 := z3) (x2 := z15) hid hG) ms_X12_mixed ml_RX12_315 rfl rfl (Nat.le_of_ble_eq_true rfl) (Nat.le_of_ble_eq_true rfl) (Nat.le_of_ble_eq_true rfl) dX12_lotNow_18 (fun z17 σ18 q19 => ?_)
  rw [q19]
  refine s_iconst C dX12_lotNow_21 (1) (by decide) (fun z20 h21 => ?_)
  refine s_iushrU C dX12_lotNow_22 (fun z22 => ?_)
  refine s_bipush C dX12_lotNow_23 (100) (by decide) (fun z24 h25 => ?_)
  refine s_iremU C dX12_lotNow_25 (by omega) (fun z26 => ?_)
  exact a_iret Rt dX12_lotNow_26 rfl (rfl)
theorem dX12_lengthOf_0 : decode cX12_lengthOf 0 = .ok (.aload_n 0, 1) := by decide +kernel
theorem dX12_lengthOf_1 : decode cX12_lengthOf 1 = .ok (.getfield 58, 3) := by decide +kernel
theorem dX12_lengthOf_4 : decode cX12_lengthOf 4 = .ok (.iconst 5, 1) := by decide +kernel
theorem dX12_lengthOf_5 : decode cX12_lengthOf 5 = .ok (.aload_n 0, 1) := by decide +kernel
theorem dX12_lengthOf_6 : decode cX12_lengthOf 6 = .ok (.getfield 221, 3) := by decide +kernel
theorem dX12_lengthOf_9 : decode cX12_lengthOf 9 = .ok (.imul, 1) := by decide +kernel
theorem dX12_lengthOf_10 : decode cX12_lengthOf 10 = .ok (.iload_n 1, 1) := by decide +kernel
theorem dX12_lengthOf_11 : decode cX12_lengthOf 11 = .ok (.iadd, 1) := by decide +kernel
theorem dX12_lengthOf_12 : decode cX12_lengthOf 12 = .ok (.iaload, 1) := by decide +kernel
theorem dX12_lengthOf_13 : decode cX12_lengthOf 13 = .ok (.ireturn, 1) := by decide +kernel
set_option maxHeartbeats 4000000 in
set_option maxRecDepth 100000 in
theorem S_X12_lengthOf_236 {l : Launch} {D : va_G} {ids : List Nat} {ad : Nat → Nat} {ca : Nat → ClassId} {σ : HS} {x1 : Int32} (hid : ∀ i, i < 277 → i ∈ ids) (hG : GIm σ) {b : Int} (hR : RKm b σ) (hx1 : 0 ≤ x1.toInt ∧ x1.toInt ≤ 4) (hp0 : 0 ≤ x1.toInt ∧ x1.toInt ≤ 4 ∧ x1.toInt < plm σ) : Ki l D ids ad ca yX12_lengthOf cX12_lengthOf 2 .int 0 0 [.ref (ad 236), .int x1] σ (fun r σ1 => (σ1 = σ) ∧ (1 ≤ r.toInt ∧ r.toInt ≤ 8)) := by
  refine Ki.of (by decide) (Nat.le_of_ble_eq_true rfl) 0 (fun Γ C Rt => ?_)
  show AW ids ad ca Γ 0 [some (.ref (ad 236)), some (.int x1)] [] σ
  refine a_aload_n C dX12_lengthOf_0 (i := 0) rfl rfl ?_
  refine a_get C fl_RX12_58 (i := 236) kd_236 (hid 236 (by decide)) (v := .ref (ad 250)) rfl dX12_lengthOf_1 ?_
  refine s_iconst C dX12_lengthOf_4 (5) (by decide) (fun z1 h2 => ?_)
  refine a_aload_n C dX12_lengthOf_5 (i := 0) rfl rfl ?_
  have g3 := bF_236_18 hG
  refine a_get C fl_RX12_221 (i := 236) kd_236 (hid 236 (by decide)) (v := .int (σ.1 236 18)) rfl dX12_lengthOf_6 ?_
  refine s_imuld C dX12_lengthOf_9 (5) (by omega) (by omega) (fun z4 h5 => ?_)
  refine a_iload_n C dX12_lengthOf_10 (i := 1) rfl rfl ?_
  refine s_iadd C dX12_lengthOf_11 (by omega) (fun z6 h7 => ?_)
  refine s_iald C (i := 250) kd_250 (hid 250 (by decide)) al_250 (by omega) (by omega) dX12_lengthOf_12 (fun n8 h9 => ?_)
  refine s_val (fun z10 e11 => ?_)
  have g12 := bA_250 hG n8
  rw [e11] at g12
  have gl := RKm.lng hR (n := n8) (x := x1) (by omega) (by omega) (by omega)
  rw [e11] at gl
  exact a_iret Rt dX12_lengthOf_13 rfl (⟨rfl, (show 1 ≤ z10.toInt ∧ z10.toInt ≤ 8 by intros; omega)⟩)
theorem dX12_heightAt_0 : decode cX12_heightAt 0 = .ok (.aload_n 0, 1) := by decide +kernel
theorem dX12_heightAt_1 : decode cX12_heightAt 1 = .ok (.getfield 61, 3) := by decide +kernel
theorem dX12_heightAt_4 : decode cX12_heightAt 4 = .ok (.bipush 8, 2) := by decide +kernel
theorem dX12_heightAt_6 : decode cX12_heightAt 6 = .ok (.iconst 5, 1) := by decide +kernel
theorem dX12_heightAt_7 : decode cX12_heightAt 7 = .ok (.aload_n 0, 1) := by decide +kernel
theorem dX12_heightAt_8 : decode cX12_heightAt 8 = .ok (.getfield 221, 3) := by decide +kernel
theorem dX12_heightAt_11 : decode cX12_heightAt 11 = .ok (.imul, 1) := by decide +kernel
theorem dX12_heightAt_12 : decode cX12_heightAt 12 = .ok (.iload_n 1, 1) := by decide +kernel
theorem dX12_heightAt_13 : decode cX12_heightAt 13 = .ok (.iadd, 1) := by decide +kernel
theorem dX12_heightAt_14 : decode cX12_heightAt 14 = .ok (.imul, 1) := by decide +kernel
theorem dX12_heightAt_15 : decode cX12_heightAt 15 = .ok (.iload_n 2, 1) := by decide +kernel
theorem dX12_heightAt_16 : decode cX12_heightAt 16 = .ok (.aload_n 0, 1) := by decide +kernel
theorem dX12_heightAt_17 : decode cX12_heightAt 17 = .ok (.iload_n 1, 1) := by decide +kernel
theorem dX12_heightAt_18 : decode cX12_heightAt 18 = .ok (.invokevirtual 318, 3) := by decide +kernel
theorem dX12_heightAt_21 : decode cX12_heightAt 21 = .ok (.irem, 1) := by decide +kernel
theorem dX12_heightAt_22 : decode cX12_heightAt 22 = .ok (.iadd, 1) := by decide +kernel
theorem dX12_heightAt_23 : decode cX12_heightAt 23 = .ok (.iaload, 1) := by decide +kernel
theorem dX12_heightAt_24 : decode cX12_heightAt 24 = .ok (.ireturn, 1) := by decide +kernel
set_option maxHeartbeats 4000000 in
set_option maxRecDepth 100000 in
theorem S_X12_heightAt_236 {l : Launch} {D : va_G} {ids : List Nat} {ad : Nat → Nat} {ca : Nat → ClassId} {σ : HS} {x1 : Int32} {x2 : Int32} (hid : ∀ i, i < 277 → i ∈ ids) (hG : GIm σ) {b : Int} (hR : RKm b σ) (hx1 : 0 ≤ x1.toInt ∧ x1.toInt ≤ 4) (hx2 : 0 ≤ x2.toInt ∧ x2.toInt ≤ 100000) (hp0 : 0 ≤ x1.toInt ∧ x1.toInt ≤ 4 ∧ x1.toInt < plm σ) : Ki l D ids ad ca yX12_heightAt cX12_heightAt 3 .int 1 21 [.ref (ad 236), .int x1, .int x2] σ (fun r σ1 => (σ1 = σ) ∧ (0 ≤ r.toInt ∧ r.toInt ≤ 9999)) := by
  refine Ki.of (by decide) (Nat.le_of_ble_eq_true rfl) 0 (fun Γ C Rt => ?_)
  show AW ids ad ca Γ 0 [some (.ref (ad 236)), some (.int x1), some (.int x2)] [] σ
  refine a_aload_n C dX12_heightAt_0 (i := 0) rfl rfl ?_
  refine a_get C fl_RX12_61 (i := 236) kd_236 (hid 236 (by decide)) (v := .ref (ad 251)) rfl dX12_heightAt_1 ?_
  refine s_bipush C dX12_heightAt_4 (8) (by decide) (fun z1 h2 => ?_)
  refine s_iconst C dX12_heightAt_6 (5) (by decide) (fun z3 h4 => ?_)
  refine a_aload_n C dX12_heightAt_7 (i := 0) rfl rfl ?_
  have g5 := bF_236_18 hG
  refine a_get C fl_RX12_221 (i := 236) kd_236 (hid 236 (by decide)) (v := .int (σ.1 236 18)) rfl dX12_heightAt_8 ?_
  refine s_imuld C dX12_heightAt_11 (5) (by omega) (by omega) (fun z6 h7 => ?_)
  refine a_iload_n C dX12_heightAt_12 (i := 1) rfl rfl ?_
  refine s_iadd C dX12_heightAt_13 (by omega) (fun z8 h9 => ?_)
  refine s_imuld C dX12_heightAt_14 (8) (by omega) (by omega) (fun z10 h11 => ?_)
  refine a_iload_n C dX12_heightAt_15 (i := 2) rfl rfl ?_
  refine a_aload_n C dX12_heightAt_16 (i := 0) rfl rfl ?_
  refine a_iload_n C dX12_heightAt_17 (i := 1) rfl rfl ?_
  refine a_callVi C (i := 236) kd_236 (hid 236 (by decide)) ⟨_, _, rfl⟩ (by decide) (S_X12_lengthOf_236 (x1 := x1) hid hG hR (by omega) (by omega)) mi_X12_lengthOf ml_RX12_318 rfl rfl (Nat.le_of_ble_eq_true rfl) (Nat.le_of_ble_eq_true rfl) (Nat.le_of_ble_eq_true rfl) dX12_heightAt_18 (fun z12 σ13 q14 => ?_)
  obtain ⟨w15, w16⟩ := q14
  rw [w15]
  refine s_irem C dX12_heightAt_21 (by omega) (by omega) (fun z17 h18 => ?_)
  refine s_iadd C dX12_heightAt_22 (by omega) (fun z19 h20 => ?_)
  refine s_iald C (i := 251) kd_251 (hid 251 (by decide)) al_251 (by omega) (by omega) dX12_heightAt_23 (fun n21 h22 => ?_)
  refine s_val (fun z23 e24 => ?_)
  have g25 := bA_251 hG n21
  rw [e24] at g25
  exact a_iret Rt dX12_heightAt_24 rfl (⟨rfl, (show 0 ≤ z23.toInt ∧ z23.toInt ≤ 9999 by intros; omega)⟩)
