theorem dJ9_floorMod_7cf53_0 : decode cJ9_floorMod_7cf53 0 = .ok (.iload_n 0, 1) := by decide +kernel
theorem dJ9_floorMod_7cf53_1 : decode cJ9_floorMod_7cf53 1 = .ok (.iload_n 1, 1) := by decide +kernel
theorem dJ9_floorMod_7cf53_2 : decode cJ9_floorMod_7cf53 2 = .ok (.irem, 1) := by decide +kernel
theorem dJ9_floorMod_7cf53_3 : decode cJ9_floorMod_7cf53 3 = .ok (.istore_n 2, 1) := by decide +kernel
theorem dJ9_floorMod_7cf53_4 : decode cJ9_floorMod_7cf53 4 = .ok (.iload_n 0, 1) := by decide +kernel
theorem dJ9_floorMod_7cf53_5 : decode cJ9_floorMod_7cf53 5 = .ok (.iload_n 1, 1) := by decide +kernel
theorem dJ9_floorMod_7cf53_6 : decode cJ9_floorMod_7cf53 6 = .ok (.ixor, 1) := by decide +kernel
theorem dJ9_floorMod_7cf53_7 : decode cJ9_floorMod_7cf53 7 = .ok (.ifCond .ge 11, 3) := by decide +kernel
theorem dJ9_floorMod_7cf53_10 : decode cJ9_floorMod_7cf53 10 = .ok (.iload_n 2, 1) := by decide +kernel
theorem dJ9_floorMod_7cf53_11 : decode cJ9_floorMod_7cf53 11 = .ok (.ifCond .eq 7, 3) := by decide +kernel
theorem dJ9_floorMod_7cf53_14 : decode cJ9_floorMod_7cf53 14 = .ok (.iload_n 2, 1) := by decide +kernel
theorem dJ9_floorMod_7cf53_15 : decode cJ9_floorMod_7cf53 15 = .ok (.iload_n 1, 1) := by decide +kernel
theorem dJ9_floorMod_7cf53_16 : decode cJ9_floorMod_7cf53 16 = .ok (.iadd, 1) := by decide +kernel
theorem dJ9_floorMod_7cf53_17 : decode cJ9_floorMod_7cf53 17 = .ok (.ireturn, 1) := by decide +kernel
theorem dJ9_floorMod_7cf53_18 : decode cJ9_floorMod_7cf53 18 = .ok (.iload_n 2, 1) := by decide +kernel
theorem dJ9_floorMod_7cf53_19 : decode cJ9_floorMod_7cf53 19 = .ok (.ireturn, 1) := by decide +kernel
set_option maxHeartbeats 4000000 in
set_option maxRecDepth 100000 in
theorem S_J9_floorMod_7cf53 {l : Launch} {D : va_G} {ids : List Nat} {ad : Nat → Nat} {ca : Nat → ClassId} {σ : HS} {x1 : Int32} {x2 : Int32} (hid : ∀ i, i < 277 → i ∈ ids) (hG : GIc σ) (hx2 : 1 ≤ x2.toInt ∧ x2.toInt ≤ 1000) : Ki l D ids ad ca yJ9_floorMod_7cf53 cJ9_floorMod_7cf53 3 .int 0 0 [.int x1, .int x2] σ (fun r σ1 => (σ1 = σ) ∧ (0 ≤ r.toInt ∧ r.toInt < x2.toInt)) := by
  refine Ki.ofF (by decide +kernel) (Nat.le_of_ble_eq_true rfl) 1 (fun Γ C Rt => ?_)
  show AW ids ad ca Γ 0 [some (.int x1), some (.int x2), none] [] σ
  refine a_iload_n C dJ9_floorMod_7cf53_0 (i := 0) rfl rfl ?_
  refine a_iload_n C dJ9_floorMod_7cf53_1 (i := 1) rfl rfl ?_
  refine s_iremS C dJ9_floorMod_7cf53_2 (by omega) (fun z1 h2 => ?_)
  refine a_istore_n C dJ9_floorMod_7cf53_3 (i := 2) rfl (by decide) rfl (vs1 := [some (.int x1), some (.int x2), some (.int z1)]) rfl ?_
  refine a_iload_n C dJ9_floorMod_7cf53_4 (i := 0) rfl rfl ?_
  refine a_iload_n C dJ9_floorMod_7cf53_5 (i := 1) rfl rfl ?_
  refine s_ixorS C dJ9_floorMod_7cf53_6 (by omega) (fun z3 h4 => ?_)
  refine s_if_ge C dJ9_floorMod_7cf53_7 (tgt := 18) rfl (fun c5 => ?_) (fun c5 => ?_)
  ·
    refine a_iload_n C dJ9_floorMod_7cf53_18 (i := 2) rfl rfl ?_
    exact a_iret Rt dJ9_floorMod_7cf53_19 rfl (⟨rfl, (show 0 ≤ z1.toInt ∧ z1.toInt < x2.toInt by intros; omega)⟩)
  ·
    refine a_iload_n C dJ9_floorMod_7cf53_10 (i := 2) rfl rfl ?_
    refine s_if_eq C dJ9_floorMod_7cf53_11 (tgt := 18) rfl (fun c6 => ?_) (fun c6 => ?_)
    ·
      refine a_iload_n C dJ9_floorMod_7cf53_18 (i := 2) rfl rfl ?_
      exact a_iret Rt dJ9_floorMod_7cf53_19 rfl (⟨rfl, (show 0 ≤ z1.toInt ∧ z1.toInt < x2.toInt by intros; omega)⟩)
    ·
      refine a_iload_n C dJ9_floorMod_7cf53_14 (i := 2) rfl rfl ?_
      refine a_iload_n C dJ9_floorMod_7cf53_15 (i := 1) rfl rfl ?_
      refine s_iadd C dJ9_floorMod_7cf53_16 (by omega) (fun z7 h8 => ?_)
      exact a_iret Rt dJ9_floorMod_7cf53_17 rfl (⟨rfl, (show 0 ≤ z7.toInt ∧ z7.toInt < x2.toInt by intros; omega)⟩)
set_option maxHeartbeats 4000000 in
set_option maxRecDepth 100000 in
theorem S_J6_bitCount_0f7a4 {l : Launch} {D : va_G} {ids : List Nat} {ad : Nat → Nat} {ca : Nat → ClassId} {σ : HS} {x1 : Int32} (hid : ∀ i, i < 277 → i ∈ ids) (hG : GIc σ) : Ki l D ids ad ca yJ6_bitCount_0f7a4 cJ6_bitCount_0f7a4 1 .int 0 0 [.int x1] σ (fun r σ1 => (σ1 = σ)) := by
  refine Ki.of (by decide) (Nat.le_of_ble_eq_true rfl) 0 (fun Γ C Rt => ?_)
  show AW ids ad ca Γ 0 [some (.int x1)] [] σ
  refine a_iload_n C dJ6_bitCount_0f7a4_0 (i := 0) rfl rfl ?_
  refine a_iload_n C dJ6_bitCount_0f7a4_1 (i := 0) rfl rfl ?_
  refine s_iconst C dJ6_bitCount_0f7a4_2 (1) (by decide) (fun z1 h2 => ?_)
  refine s_iushrU C dJ6_bitCount_0f7a4_3 (fun z3 => ?_)
  refine s_ldcw C dJ6_bitCount_0f7a4_4 ko_RJ6_265 (1431655765) (by decide) (fun z5 h6 => ?_)
  refine s_iand C dJ6_bitCount_0f7a4_7 (by omega) (fun z7 h8 => ?_)
  refine s_isubU C dJ6_bitCount_0f7a4_8 (fun z9 => ?_)
  refine a_istore_n C dJ6_bitCount_0f7a4_9 (i := 0) rfl (by decide) rfl (vs1 := [some (.int z9)]) rfl ?_
  refine a_iload_n C dJ6_bitCount_0f7a4_10 (i := 0) rfl rfl ?_
  refine s_ldcw C dJ6_bitCount_0f7a4_11 ko_RJ6_266 (858993459) (by decide) (fun z11 h12 => ?_)
  refine s_iand C dJ6_bitCount_0f7a4_14 (by omega) (fun z13 h14 => ?_)
  refine a_iload_n C dJ6_bitCount_0f7a4_15 (i := 0) rfl rfl ?_
  refine s_iconst C dJ6_bitCount_0f7a4_16 (2) (by decide) (fun z15 h16 => ?_)
  refine s_iushrU C dJ6_bitCount_0f7a4_17 (fun z17 => ?_)
  refine s_ldcw C dJ6_bitCount_0f7a4_18 ko_RJ6_266 (858993459) (by decide) (fun z19 h20 => ?_)
  refine s_iand C dJ6_bitCount_0f7a4_21 (by omega) (fun z21 h22 => ?_)
  refine s_iadd C dJ6_bitCount_0f7a4_22 (by omega) (fun z23 h24 => ?_)
  refine a_istore_n C dJ6_bitCount_0f7a4_23 (i := 0) rfl (by decide) rfl (vs1 := [some (.int z23)]) rfl ?_
  refine a_iload_n C dJ6_bitCount_0f7a4_24 (i := 0) rfl rfl ?_
  refine a_iload_n C dJ6_bitCount_0f7a4_25 (i := 0) rfl rfl ?_
  refine s_iconst C dJ6_bitCount_0f7a4_26 (4) (by decide) (fun z25 h26 => ?_)
  refine s_iushrU C dJ6_bitCount_0f7a4_27 (fun z27 => ?_)
  refine s_iaddU C dJ6_bitCount_0f7a4_28 (fun z29 => ?_)
  refine s_ldcw C dJ6_bitCount_0f7a4_29 ko_RJ6_267 (252645135) (by decide) (fun z31 h32 => ?_)
  refine s_iand C dJ6_bitCount_0f7a4_32 (by omega) (fun z33 h34 => ?_)
  refine a_istore_n C dJ6_bitCount_0f7a4_33 (i := 0) rfl (by decide) rfl (vs1 := [some (.int z33)]) rfl ?_
  refine a_iload_n C dJ6_bitCount_0f7a4_34 (i := 0) rfl rfl ?_
  refine a_iload_n C dJ6_bitCount_0f7a4_35 (i := 0) rfl rfl ?_
  refine s_bipush C dJ6_bitCount_0f7a4_36 (8) (by decide) (fun z35 h36 => ?_)
  refine s_iushrU C dJ6_bitCount_0f7a4_38 (fun z37 => ?_)
  refine s_iaddU C dJ6_bitCount_0f7a4_39 (fun z39 => ?_)
  refine a_istore_n C dJ6_bitCount_0f7a4_40 (i := 0) rfl (by decide) rfl (vs1 := [some (.int z39)]) rfl ?_
  refine a_iload_n C dJ6_bitCount_0f7a4_41 (i := 0) rfl rfl ?_
  refine a_iload_n C dJ6_bitCount_0f7a4_42 (i := 0) rfl rfl ?_
  refine s_bipush C dJ6_bitCount_0f7a4_43 (16) (by decide) (fun z41 h42 => ?_)
  refine s_iushrU C dJ6_bitCount_0f7a4_45 (fun z43 => ?_)
  refine s_iaddU C dJ6_bitCount_0f7a4_46 (fun z45 => ?_)
  refine a_istore_n C dJ6_bitCount_0f7a4_47 (i := 0) rfl (by decide) rfl (vs1 := [some (.int z45)]) rfl ?_
  refine a_iload_n C dJ6_bitCount_0f7a4_48 (i := 0) rfl rfl ?_
  refine s_bipush C dJ6_bitCount_0f7a4_49 (63) (by decide) (fun z47 h48 => ?_)
  refine s_iand C dJ6_bitCount_0f7a4_51 (by omega) (fun z49 h50 => ?_)
  exact a_iret Rt dJ6_bitCount_0f7a4_52 rfl (rfl)
theorem dX0_isUp_0 : decode cX0_isUp 0 = .ok (.aload_n 0, 1) := by decide +kernel
theorem dX0_isUp_1 : decode cX0_isUp 1 = .ok (.getfield 9, 3) := by decide +kernel
theorem dX0_isUp_4 : decode cX0_isUp 4 = .ok (.iload_n 1, 1) := by decide +kernel
theorem dX0_isUp_5 : decode cX0_isUp 5 = .ok (.iaload, 1) := by decide +kernel
theorem dX0_isUp_6 : decode cX0_isUp 6 = .ok (.ifCond .ne 7, 3) := by decide +kernel
theorem dX0_isUp_9 : decode cX0_isUp 9 = .ok (.iconst 1, 1) := by decide +kernel
theorem dX0_isUp_10 : decode cX0_isUp 10 = .ok (.goto 4, 3) := by decide +kernel
theorem dX0_isUp_13 : decode cX0_isUp 13 = .ok (.iconst 0, 1) := by decide +kernel
theorem dX0_isUp_14 : decode cX0_isUp 14 = .ok (.ireturn, 1) := by decide +kernel
set_option maxHeartbeats 4000000 in
set_option maxRecDepth 100000 in
theorem S_X0_isUp_56 {l : Launch} {D : va_G} {ids : List Nat} {ad : Nat → Nat} {ca : Nat → ClassId} {σ : HS} {x1 : Int32} (hid : ∀ i, i < 277 → i ∈ ids) (hG : GIc σ) (hx1 : 0 ≤ x1.toInt ∧ x1.toInt ≤ 6) : Ki l D ids ad ca yX0_isUp cX0_isUp 2 .boolean 0 0 [.ref (ad 56), .int x1] σ (fun r σ1 => (σ1 = σ) ∧ (0 ≤ r.toInt ∧ r.toInt ≤ 1)) := by
  refine Ki.of (by decide) (Nat.le_of_ble_eq_true rfl) 0 (fun Γ C Rt => ?_)
  show AW ids ad ca Γ 0 [some (.ref (ad 56)), some (.int x1)] [] σ
  refine a_aload_n C dX0_isUp_0 (i := 0) rfl rfl ?_
  refine a_get C fl_RX0_9 (i := 56) kd_56 (hid 56 (by decide)) (v := .ref (ad 57)) rfl dX0_isUp_1 ?_
  refine a_iload_n C dX0_isUp_4 (i := 1) rfl rfl ?_
  refine s_iald C (i := 57) kd_57 (hid 57 (by decide)) al_57 (by omega) (by omega) dX0_isUp_5 (fun n1 h2 => ?_)
  refine s_val (fun z3 e4 => ?_)
  refine s_if_ne C dX0_isUp_6 (tgt := 13) rfl (fun c5 => ?_) (fun c5 => ?_)
  ·
    refine s_iconst C dX0_isUp_13 (0) (by decide) (fun z6 h7 => ?_)
    exact a_iret Rt dX0_isUp_14 (nar_z (by omega)).1 (⟨rfl, (show 0 ≤ z6.toInt ∧ z6.toInt ≤ 1 by intros; omega)⟩)
  ·
    refine s_iconst C dX0_isUp_9 (1) (by decide) (fun z8 h9 => ?_)
    refine a_goto C dX0_isUp_10 (tgt := 14) rfl ?_
    exact a_iret Rt dX0_isUp_14 (nar_z (by omega)).1 (⟨rfl, (show 0 ≤ z8.toInt ∧ z8.toInt ≤ 1 by intros; omega)⟩)
theorem dX0_landsNow_0 : decode cX0_landsNow 0 = .ok (.aload_n 0, 1) := by decide +kernel
theorem dX0_landsNow_1 : decode cX0_landsNow 1 = .ok (.getfield 9, 3) := by decide +kernel
theorem dX0_landsNow_4 : decode cX0_landsNow 4 = .ok (.iload_n 1, 1) := by decide +kernel
theorem dX0_landsNow_5 : decode cX0_landsNow 5 = .ok (.iaload, 1) := by decide +kernel
theorem dX0_landsNow_6 : decode cX0_landsNow 6 = .ok (.ifCond .ne 16, 3) := by decide +kernel
theorem dX0_landsNow_9 : decode cX0_landsNow 9 = .ok (.aload_n 0, 1) := by decide +kernel
theorem dX0_landsNow_10 : decode cX0_landsNow 10 = .ok (.getfield 15, 3) := by decide +kernel
theorem dX0_landsNow_13 : decode cX0_landsNow 13 = .ok (.iload_n 1, 1) := by decide +kernel
theorem dX0_landsNow_14 : decode cX0_landsNow 14 = .ok (.iaload, 1) := by decide +kernel
theorem dX0_landsNow_15 : decode cX0_landsNow 15 = .ok (.ifCond .ne 7, 3) := by decide +kernel
theorem dX0_landsNow_18 : decode cX0_landsNow 18 = .ok (.iconst 1, 1) := by decide +kernel
theorem dX0_landsNow_19 : decode cX0_landsNow 19 = .ok (.goto 4, 3) := by decide +kernel
theorem dX0_landsNow_22 : decode cX0_landsNow 22 = .ok (.iconst 0, 1) := by decide +kernel
theorem dX0_landsNow_23 : decode cX0_landsNow 23 = .ok (.ireturn, 1) := by decide +kernel
set_option maxHeartbeats 4000000 in
set_option maxRecDepth 100000 in
theorem S_X0_landsNow_56 {l : Launch} {D : va_G} {ids : List Nat} {ad : Nat → Nat} {ca : Nat → ClassId} {σ : HS} {x1 : Int32} (hid : ∀ i, i < 277 → i ∈ ids) (hG : GIc σ) (hx1 : 0 ≤ x1.toInt ∧ x1.toInt ≤ 6) : Ki l D ids ad ca yX0_landsNow cX0_landsNow 2 .boolean 0 0 [.ref (ad 56), .int x1] σ (fun r σ1 => (σ1 = σ) ∧ (0 ≤ r.toInt ∧ r.toInt ≤ 1)) := by
  refine Ki.of (by decide) (Nat.le_of_ble_eq_true rfl) 0 (fun Γ C Rt => ?_)
  show AW ids ad ca Γ 0 [some (.ref (ad 56)), some (.int x1)] [] σ
  refine a_aload_n C dX0_landsNow_0 (i := 0) rfl rfl ?_
  refine a_get C fl_RX0_9 (i := 56) kd_56 (hid 56 (by decide)) (v := .ref (ad 57)) rfl dX0_landsNow_1 ?_
  refine a_iload_n C dX0_landsNow_4 (i := 1) rfl rfl ?_
  refine s_iald C (i := 57) kd_57 (hid 57 (by decide)) al_57 (by omega) (by omega) dX0_landsNow_5 (fun n1 h2 => ?_)
  refine s_val (fun z3 e4 => ?_)
  refine s_if_ne C dX0_landsNow_6 (tgt := 22) rfl (fun c5 => ?_) (fun c5 => ?_)
  ·
    refine s_iconst C dX0_landsNow_22 (0) (by decide) (fun z6 h7 => ?_)
    exact a_iret Rt dX0_landsNow_23 (nar_z (by omega)).1 (⟨rfl, (show 0 ≤ z6.toInt ∧ z6.toInt ≤ 1 by intros; omega)⟩)
  ·
    refine a_aload_n C dX0_landsNow_9 (i := 0) rfl rfl ?_
    refine a_get C fl_RX0_15 (i := 56) kd_56 (hid 56 (by decide)) (v := .ref (ad 58)) rfl dX0_landsNow_10 ?_
    refine a_iload_n C dX0_landsNow_13 (i := 1) rfl rfl ?_
    refine s_iald C (i := 58) kd_58 (hid 58 (by decide)) al_58 (by omega) (by omega) dX0_landsNow_14 (fun n8 h9 => ?_)
    refine s_val (fun z10 e11 => ?_)
    refine s_if_ne C dX0_landsNow_15 (tgt := 22) rfl (fun c12 => ?_) (fun c12 => ?_)
    ·
      refine s_iconst C dX0_landsNow_22 (0) (by decide) (fun z13 h14 => ?_)
      exact a_iret Rt dX0_landsNow_23 (nar_z (by omega)).1 (⟨rfl, (show 0 ≤ z13.toInt ∧ z13.toInt ≤ 1 by intros; omega)⟩)
    ·
      refine s_iconst C dX0_landsNow_18 (1) (by decide) (fun z15 h16 => ?_)
      refine a_goto C dX0_landsNow_19 (tgt := 23) rfl ?_
      exact a_iret Rt dX0_landsNow_23 (nar_z (by omega)).1 (⟨rfl, (show 0 ≤ z15.toInt ∧ z15.toInt ≤ 1 by intros; omega)⟩)
theorem dX0_putUp_0 : decode cX0_putUp 0 = .ok (.aload_n 0, 1) := by decide +kernel
theorem dX0_putUp_1 : decode cX0_putUp 1 = .ok (.getfield 9, 3) := by decide +kernel
theorem dX0_putUp_4 : decode cX0_putUp 4 = .ok (.iload_n 1, 1) := by decide +kernel
theorem dX0_putUp_5 : decode cX0_putUp 5 = .ok (.iconst 0, 1) := by decide +kernel
theorem dX0_putUp_6 : decode cX0_putUp 6 = .ok (.iastore, 1) := by decide +kernel
theorem dX0_putUp_7 : decode cX0_putUp 7 = .ok (.aload_n 0, 1) := by decide +kernel
theorem dX0_putUp_8 : decode cX0_putUp 8 = .ok (.getfield 15, 3) := by decide +kernel
theorem dX0_putUp_11 : decode cX0_putUp 11 = .ok (.iload_n 1, 1) := by decide +kernel
theorem dX0_putUp_12 : decode cX0_putUp 12 = .ok (.iload_n 2, 1) := by decide +kernel
theorem dX0_putUp_13 : decode cX0_putUp 13 = .ok (.iastore, 1) := by decide +kernel
theorem dX0_putUp_14 : decode cX0_putUp 14 = .ok (.return_, 1) := by decide +kernel
set_option maxHeartbeats 4000000 in
set_option maxRecDepth 100000 in
theorem S_X0_putUp_56 {l : Launch} {D : va_G} {ids : List Nat} {ad : Nat → Nat} {ca : Nat → ClassId} {σ : HS} {x1 : Int32} {x2 : Int32} (hid : ∀ i, i < 277 → i ∈ ids) (hG : GIc σ) (hx1 : 0 ≤ x1.toInt ∧ x1.toInt ≤ 6) : Kv l D ids ad ca yX0_putUp cX0_putUp 3 0 0 [.ref (ad 56), .int x1, .int x2] σ (fun σ1 => (GIc σ1) ∧ (ony [57, 58] σ σ1)) := by
  refine Kv.of (by decide) (Nat.le_of_ble_eq_true rfl) 0 (fun Γ C Rt => ?_)
  show AW ids ad ca Γ 0 [some (.ref (ad 56)), some (.int x1), some (.int x2)] [] σ
  refine a_aload_n C dX0_putUp_0 (i := 0) rfl rfl ?_
  refine a_get C fl_RX0_9 (i := 56) kd_56 (hid 56 (by decide)) (v := .ref (ad 57)) rfl dX0_putUp_1 ?_
  refine a_iload_n C dX0_putUp_4 (i := 1) rfl rfl ?_
  refine s_iconst C dX0_putUp_5 (0) (by decide) (fun z1 h2 => ?_)
  refine s_iast C (i := 57) kd_57 (hid 57 (by decide)) al_57 (by omega) (by omega) dX0_putUp_6 (fun n3 h4 => ?_)
  have hG5 := wA_57 (v := z1) (j := n3) hG
  refine a_aload_n C dX0_putUp_7 (i := 0) rfl rfl ?_
  refine a_get C fl_RX0_15 (i := 56) kd_56 (hid 56 (by decide)) (v := .ref (ad 58)) rfl dX0_putUp_8 ?_
  refine a_iload_n C dX0_putUp_11 (i := 1) rfl rfl ?_
  refine a_iload_n C dX0_putUp_12 (i := 2) rfl rfl ?_
  refine s_iast C (i := 58) kd_58 (hid 58 (by decide)) al_58 (by omega) (by omega) dX0_putUp_13 (fun n6 h7 => ?_)
  have hG8 := wA_58 (v := x2) (j := n6) hG5
  exact a_vret Rt dX0_putUp_14 (⟨hG8, (ony.I (ony.I ony.rf (by decide)) (by decide))⟩)
theorem dX0_takeUp_0 : decode cX0_takeUp 0 = .ok (.aload_n 0, 1) := by decide +kernel
theorem dX0_takeUp_1 : decode cX0_takeUp 1 = .ok (.iload_n 1, 1) := by decide +kernel
theorem dX0_takeUp_2 : decode cX0_takeUp 2 = .ok (.putfield 21, 3) := by decide +kernel
theorem dX0_takeUp_5 : decode cX0_takeUp 5 = .ok (.aload_n 0, 1) := by decide +kernel
theorem dX0_takeUp_6 : decode cX0_takeUp 6 = .ok (.aload_n 0, 1) := by decide +kernel
theorem dX0_takeUp_7 : decode cX0_takeUp 7 = .ok (.getfield 49, 3) := by decide +kernel
theorem dX0_takeUp_10 : decode cX0_takeUp 10 = .ok (.putfield 67, 3) := by decide +kernel
theorem dX0_takeUp_13 : decode cX0_takeUp 13 = .ok (.return_, 1) := by decide +kernel
set_option maxHeartbeats 4000000 in
set_option maxRecDepth 100000 in
theorem S_X0_takeUp_56 {l : Launch} {D : va_G} {ids : List Nat} {ad : Nat → Nat} {ca : Nat → ClassId} {σ : HS} {x1 : Int32} (hid : ∀ i, i < 277 → i ∈ ids) (hG : GIc σ) : Kv l D ids ad ca yX0_takeUp cX0_takeUp 2 0 0 [.ref (ad 56), .int x1] σ (fun σ1 => (GIc σ1) ∧ (ony [56] σ σ1)) := by
  refine Kv.of (by decide) (Nat.le_of_ble_eq_true rfl) 0 (fun Γ C Rt => ?_)
  show AW ids ad ca Γ 0 [some (.ref (ad 56)), some (.int x1)] [] σ
  refine a_aload_n C dX0_takeUp_0 (i := 0) rfl rfl ?_
  refine a_iload_n C dX0_takeUp_1 (i := 1) rfl rfl ?_
  refine a_put C fp_RX0_21 (i := 56) kd_56 (hid 56 (by decide)) rfl rfl dX0_takeUp_2 ?_
  have hG1 := wF_56_9 (v := x1) hG
  refine a_aload_n C dX0_takeUp_5 (i := 0) rfl rfl ?_
  refine a_aload_n C dX0_takeUp_6 (i := 0) rfl rfl ?_
  refine a_get C fl_RX0_49 (i := 56) kd_56 (hid 56 (by decide)) (v := .int (σ.1 56 4)) rfl dX0_takeUp_7 ?_
  refine a_put C fp_RX0_67 (i := 56) kd_56 (hid 56 (by decide)) rfl rfl dX0_takeUp_10 ?_
  have hG2 := wF_56_10 (v := (σ.1 56 4)) hG1
  exact a_vret Rt dX0_takeUp_13 (⟨hG2, (ony.I (ony.I ony.rf (by decide)) (by decide))⟩)
theorem dX0_drop_0 : decode cX0_drop 0 = .ok (.aload_n 0, 1) := by decide +kernel
theorem dX0_drop_1 : decode cX0_drop 1 = .ok (.getfield 9, 3) := by decide +kernel
theorem dX0_drop_4 : decode cX0_drop 4 = .ok (.iload_n 1, 1) := by decide +kernel
theorem dX0_drop_5 : decode cX0_drop 5 = .ok (.iconst 2, 1) := by decide +kernel
theorem dX0_drop_6 : decode cX0_drop 6 = .ok (.iastore, 1) := by decide +kernel
theorem dX0_drop_7 : decode cX0_drop 7 = .ok (.aload_n 0, 1) := by decide +kernel
theorem dX0_drop_8 : decode cX0_drop 8 = .ok (.dup, 1) := by decide +kernel
theorem dX0_drop_9 : decode cX0_drop 9 = .ok (.getfield 55, 3) := by decide +kernel
theorem dX0_drop_12 : decode cX0_drop 12 = .ok (.iconst 1, 1) := by decide +kernel
theorem dX0_drop_13 : decode cX0_drop 13 = .ok (.iadd, 1) := by decide +kernel
theorem dX0_drop_14 : decode cX0_drop 14 = .ok (.putfield 55, 3) := by decide +kernel
theorem dX0_drop_17 : decode cX0_drop 17 = .ok (.return_, 1) := by decide +kernel
set_option maxHeartbeats 4000000 in
set_option maxRecDepth 100000 in
theorem S_X0_drop_56 {l : Launch} {D : va_G} {ids : List Nat} {ad : Nat → Nat} {ca : Nat → ClassId} {σ : HS} {x1 : Int32} (hid : ∀ i, i < 277 → i ∈ ids) (hG : GIc σ) (hx1 : 0 ≤ x1.toInt ∧ x1.toInt ≤ 6) : Kv l D ids ad ca yX0_drop cX0_drop 2 0 0 [.ref (ad 56), .int x1] σ (fun σ1 => (GIc σ1) ∧ (ony [56, 57] σ σ1)) := by
  refine Kv.of (by decide) (Nat.le_of_ble_eq_true rfl) 0 (fun Γ C Rt => ?_)
  show AW ids ad ca Γ 0 [some (.ref (ad 56)), some (.int x1)] [] σ
  refine a_aload_n C dX0_drop_0 (i := 0) rfl rfl ?_
  refine a_get C fl_RX0_9 (i := 56) kd_56 (hid 56 (by decide)) (v := .ref (ad 57)) rfl dX0_drop_1 ?_
  refine a_iload_n C dX0_drop_4 (i := 1) rfl rfl ?_
  refine s_iconst C dX0_drop_5 (2) (by decide) (fun z1 h2 => ?_)
  refine s_iast C (i := 57) kd_57 (hid 57 (by decide)) al_57 (by omega) (by omega) dX0_drop_6 (fun n3 h4 => ?_)
  have hG5 := wA_57 (v := z1) (j := n3) hG
  refine a_aload_n C dX0_drop_7 (i := 0) rfl rfl ?_
  refine a_dup C dX0_drop_8 rfl ?_
  refine a_get C fl_RX0_55 (i := 56) kd_56 (hid 56 (by decide)) (v := .int (σ.1 56 6)) rfl dX0_drop_9 ?_
  refine s_iconst C dX0_drop_12 (1) (by decide) (fun z6 h7 => ?_)
  refine s_iaddU C dX0_drop_13 (fun z8 => ?_)
  refine a_put C fp_RX0_55 (i := 56) kd_56 (hid 56 (by decide)) rfl rfl dX0_drop_14 ?_
  have hG10 := wF_56_6 (v := z8) hG5
  exact a_vret Rt dX0_drop_17 (⟨hG10, (ony.I (ony.I ony.rf (by decide)) (by decide))⟩)
theorem dX0_bitsOf_12 : decode cX0_bitsOf 12 = .ok (.aload_n 0, 1) := by decide +kernel
theorem dX0_bitsOf_13 : decode cX0_bitsOf 13 = .ok (.getfield 9, 3) := by decide +kernel
theorem dX0_bitsOf_16 : decode cX0_bitsOf 16 = .ok (.iload_n 3, 1) := by decide +kernel
theorem dX0_bitsOf_17 : decode cX0_bitsOf 17 = .ok (.iaload, 1) := by decide +kernel
theorem dX0_bitsOf_18 : decode cX0_bitsOf 18 = .ok (.iload_n 1, 1) := by decide +kernel
theorem dX0_bitsOf_19 : decode cX0_bitsOf 19 = .ok (.if_icmp .ne 9, 3) := by decide +kernel
theorem dX0_bitsOf_22 : decode cX0_bitsOf 22 = .ok (.iload_n 2, 1) := by decide +kernel
theorem dX0_bitsOf_23 : decode cX0_bitsOf 23 = .ok (.iconst 1, 1) := by decide +kernel
theorem dX0_bitsOf_24 : decode cX0_bitsOf 24 = .ok (.iload_n 3, 1) := by decide +kernel
theorem dX0_bitsOf_25 : decode cX0_bitsOf 25 = .ok (.ishl, 1) := by decide +kernel
theorem dX0_bitsOf_26 : decode cX0_bitsOf 26 = .ok (.ior, 1) := by decide +kernel
theorem dX0_bitsOf_27 : decode cX0_bitsOf 27 = .ok (.istore_n 2, 1) := by decide +kernel
theorem dX0_bitsOf_28 : decode cX0_bitsOf 28 = .ok (.iinc 3 1, 3) := by decide +kernel
theorem dX0_bitsOf_31 : decode cX0_bitsOf 31 = .ok (.goto (-27), 3) := by decide +kernel
set_option maxHeartbeats 4000000 in
set_option maxRecDepth 100000 in
theorem S_X0_bitsOf_56 {l : Launch} {D : va_G} {ids : List Nat} {ad : Nat → Nat} {ca : Nat → ClassId} {σ : HS} {x1 : Int32} (hid : ∀ i, i < 277 → i ∈ ids) (hG : GIc σ) : Ki l D ids ad ca yX0_bitsOf cX0_bitsOf 4 .int 0 0 [.ref (ad 56), .int x1] σ (fun r σ1 => (σ1 = σ)) := by
  refine Ki.of (by decide) (Nat.le_of_ble_eq_true rfl) 2 (fun Γ C Rt => ?_)
  show AW ids ad ca Γ 0 [some (.ref (ad 56)), some (.int x1), none, none] [] σ
  have j4 : ∀ (d4 : Nat) (y4_2 : Int32) (y4_3 : Int32), 7 - y4_3.toInt < d4 → 0 ≤ y4_3.toInt ∧ y4_3.toInt ≤ 7 → AW ids ad ca Γ 4 [some (.ref (ad 56)), some (.int x1), some (.int y4_2), some (.int y4_3)] [] σ := by
    intro d4
    induction d4 with
    | zero =>
      intro y4_2 y4_3 hd4 hx4_0
      exfalso
      omega
    | succ d4 ih4 =>
      intro y4_2 y4_3 hd4 hx4_0
      have j28 : ∀ (y28_2 : Int32), 0 ≤ y4_3.toInt ∧ y4_3.toInt ≤ 6 → AW ids ad ca Γ 28 [some (.ref (ad 56)), some (.int x1), some (.int y28_2), some (.int y4_3)] [] σ := by
        intro y28_2 hx28_0
        refine s_iinc C dX0_bitsOf_28 rfl (1) (by decide) (by omega) (by decide) rfl (fun z1 h2 => ?_)
        show AW ids ad ca Γ 31 [some (.ref (ad 56)), some (.int x1), some (.int y28_2), some (.int z1)] _ _
        refine a_goto C dX0_bitsOf_31 (tgt := 4) rfl ?_
        exact ih4 y28_2 z1 (by omega) (by omega)
      refine a_iload_n C dX0_bitsOf_4 (i := 3) rfl rfl ?_
      refine a_aload_n C dX0_bitsOf_5 (i := 0) rfl rfl ?_
      have g3 := bF_56_0 hG
      refine a_get C fl_RX0_33 (i := 56) kd_56 (hid 56 (by decide)) (v := .int (σ.1 56 0)) rfl dX0_bitsOf_6 ?_
      refine s_ic_ge C dX0_bitsOf_9 (tgt := 34) rfl (fun c4 => ?_) (fun c4 => ?_)
      ·
        refine a_iload_n C dX0_bitsOf_34 (i := 2) rfl rfl ?_
        exact a_iret Rt dX0_bitsOf_35 rfl (rfl)
      ·
        refine a_aload_n C dX0_bitsOf_12 (i := 0) rfl rfl ?_
        refine a_get C fl_RX0_9 (i := 56) kd_56 (hid 56 (by decide)) (v := .ref (ad 57)) rfl dX0_bitsOf_13 ?_
        refine a_iload_n C dX0_bitsOf_16 (i := 3) rfl rfl ?_
        refine s_iald C (i := 57) kd_57 (hid 57 (by decide)) al_57 (by omega) (by omega) dX0_bitsOf_17 (fun n5 h6 => ?_)
        refine s_val (fun z7 e8 => ?_)
        refine a_iload_n C dX0_bitsOf_18 (i := 1) rfl rfl ?_
        refine s_ic_ne C dX0_bitsOf_19 (tgt := 28) rfl (fun c9 => ?_) (fun c9 => ?_)
        ·
          exact j28 y4_2 (by omega)
        ·
          refine a_iload_n C dX0_bitsOf_22 (i := 2) rfl rfl ?_
          refine s_iconst C dX0_bitsOf_23 (1) (by decide) (fun z10 h11 => ?_)
          refine a_iload_n C dX0_bitsOf_24 (i := 3) rfl rfl ?_
          refine s_ishlU C dX0_bitsOf_25 (fun z12 => ?_)
          refine s_iorU C dX0_bitsOf_26 (fun z14 => ?_)
          refine a_istore_n C dX0_bitsOf_27 (i := 2) rfl (by decide) rfl (vs1 := [some (.ref (ad 56)), some (.int x1), some (.int z14), some (.int y4_3)]) rfl ?_
          exact j28 z14 (by omega)
  refine s_iconst C dX0_bitsOf_0 (0) (by decide) (fun z16 h17 => ?_)
  refine a_istore_n C dX0_bitsOf_1 (i := 2) rfl (by decide) rfl (vs1 := [some (.ref (ad 56)), some (.int x1), some (.int z16), none]) rfl ?_
  refine s_iconst C dX0_bitsOf_2 (0) (by decide) (fun z18 h19 => ?_)
  refine a_istore_n C dX0_bitsOf_3 (i := 3) rfl (by decide) rfl (vs1 := [some (.ref (ad 56)), some (.int x1), some (.int z16), some (.int z18)]) rfl ?_
  exact j4 100000 z16 z18 (by omega) (by omega)
set_option maxHeartbeats 4000000 in
set_option maxRecDepth 100000 in
theorem S_X0_howManyUp_56 {l : Launch} {D : va_G} {ids : List Nat} {ad : Nat → Nat} {ca : Nat → ClassId} {σ : HS} (hid : ∀ i, i < 277 → i ∈ ids) (hG : GIc σ) : Ki l D ids ad ca yX0_howManyUp cX0_howManyUp 1 .int 1 23 [.ref (ad 56)] σ (fun r σ1 => (σ1 = σ)) := by
  refine Ki.of (by decide) (Nat.le_of_ble_eq_true rfl) 0 (fun Γ C Rt => ?_)
  show AW ids ad ca Γ 0 [some (.ref (ad 56))] [] σ
  refine a_aload_n C dX0_howManyUp_0 (i := 0) rfl rfl ?_
  refine s_iconst C dX0_howManyUp_1 (0) (by decide) (fun z1 h2 => ?_)
  refine a_callVi C (i := 56) kd_56 (hid 56 (by decide)) ⟨_, _, rfl⟩ (by decide) (S_X0_bitsOf_56 (x1 := z1) hid hG) mi_X0_bitsOf ml_RX0_70 rfl rfl (Nat.le_of_ble_eq_true rfl) (Nat.le_of_ble_eq_true rfl) (Nat.le_of_ble_eq_true rfl) dX0_howManyUp_2 (fun z3 σ4 q5 => ?_)
  rw [q5]
  refine a_callSi C (S_J6_bitCount_0f7a4 (x1 := z3) hid hG) ms_J6_bitCount_0f7a4 ml_RX0_74 rfl rfl (Nat.le_of_ble_eq_true rfl) (Nat.le_of_ble_eq_true rfl) (Nat.le_of_ble_eq_true rfl) dX0_howManyUp_5 (fun z6 σ7 q8 => ?_)
  rw [q8]
  exact a_iret Rt dX0_howManyUp_8 rfl (rfl)
theorem dX0_firstLanding_10 : decode cX0_firstLanding 10 = .ok (.aload_n 0, 1) := by decide +kernel
theorem dX0_firstLanding_11 : decode cX0_firstLanding 11 = .ok (.iload_n 1, 1) := by decide +kernel
theorem dX0_firstLanding_12 : decode cX0_firstLanding 12 = .ok (.invokevirtual 79, 3) := by decide +kernel
theorem dX0_firstLanding_15 : decode cX0_firstLanding 15 = .ok (.ifCond .eq 5, 3) := by decide +kernel
theorem dX0_firstLanding_18 : decode cX0_firstLanding 18 = .ok (.iload_n 1, 1) := by decide +kernel
theorem dX0_firstLanding_19 : decode cX0_firstLanding 19 = .ok (.ireturn, 1) := by decide +kernel
theorem dX0_firstLanding_20 : decode cX0_firstLanding 20 = .ok (.iinc 1 1, 3) := by decide +kernel
theorem dX0_firstLanding_23 : decode cX0_firstLanding 23 = .ok (.goto (-21), 3) := by decide +kernel
set_option maxHeartbeats 4000000 in
set_option maxRecDepth 100000 in
theorem S_X0_firstLanding_56 {l : Launch} {D : va_G} {ids : List Nat} {ad : Nat → Nat} {ca : Nat → ClassId} {σ : HS} (hid : ∀ i, i < 277 → i ∈ ids) (hG : GIc σ) : Ki l D ids ad ca yX0_firstLanding cX0_firstLanding 2 .int 1 21 [.ref (ad 56)] σ (fun r σ1 => (σ1 = σ) ∧ (-1 ≤ r.toInt ∧ r.toInt ≤ 6)) := by
  refine Ki.of (by decide) (Nat.le_of_ble_eq_true rfl) 1 (fun Γ C Rt => ?_)
  show AW ids ad ca Γ 0 [some (.ref (ad 56)), none] [] σ
  have j2 : ∀ (d2 : Nat) (y2_1 : Int32), 7 - y2_1.toInt < d2 → 0 ≤ y2_1.toInt ∧ y2_1.toInt ≤ 7 → AW ids ad ca Γ 2 [some (.ref (ad 56)), some (.int y2_1)] [] σ := by
    intro d2
    induction d2 with
    | zero =>
      intro y2_1 hd2 hx2_0
      exfalso
      omega
    | succ d2 ih2 =>
      intro y2_1 hd2 hx2_0
      refine a_iload_n C dX0_firstLanding_2 (i := 1) rfl rfl ?_
      refine a_aload_n C dX0_firstLanding_3 (i := 0) rfl rfl ?_
      have g1 := bF_56_0 hG
      refine a_get C fl_RX0_33 (i := 56) kd_56 (hid 56 (by decide)) (v := .int (σ.1 56 0)) rfl dX0_firstLanding_4 ?_
      refine s_ic_ge C dX0_firstLanding_7 (tgt := 26) rfl (fun c2 => ?_) (fun c2 => ?_)
      ·
        refine s_iconst C dX0_firstLanding_26 (-1) (by decide) (fun z3 h4 => ?_)
        exact a_iret Rt dX0_firstLanding_27 rfl (⟨rfl, (show -1 ≤ z3.toInt ∧ z3.toInt ≤ 6 by intros; omega)⟩)
      ·
        refine a_aload_n C dX0_firstLanding_10 (i := 0) rfl rfl ?_
        refine a_iload_n C dX0_firstLanding_11 (i := 1) rfl rfl ?_
        refine a_callVi C (i := 56) kd_56 (hid 56 (by decide)) ⟨_, _, rfl⟩ (by decide) (S_X0_landsNow_56 (x1 := y2_1) hid hG (by omega)) mi_X0_landsNow ml_RX0_79 rfl rfl (Nat.le_of_ble_eq_true rfl) (Nat.le_of_ble_eq_true rfl) (Nat.le_of_ble_eq_true rfl) dX0_firstLanding_12 (fun z5 σ6 q7 => ?_)
        obtain ⟨w8, w9⟩ := q7
        rw [w8]
        refine s_if_eq C dX0_firstLanding_15 (tgt := 20) rfl (fun c10 => ?_) (fun c10 => ?_)
        ·
          refine s_iinc C dX0_firstLanding_20 rfl (1) (by decide) (by omega) (by decide) rfl (fun z11 h12 => ?_)
          show AW ids ad ca Γ 23 [some (.ref (ad 56)), some (.int z11)] _ _
          refine a_goto C dX0_firstLanding_23 (tgt := 2) rfl ?_
          exact ih2 z11 (by omega) (by omega)
        ·
          refine a_iload_n C dX0_firstLanding_18 (i := 1) rfl rfl ?_
          exact a_iret Rt dX0_firstLanding_19 rfl (⟨rfl, (show -1 ≤ y2_1.toInt ∧ y2_1.toInt ≤ 6 by intros; omega)⟩)
  refine s_iconst C dX0_firstLanding_0 (0) (by decide) (fun z13 h14 => ?_)
  refine a_istore_n C dX0_firstLanding_1 (i := 1) rfl (by decide) rfl (vs1 := [some (.ref (ad 56)), some (.int z13)]) rfl ?_
  exact j2 100000 z13 (by omega) (by omega)
theorem dX0_howManyLand_12 : decode cX0_howManyLand 12 = .ok (.aload_n 0, 1) := by decide +kernel
theorem dX0_howManyLand_13 : decode cX0_howManyLand 13 = .ok (.iload_n 2, 1) := by decide +kernel
theorem dX0_howManyLand_14 : decode cX0_howManyLand 14 = .ok (.invokevirtual 79, 3) := by decide +kernel
theorem dX0_howManyLand_17 : decode cX0_howManyLand 17 = .ok (.ifCond .eq 6, 3) := by decide +kernel
theorem dX0_howManyLand_20 : decode cX0_howManyLand 20 = .ok (.iinc 1 1, 3) := by decide +kernel
theorem dX0_howManyLand_23 : decode cX0_howManyLand 23 = .ok (.iinc 2 1, 3) := by decide +kernel
theorem dX0_howManyLand_26 : decode cX0_howManyLand 26 = .ok (.goto (-22), 3) := by decide +kernel
set_option maxHeartbeats 4000000 in
set_option maxRecDepth 100000 in
theorem S_X0_howManyLand_56 {l : Launch} {D : va_G} {ids : List Nat} {ad : Nat → Nat} {ca : Nat → ClassId} {σ : HS} (hid : ∀ i, i < 277 → i ∈ ids) (hG : GIc σ) : Ki l D ids ad ca yX0_howManyLand cX0_howManyLand 3 .int 1 21 [.ref (ad 56)] σ (fun r σ1 => (σ1 = σ)) := by
  refine Ki.of (by decide) (Nat.le_of_ble_eq_true rfl) 2 (fun Γ C Rt => ?_)
  show AW ids ad ca Γ 0 [some (.ref (ad 56)), none, none] [] σ
  have j4 : ∀ (d4 : Nat) (y4_1 : Int32) (y4_2 : Int32), 7 - y4_2.toInt < d4 → 0 ≤ y4_2.toInt ∧ y4_2.toInt ≤ 7 → AW ids ad ca Γ 4 [some (.ref (ad 56)), some (.int y4_1), some (.int y4_2)] [] σ := by
    intro d4
    induction d4 with
    | zero =>
      intro y4_1 y4_2 hd4 hx4_0
      exfalso
      omega
    | succ d4 ih4 =>
      intro y4_1 y4_2 hd4 hx4_0
      have j23 : ∀ (y23_1 : Int32), 0 ≤ y4_2.toInt ∧ y4_2.toInt ≤ 6 → AW ids ad ca Γ 23 [some (.ref (ad 56)), some (.int y23_1), some (.int y4_2)] [] σ := by
        intro y23_1 hx23_0
        refine s_iinc C dX0_howManyLand_23 rfl (1) (by decide) (by omega) (by decide) rfl (fun z1 h2 => ?_)
        show AW ids ad ca Γ 26 [some (.ref (ad 56)), some (.int y23_1), some (.int z1)] _ _
        refine a_goto C dX0_howManyLand_26 (tgt := 4) rfl ?_
        exact ih4 y23_1 z1 (by omega) (by omega)
      refine a_iload_n C dX0_howManyLand_4 (i := 2) rfl rfl ?_
      refine a_aload_n C dX0_howManyLand_5 (i := 0) rfl rfl ?_
      have g3 := bF_56_0 hG
      refine a_get C fl_RX0_33 (i := 56) kd_56 (hid 56 (by decide)) (v := .int (σ.1 56 0)) rfl dX0_howManyLand_6 ?_
      refine s_ic_ge C dX0_howManyLand_9 (tgt := 29) rfl (fun c4 => ?_) (fun c4 => ?_)
      ·
        refine a_iload_n C dX0_howManyLand_29 (i := 1) rfl rfl ?_
        exact a_iret Rt dX0_howManyLand_30 rfl (rfl)
      ·
        refine a_aload_n C dX0_howManyLand_12 (i := 0) rfl rfl ?_
        refine a_iload_n C dX0_howManyLand_13 (i := 2) rfl rfl ?_
        refine a_callVi C (i := 56) kd_56 (hid 56 (by decide)) ⟨_, _, rfl⟩ (by decide) (S_X0_landsNow_56 (x1 := y4_2) hid hG (by omega)) mi_X0_landsNow ml_RX0_79 rfl rfl (Nat.le_of_ble_eq_true rfl) (Nat.le_of_ble_eq_true rfl) (Nat.le_of_ble_eq_true rfl) dX0_howManyLand_14 (fun z5 σ6 q7 => ?_)
        obtain ⟨w8, w9⟩ := q7
        rw [w8]
        refine s_if_eq C dX0_howManyLand_17 (tgt := 23) rfl (fun c10 => ?_) (fun c10 => ?_)
        ·
          exact j23 y4_1 (by omega)
        ·
          refine s_iincU C dX0_howManyLand_20 rfl (by decide) rfl (fun z11 => ?_)
          show AW ids ad ca Γ 23 [some (.ref (ad 56)), some (.int z11), some (.int y4_2)] _ _
          exact j23 z11 (by omega)
  refine s_iconst C dX0_howManyLand_0 (0) (by decide) (fun z13 h14 => ?_)
  refine a_istore_n C dX0_howManyLand_1 (i := 1) rfl (by decide) rfl (vs1 := [some (.ref (ad 56)), some (.int z13), none]) rfl ?_
  refine s_iconst C dX0_howManyLand_2 (0) (by decide) (fun z15 h16 => ?_)
  refine a_istore_n C dX0_howManyLand_3 (i := 2) rfl (by decide) rfl (vs1 := [some (.ref (ad 56)), some (.int z13), some (.int z15)]) rfl ?_
  exact j4 100000 z13 z15 (by omega) (by omega)
theorem dX0_landingBits_12 : decode cX0_landingBits 12 = .ok (.aload_n 0, 1) := by decide +kernel
theorem dX0_landingBits_13 : decode cX0_landingBits 13 = .ok (.iload_n 2, 1) := by decide +kernel
theorem dX0_landingBits_14 : decode cX0_landingBits 14 = .ok (.invokevirtual 83, 3) := by decide +kernel
theorem dX0_landingBits_17 : decode cX0_landingBits 17 = .ok (.ifCond .eq 14, 3) := by decide +kernel
theorem dX0_landingBits_20 : decode cX0_landingBits 20 = .ok (.iload_n 1, 1) := by decide +kernel
theorem dX0_landingBits_21 : decode cX0_landingBits 21 = .ok (.iconst 1, 1) := by decide +kernel
theorem dX0_landingBits_22 : decode cX0_landingBits 22 = .ok (.aload_n 0, 1) := by decide +kernel
theorem dX0_landingBits_23 : decode cX0_landingBits 23 = .ok (.getfield 15, 3) := by decide +kernel
theorem dX0_landingBits_26 : decode cX0_landingBits 26 = .ok (.iload_n 2, 1) := by decide +kernel
theorem dX0_landingBits_27 : decode cX0_landingBits 27 = .ok (.iaload, 1) := by decide +kernel
theorem dX0_landingBits_28 : decode cX0_landingBits 28 = .ok (.ishl, 1) := by decide +kernel
theorem dX0_landingBits_29 : decode cX0_landingBits 29 = .ok (.ior, 1) := by decide +kernel
theorem dX0_landingBits_30 : decode cX0_landingBits 30 = .ok (.istore_n 1, 1) := by decide +kernel
theorem dX0_landingBits_31 : decode cX0_landingBits 31 = .ok (.iinc 2 1, 3) := by decide +kernel
theorem dX0_landingBits_34 : decode cX0_landingBits 34 = .ok (.goto (-30), 3) := by decide +kernel
set_option maxHeartbeats 4000000 in
set_option maxRecDepth 100000 in
theorem S_X0_landingBits_56 {l : Launch} {D : va_G} {ids : List Nat} {ad : Nat → Nat} {ca : Nat → ClassId} {σ : HS} (hid : ∀ i, i < 277 → i ∈ ids) (hG : GIc σ) : Ki l D ids ad ca yX0_landingBits cX0_landingBits 3 .int 1 21 [.ref (ad 56)] σ (fun r σ1 => (σ1 = σ)) := by
  refine Ki.of (by decide) (Nat.le_of_ble_eq_true rfl) 2 (fun Γ C Rt => ?_)
  show AW ids ad ca Γ 0 [some (.ref (ad 56)), none, none] [] σ
  have j4 : ∀ (d4 : Nat) (y4_1 : Int32) (y4_2 : Int32), 7 - y4_2.toInt < d4 → 0 ≤ y4_2.toInt ∧ y4_2.toInt ≤ 7 → AW ids ad ca Γ 4 [some (.ref (ad 56)), some (.int y4_1), some (.int y4_2)] [] σ := by
    intro d4
    induction d4 with
    | zero =>
      intro y4_1 y4_2 hd4 hx4_0
      exfalso
      omega
    | succ d4 ih4 =>
      intro y4_1 y4_2 hd4 hx4_0
      have j31 : ∀ (y31_1 : Int32), 0 ≤ y4_2.toInt ∧ y4_2.toInt ≤ 6 → AW ids ad ca Γ 31 [some (.ref (ad 56)), some (.int y31_1), some (.int y4_2)] [] σ := by
        intro y31_1 hx31_0
        refine s_iinc C dX0_landingBits_31 rfl (1) (by decide) (by omega) (by decide) rfl (fun z1 h2 => ?_)
        show AW ids ad ca Γ 34 [some (.ref (ad 56)), some (.int y31_1), some (.int z1)] _ _
        refine a_goto C dX0_landingBits_34 (tgt := 4) rfl ?_
        exact ih4 y31_1 z1 (by omega) (by omega)
      refine a_iload_n C dX0_landingBits_4 (i := 2) rfl rfl ?_
      refine a_aload_n C dX0_landingBits_5 (i := 0) rfl rfl ?_
      have g3 := bF_56_0 hG
      refine a_get C fl_RX0_33 (i := 56) kd_56 (hid 56 (by decide)) (v := .int (σ.1 56 0)) rfl dX0_landingBits_6 ?_
      refine s_ic_ge C dX0_landingBits_9 (tgt := 37) rfl (fun c4 => ?_) (fun c4 => ?_)
      ·
        refine a_iload_n C dX0_landingBits_37 (i := 1) rfl rfl ?_
        exact a_iret Rt dX0_landingBits_38 rfl (rfl)
      ·
        refine a_aload_n C dX0_landingBits_12 (i := 0) rfl rfl ?_
        refine a_iload_n C dX0_landingBits_13 (i := 2) rfl rfl ?_
        refine a_callVi C (i := 56) kd_56 (hid 56 (by decide)) ⟨_, _, rfl⟩ (by decide) (S_X0_isUp_56 (x1 := y4_2) hid hG (by omega)) mi_X0_isUp ml_RX0_83 rfl rfl (Nat.le_of_ble_eq_true rfl) (Nat.le_of_ble_eq_true rfl) (Nat.le_of_ble_eq_true rfl) dX0_landingBits_14 (fun z5 σ6 q7 => ?_)
        obtain ⟨w8, w9⟩ := q7
        rw [w8]
        refine s_if_eq C dX0_landingBits_17 (tgt := 31) rfl (fun c10 => ?_) (fun c10 => ?_)
        ·
          exact j31 y4_1 (by omega)
        ·
          refine a_iload_n C dX0_landingBits_20 (i := 1) rfl rfl ?_
          refine s_iconst C dX0_landingBits_21 (1) (by decide) (fun z11 h12 => ?_)
          refine a_aload_n C dX0_landingBits_22 (i := 0) rfl rfl ?_
          refine a_get C fl_RX0_15 (i := 56) kd_56 (hid 56 (by decide)) (v := .ref (ad 58)) rfl dX0_landingBits_23 ?_
          refine a_iload_n C dX0_landingBits_26 (i := 2) rfl rfl ?_
          refine s_iald C (i := 58) kd_58 (hid 58 (by decide)) al_58 (by omega) (by omega) dX0_landingBits_27 (fun n13 h14 => ?_)
          refine s_val (fun z15 e16 => ?_)
          refine s_ishlU C dX0_landingBits_28 (fun z17 => ?_)
          refine s_iorU C dX0_landingBits_29 (fun z19 => ?_)
          refine a_istore_n C dX0_landingBits_30 (i := 1) rfl (by decide) rfl (vs1 := [some (.ref (ad 56)), some (.int z19), some (.int y4_2)]) rfl ?_
          exact j31 z19 (by omega)
  refine s_iconst C dX0_landingBits_0 (0) (by decide) (fun z21 h22 => ?_)
  refine a_istore_n C dX0_landingBits_1 (i := 1) rfl (by decide) rfl (vs1 := [some (.ref (ad 56)), some (.int z21), none]) rfl ?_
  refine s_iconst C dX0_landingBits_2 (0) (by decide) (fun z23 h24 => ?_)
  refine a_istore_n C dX0_landingBits_3 (i := 2) rfl (by decide) rfl (vs1 := [some (.ref (ad 56)), some (.int z21), some (.int z23)]) rfl ?_
  exact j4 100000 z21 z23 (by omega) (by omega)
theorem dX0_twoLandAlike_0 : decode cX0_twoLandAlike 0 = .ok (.aload_n 0, 1) := by decide +kernel
theorem dX0_twoLandAlike_1 : decode cX0_twoLandAlike 1 = .ok (.invokevirtual 86, 3) := by decide +kernel
theorem dX0_twoLandAlike_4 : decode cX0_twoLandAlike 4 = .ok (.invokestatic 74, 3) := by decide +kernel
theorem dX0_twoLandAlike_7 : decode cX0_twoLandAlike 7 = .ok (.aload_n 0, 1) := by decide +kernel
theorem dX0_twoLandAlike_8 : decode cX0_twoLandAlike 8 = .ok (.invokevirtual 90, 3) := by decide +kernel
theorem dX0_twoLandAlike_11 : decode cX0_twoLandAlike 11 = .ok (.if_icmp .ge 7, 3) := by decide +kernel
theorem dX0_twoLandAlike_14 : decode cX0_twoLandAlike 14 = .ok (.iconst 1, 1) := by decide +kernel
theorem dX0_twoLandAlike_15 : decode cX0_twoLandAlike 15 = .ok (.goto 4, 3) := by decide +kernel
theorem dX0_twoLandAlike_18 : decode cX0_twoLandAlike 18 = .ok (.iconst 0, 1) := by decide +kernel
theorem dX0_twoLandAlike_19 : decode cX0_twoLandAlike 19 = .ok (.ireturn, 1) := by decide +kernel
set_option maxHeartbeats 4000000 in
set_option maxRecDepth 100000 in
theorem S_X0_twoLandAlike_56 {l : Launch} {D : va_G} {ids : List Nat} {ad : Nat → Nat} {ca : Nat → ClassId} {σ : HS} (hid : ∀ i, i < 277 → i ∈ ids) (hG : GIc σ) : Ki l D ids ad ca yX0_twoLandAlike cX0_twoLandAlike 1 .boolean 2 43 [.ref (ad 56)] σ (fun r σ1 => (σ1 = σ) ∧ (0 ≤ r.toInt ∧ r.toInt ≤ 1)) := by
  refine Ki.of (by decide) (Nat.le_of_ble_eq_true rfl) 0 (fun Γ C Rt => ?_)
  show AW ids ad ca Γ 0 [some (.ref (ad 56))] [] σ
  refine a_aload_n C dX0_twoLandAlike_0 (i := 0) rfl rfl ?_
  refine a_callVi C (i := 56) kd_56 (hid 56 (by decide)) ⟨_, _, rfl⟩ (by decide) (S_X0_landingBits_56 hid hG) mi_X0_landingBits ml_RX0_86 rfl rfl (Nat.le_of_ble_eq_true rfl) (Nat.le_of_ble_eq_true rfl) (Nat.le_of_ble_eq_true rfl) dX0_twoLandAlike_1 (fun z1 σ2 q3 => ?_)
  rw [q3]
  refine a_callSi C (S_J6_bitCount_0f7a4 (x1 := z1) hid hG) ms_J6_bitCount_0f7a4 ml_RX0_74 rfl rfl (Nat.le_of_ble_eq_true rfl) (Nat.le_of_ble_eq_true rfl) (Nat.le_of_ble_eq_true rfl) dX0_twoLandAlike_4 (fun z4 σ5 q6 => ?_)
  rw [q6]
  refine a_aload_n C dX0_twoLandAlike_7 (i := 0) rfl rfl ?_
  refine a_callVi C (i := 56) kd_56 (hid 56 (by decide)) ⟨_, _, rfl⟩ (by decide) (S_X0_howManyUp_56 hid hG) mi_X0_howManyUp ml_RX0_90 rfl rfl (Nat.le_of_ble_eq_true rfl) (Nat.le_of_ble_eq_true rfl) (Nat.le_of_ble_eq_true rfl) dX0_twoLandAlike_8 (fun z7 σ8 q9 => ?_)
  rw [q9]
  refine s_ic_ge C dX0_twoLandAlike_11 (tgt := 18) rfl (fun c10 => ?_) (fun c10 => ?_)
  ·
    refine s_iconst C dX0_twoLandAlike_18 (0) (by decide) (fun z11 h12 => ?_)
    exact a_iret Rt dX0_twoLandAlike_19 (nar_z (by omega)).1 (⟨rfl, (show 0 ≤ z11.toInt ∧ z11.toInt ≤ 1 by intros; omega)⟩)
  ·
    refine s_iconst C dX0_twoLandAlike_14 (1) (by decide) (fun z13 h14 => ?_)
    refine a_goto C dX0_twoLandAlike_15 (tgt := 19) rfl ?_
    exact a_iret Rt dX0_twoLandAlike_19 (nar_z (by omega)).1 (⟨rfl, (show 0 ≤ z13.toInt ∧ z13.toInt ≤ 1 by intros; omega)⟩)
set_option maxHeartbeats 4000000 in
set_option maxRecDepth 100000 in
theorem S_X0_isUp_60 {l : Launch} {D : va_G} {ids : List Nat} {ad : Nat → Nat} {ca : Nat → ClassId} {σ : HS} {x1 : Int32} (hid : ∀ i, i < 277 → i ∈ ids) (hG : GIc σ) (hx1 : 0 ≤ x1.toInt ∧ x1.toInt ≤ 6) : Ki l D ids ad ca yX0_isUp cX0_isUp 2 .boolean 0 0 [.ref (ad 60), .int x1] σ (fun r σ1 => (σ1 = σ) ∧ (0 ≤ r.toInt ∧ r.toInt ≤ 1)) := by
  refine Ki.of (by decide) (Nat.le_of_ble_eq_true rfl) 0 (fun Γ C Rt => ?_)
  show AW ids ad ca Γ 0 [some (.ref (ad 60)), some (.int x1)] [] σ
  refine a_aload_n C dX0_isUp_0 (i := 0) rfl rfl ?_
  refine a_get C fl_RX0_9 (i := 60) kd_60 (hid 60 (by decide)) (v := .ref (ad 61)) rfl dX0_isUp_1 ?_
  refine a_iload_n C dX0_isUp_4 (i := 1) rfl rfl ?_
  refine s_iald C (i := 61) kd_61 (hid 61 (by decide)) al_61 (by omega) (by omega) dX0_isUp_5 (fun n1 h2 => ?_)
  refine s_val (fun z3 e4 => ?_)
  refine s_if_ne C dX0_isUp_6 (tgt := 13) rfl (fun c5 => ?_) (fun c5 => ?_)
  ·
    refine s_iconst C dX0_isUp_13 (0) (by decide) (fun z6 h7 => ?_)
    exact a_iret Rt dX0_isUp_14 (nar_z (by omega)).1 (⟨rfl, (show 0 ≤ z6.toInt ∧ z6.toInt ≤ 1 by intros; omega)⟩)
  ·
    refine s_iconst C dX0_isUp_9 (1) (by decide) (fun z8 h9 => ?_)
    refine a_goto C dX0_isUp_10 (tgt := 14) rfl ?_
    exact a_iret Rt dX0_isUp_14 (nar_z (by omega)).1 (⟨rfl, (show 0 ≤ z8.toInt ∧ z8.toInt ≤ 1 by intros; omega)⟩)
set_option maxHeartbeats 4000000 in
set_option maxRecDepth 100000 in
theorem S_X0_landsNow_60 {l : Launch} {D : va_G} {ids : List Nat} {ad : Nat → Nat} {ca : Nat → ClassId} {σ : HS} {x1 : Int32} (hid : ∀ i, i < 277 → i ∈ ids) (hG : GIc σ) (hx1 : 0 ≤ x1.toInt ∧ x1.toInt ≤ 6) : Ki l D ids ad ca yX0_landsNow cX0_landsNow 2 .boolean 0 0 [.ref (ad 60), .int x1] σ (fun r σ1 => (σ1 = σ) ∧ (0 ≤ r.toInt ∧ r.toInt ≤ 1)) := by
  refine Ki.of (by decide) (Nat.le_of_ble_eq_true rfl) 0 (fun Γ C Rt => ?_)
  show AW ids ad ca Γ 0 [some (.ref (ad 60)), some (.int x1)] [] σ
  refine a_aload_n C dX0_landsNow_0 (i := 0) rfl rfl ?_
  refine a_get C fl_RX0_9 (i := 60) kd_60 (hid 60 (by decide)) (v := .ref (ad 61)) rfl dX0_landsNow_1 ?_
  refine a_iload_n C dX0_landsNow_4 (i := 1) rfl rfl ?_
  refine s_iald C (i := 61) kd_61 (hid 61 (by decide)) al_61 (by omega) (by omega) dX0_landsNow_5 (fun n1 h2 => ?_)
  refine s_val (fun z3 e4 => ?_)
  refine s_if_ne C dX0_landsNow_6 (tgt := 22) rfl (fun c5 => ?_) (fun c5 => ?_)
  ·
    refine s_iconst C dX0_landsNow_22 (0) (by decide) (fun z6 h7 => ?_)
    exact a_iret Rt dX0_landsNow_23 (nar_z (by omega)).1 (⟨rfl, (show 0 ≤ z6.toInt ∧ z6.toInt ≤ 1 by intros; omega)⟩)
  ·
    refine a_aload_n C dX0_landsNow_9 (i := 0) rfl rfl ?_
    refine a_get C fl_RX0_15 (i := 60) kd_60 (hid 60 (by decide)) (v := .ref (ad 62)) rfl dX0_landsNow_10 ?_
    refine a_iload_n C dX0_landsNow_13 (i := 1) rfl rfl ?_
    refine s_iald C (i := 62) kd_62 (hid 62 (by decide)) al_62 (by omega) (by omega) dX0_landsNow_14 (fun n8 h9 => ?_)
    refine s_val (fun z10 e11 => ?_)
    refine s_if_ne C dX0_landsNow_15 (tgt := 22) rfl (fun c12 => ?_) (fun c12 => ?_)
    ·
      refine s_iconst C dX0_landsNow_22 (0) (by decide) (fun z13 h14 => ?_)
      exact a_iret Rt dX0_landsNow_23 (nar_z (by omega)).1 (⟨rfl, (show 0 ≤ z13.toInt ∧ z13.toInt ≤ 1 by intros; omega)⟩)
    ·
      refine s_iconst C dX0_landsNow_18 (1) (by decide) (fun z15 h16 => ?_)
      refine a_goto C dX0_landsNow_19 (tgt := 23) rfl ?_
      exact a_iret Rt dX0_landsNow_23 (nar_z (by omega)).1 (⟨rfl, (show 0 ≤ z15.toInt ∧ z15.toInt ≤ 1 by intros; omega)⟩)
set_option maxHeartbeats 4000000 in
set_option maxRecDepth 100000 in
theorem S_X0_putUp_60 {l : Launch} {D : va_G} {ids : List Nat} {ad : Nat → Nat} {ca : Nat → ClassId} {σ : HS} {x1 : Int32} {x2 : Int32} (hid : ∀ i, i < 277 → i ∈ ids) (hG : GIc σ) (hx1 : 0 ≤ x1.toInt ∧ x1.toInt ≤ 6) : Kv l D ids ad ca yX0_putUp cX0_putUp 3 0 0 [.ref (ad 60), .int x1, .int x2] σ (fun σ1 => (GIc σ1) ∧ (ony [61, 62] σ σ1)) := by
  refine Kv.of (by decide) (Nat.le_of_ble_eq_true rfl) 0 (fun Γ C Rt => ?_)
  show AW ids ad ca Γ 0 [some (.ref (ad 60)), some (.int x1), some (.int x2)] [] σ
  refine a_aload_n C dX0_putUp_0 (i := 0) rfl rfl ?_
  refine a_get C fl_RX0_9 (i := 60) kd_60 (hid 60 (by decide)) (v := .ref (ad 61)) rfl dX0_putUp_1 ?_
  refine a_iload_n C dX0_putUp_4 (i := 1) rfl rfl ?_
  refine s_iconst C dX0_putUp_5 (0) (by decide) (fun z1 h2 => ?_)
  refine s_iast C (i := 61) kd_61 (hid 61 (by decide)) al_61 (by omega) (by omega) dX0_putUp_6 (fun n3 h4 => ?_)
  have hG5 := wA_61 (v := z1) (j := n3) hG
  refine a_aload_n C dX0_putUp_7 (i := 0) rfl rfl ?_
  refine a_get C fl_RX0_15 (i := 60) kd_60 (hid 60 (by decide)) (v := .ref (ad 62)) rfl dX0_putUp_8 ?_
  refine a_iload_n C dX0_putUp_11 (i := 1) rfl rfl ?_
  refine a_iload_n C dX0_putUp_12 (i := 2) rfl rfl ?_
  refine s_iast C (i := 62) kd_62 (hid 62 (by decide)) al_62 (by omega) (by omega) dX0_putUp_13 (fun n6 h7 => ?_)
  have hG8 := wA_62 (v := x2) (j := n6) hG5
  exact a_vret Rt dX0_putUp_14 (⟨hG8, (ony.I (ony.I ony.rf (by decide)) (by decide))⟩)
set_option maxHeartbeats 4000000 in
set_option maxRecDepth 100000 in
theorem S_X0_takeUp_60 {l : Launch} {D : va_G} {ids : List Nat} {ad : Nat → Nat} {ca : Nat → ClassId} {σ : HS} {x1 : Int32} (hid : ∀ i, i < 277 → i ∈ ids) (hG : GIc σ) : Kv l D ids ad ca yX0_takeUp cX0_takeUp 2 0 0 [.ref (ad 60), .int x1] σ (fun σ1 => (GIc σ1) ∧ (ony [60] σ σ1)) := by
  refine Kv.of (by decide) (Nat.le_of_ble_eq_true rfl) 0 (fun Γ C Rt => ?_)
  show AW ids ad ca Γ 0 [some (.ref (ad 60)), some (.int x1)] [] σ
  refine a_aload_n C dX0_takeUp_0 (i := 0) rfl rfl ?_
  refine a_iload_n C dX0_takeUp_1 (i := 1) rfl rfl ?_
  refine a_put C fp_RX0_21 (i := 60) kd_60 (hid 60 (by decide)) rfl rfl dX0_takeUp_2 ?_
  have hG1 := wF_60_9 (v := x1) hG
  refine a_aload_n C dX0_takeUp_5 (i := 0) rfl rfl ?_
  refine a_aload_n C dX0_takeUp_6 (i := 0) rfl rfl ?_
  refine a_get C fl_RX0_49 (i := 60) kd_60 (hid 60 (by decide)) (v := .int (σ.1 60 4)) rfl dX0_takeUp_7 ?_
  refine a_put C fp_RX0_67 (i := 60) kd_60 (hid 60 (by decide)) rfl rfl dX0_takeUp_10 ?_
  have hG2 := wF_60_10 (v := (σ.1 60 4)) hG1
  exact a_vret Rt dX0_takeUp_13 (⟨hG2, (ony.I (ony.I ony.rf (by decide)) (by decide))⟩)
set_option maxHeartbeats 4000000 in
set_option maxRecDepth 100000 in
theorem S_X0_drop_60 {l : Launch} {D : va_G} {ids : List Nat} {ad : Nat → Nat} {ca : Nat → ClassId} {σ : HS} {x1 : Int32} (hid : ∀ i, i < 277 → i ∈ ids) (hG : GIc σ) (hx1 : 0 ≤ x1.toInt ∧ x1.toInt ≤ 6) : Kv l D ids ad ca yX0_drop cX0_drop 2 0 0 [.ref (ad 60), .int x1] σ (fun σ1 => (GIc σ1) ∧ (ony [60, 61] σ σ1)) := by
  refine Kv.of (by decide) (Nat.le_of_ble_eq_true rfl) 0 (fun Γ C Rt => ?_)
  show AW ids ad ca Γ 0 [some (.ref (ad 60)), some (.int x1)] [] σ
  refine a_aload_n C dX0_drop_0 (i := 0) rfl rfl ?_
  refine a_get C fl_RX0_9 (i := 60) kd_60 (hid 60 (by decide)) (v := .ref (ad 61)) rfl dX0_drop_1 ?_
  refine a_iload_n C dX0_drop_4 (i := 1) rfl rfl ?_
  refine s_iconst C dX0_drop_5 (2) (by decide) (fun z1 h2 => ?_)
  refine s_iast C (i := 61) kd_61 (hid 61 (by decide)) al_61 (by omega) (by omega) dX0_drop_6 (fun n3 h4 => ?_)
  have hG5 := wA_61 (v := z1) (j := n3) hG
  refine a_aload_n C dX0_drop_7 (i := 0) rfl rfl ?_
  refine a_dup C dX0_drop_8 rfl ?_
  refine a_get C fl_RX0_55 (i := 60) kd_60 (hid 60 (by decide)) (v := .int (σ.1 60 6)) rfl dX0_drop_9 ?_
  refine s_iconst C dX0_drop_12 (1) (by decide) (fun z6 h7 => ?_)
  refine s_iaddU C dX0_drop_13 (fun z8 => ?_)
  refine a_put C fp_RX0_55 (i := 60) kd_60 (hid 60 (by decide)) rfl rfl dX0_drop_14 ?_
  have hG10 := wF_60_6 (v := z8) hG5
  exact a_vret Rt dX0_drop_17 (⟨hG10, (ony.I (ony.I ony.rf (by decide)) (by decide))⟩)
set_option maxHeartbeats 4000000 in
set_option maxRecDepth 100000 in
theorem S_X0_bitsOf_60 {l : Launch} {D : va_G} {ids : List Nat} {ad : Nat → Nat} {ca : Nat → ClassId} {σ : HS} {x1 : Int32} (hid : ∀ i, i < 277 → i ∈ ids) (hG : GIc σ) : Ki l D ids ad ca yX0_bitsOf cX0_bitsOf 4 .int 0 0 [.ref (ad 60), .int x1] σ (fun r σ1 => (σ1 = σ)) := by
  refine Ki.of (by decide) (Nat.le_of_ble_eq_true rfl) 2 (fun Γ C Rt => ?_)
  show AW ids ad ca Γ 0 [some (.ref (ad 60)), some (.int x1), none, none] [] σ
  have j4 : ∀ (d4 : Nat) (y4_2 : Int32) (y4_3 : Int32), 7 - y4_3.toInt < d4 → 0 ≤ y4_3.toInt ∧ y4_3.toInt ≤ 7 → AW ids ad ca Γ 4 [some (.ref (ad 60)), some (.int x1), some (.int y4_2), some (.int y4_3)] [] σ := by
    intro d4
    induction d4 with
    | zero =>
      intro y4_2 y4_3 hd4 hx4_0
      exfalso
      omega
    | succ d4 ih4 =>
      intro y4_2 y4_3 hd4 hx4_0
      have j28 : ∀ (y28_2 : Int32), 0 ≤ y4_3.toInt ∧ y4_3.toInt ≤ 6 → AW ids ad ca Γ 28 [some (.ref (ad 60)), some (.int x1), some (.int y28_2), some (.int y4_3)] [] σ := by
        intro y28_2 hx28_0
        refine s_iinc C dX0_bitsOf_28 rfl (1) (by decide) (by omega) (by decide) rfl (fun z1 h2 => ?_)
        show AW ids ad ca Γ 31 [some (.ref (ad 60)), some (.int x1), some (.int y28_2), some (.int z1)] _ _
        refine a_goto C dX0_bitsOf_31 (tgt := 4) rfl ?_
        exact ih4 y28_2 z1 (by omega) (by omega)
      refine a_iload_n C dX0_bitsOf_4 (i := 3) rfl rfl ?_
      refine a_aload_n C dX0_bitsOf_5 (i := 0) rfl rfl ?_
      have g3 := bF_60_0 hG
      refine a_get C fl_RX0_33 (i := 60) kd_60 (hid 60 (by decide)) (v := .int (σ.1 60 0)) rfl dX0_bitsOf_6 ?_
      refine s_ic_ge C dX0_bitsOf_9 (tgt := 34) rfl (fun c4 => ?_) (fun c4 => ?_)
      ·
        refine a_iload_n C dX0_bitsOf_34 (i := 2) rfl rfl ?_
        exact a_iret Rt dX0_bitsOf_35 rfl (rfl)
      ·
        refine a_aload_n C dX0_bitsOf_12 (i := 0) rfl rfl ?_
        refine a_get C fl_RX0_9 (i := 60) kd_60 (hid 60 (by decide)) (v := .ref (ad 61)) rfl dX0_bitsOf_13 ?_
        refine a_iload_n C dX0_bitsOf_16 (i := 3) rfl rfl ?_
        refine s_iald C (i := 61) kd_61 (hid 61 (by decide)) al_61 (by omega) (by omega) dX0_bitsOf_17 (fun n5 h6 => ?_)
        refine s_val (fun z7 e8 => ?_)
        refine a_iload_n C dX0_bitsOf_18 (i := 1) rfl rfl ?_
        refine s_ic_ne C dX0_bitsOf_19 (tgt := 28) rfl (fun c9 => ?_) (fun c9 => ?_)
        ·
          exact j28 y4_2 (by omega)
        ·
          refine a_iload_n C dX0_bitsOf_22 (i := 2) rfl rfl ?_
          refine s_iconst C dX0_bitsOf_23 (1) (by decide) (fun z10 h11 => ?_)
          refine a_iload_n C dX0_bitsOf_24 (i := 3) rfl rfl ?_
          refine s_ishlU C dX0_bitsOf_25 (fun z12 => ?_)
          refine s_iorU C dX0_bitsOf_26 (fun z14 => ?_)
          refine a_istore_n C dX0_bitsOf_27 (i := 2) rfl (by decide) rfl (vs1 := [some (.ref (ad 60)), some (.int x1), some (.int z14), some (.int y4_3)]) rfl ?_
          exact j28 z14 (by omega)
  refine s_iconst C dX0_bitsOf_0 (0) (by decide) (fun z16 h17 => ?_)
  refine a_istore_n C dX0_bitsOf_1 (i := 2) rfl (by decide) rfl (vs1 := [some (.ref (ad 60)), some (.int x1), some (.int z16), none]) rfl ?_
  refine s_iconst C dX0_bitsOf_2 (0) (by decide) (fun z18 h19 => ?_)
  refine a_istore_n C dX0_bitsOf_3 (i := 3) rfl (by decide) rfl (vs1 := [some (.ref (ad 60)), some (.int x1), some (.int z16), some (.int z18)]) rfl ?_
  exact j4 100000 z16 z18 (by omega) (by omega)
set_option maxHeartbeats 4000000 in
set_option maxRecDepth 100000 in
theorem S_X0_howManyUp_60 {l : Launch} {D : va_G} {ids : List Nat} {ad : Nat → Nat} {ca : Nat → ClassId} {σ : HS} (hid : ∀ i, i < 277 → i ∈ ids) (hG : GIc σ) : Ki l D ids ad ca yX0_howManyUp cX0_howManyUp 1 .int 1 23 [.ref (ad 60)] σ (fun r σ1 => (σ1 = σ)) := by
  refine Ki.of (by decide) (Nat.le_of_ble_eq_true rfl) 0 (fun Γ C Rt => ?_)
  show AW ids ad ca Γ 0 [some (.ref (ad 60))] [] σ
  refine a_aload_n C dX0_howManyUp_0 (i := 0) rfl rfl ?_
  refine s_iconst C dX0_howManyUp_1 (0) (by decide) (fun z1 h2 => ?_)
  refine a_callVi C (i := 60) kd_60 (hid 60 (by decide)) ⟨_, _, rfl⟩ (by decide) (S_X0_bitsOf_60 (x1 := z1) hid hG) mi_X0_bitsOf ml_RX0_70 rfl rfl (Nat.le_of_ble_eq_true rfl) (Nat.le_of_ble_eq_true rfl) (Nat.le_of_ble_eq_true rfl) dX0_howManyUp_2 (fun z3 σ4 q5 => ?_)
  rw [q5]
  refine a_callSi C (S_J6_bitCount_0f7a4 (x1 := z3) hid hG) ms_J6_bitCount_0f7a4 ml_RX0_74 rfl rfl (Nat.le_of_ble_eq_true rfl) (Nat.le_of_ble_eq_true rfl) (Nat.le_of_ble_eq_true rfl) dX0_howManyUp_5 (fun z6 σ7 q8 => ?_)
  rw [q8]
  exact a_iret Rt dX0_howManyUp_8 rfl (rfl)
set_option maxHeartbeats 4000000 in
set_option maxRecDepth 100000 in
theorem S_X0_firstLanding_60 {l : Launch} {D : va_G} {ids : List Nat} {ad : Nat → Nat} {ca : Nat → ClassId} {σ : HS} (hid : ∀ i, i < 277 → i ∈ ids) (hG : GIc σ) : Ki l D ids ad ca yX0_firstLanding cX0_firstLanding 2 .int 1 21 [.ref (ad 60)] σ (fun r σ1 => (σ1 = σ) ∧ (-1 ≤ r.toInt ∧ r.toInt ≤ 6)) := by
  refine Ki.of (by decide) (Nat.le_of_ble_eq_true rfl) 1 (fun Γ C Rt => ?_)
  show AW ids ad ca Γ 0 [some (.ref (ad 60)), none] [] σ
  have j2 : ∀ (d2 : Nat) (y2_1 : Int32), 7 - y2_1.toInt < d2 → 0 ≤ y2_1.toInt ∧ y2_1.toInt ≤ 7 → AW ids ad ca Γ 2 [some (.ref (ad 60)), some (.int y2_1)] [] σ := by
    intro d2
    induction d2 with
    | zero =>
      intro y2_1 hd2 hx2_0
      exfalso
      omega
    | succ d2 ih2 =>
      intro y2_1 hd2 hx2_0
      refine a_iload_n C dX0_firstLanding_2 (i := 1) rfl rfl ?_
      refine a_aload_n C dX0_firstLanding_3 (i := 0) rfl rfl ?_
      have g1 := bF_60_0 hG
      refine a_get C fl_RX0_33 (i := 60) kd_60 (hid 60 (by decide)) (v := .int (σ.1 60 0)) rfl dX0_firstLanding_4 ?_
      refine s_ic_ge C dX0_firstLanding_7 (tgt := 26) rfl (fun c2 => ?_) (fun c2 => ?_)
      ·
        refine s_iconst C dX0_firstLanding_26 (-1) (by decide) (fun z3 h4 => ?_)
        exact a_iret Rt dX0_firstLanding_27 rfl (⟨rfl, (show -1 ≤ z3.toInt ∧ z3.toInt ≤ 6 by intros; omega)⟩)
      ·
        refine a_aload_n C dX0_firstLanding_10 (i := 0) rfl rfl ?_
        refine a_iload_n C dX0_firstLanding_11 (i := 1) rfl rfl ?_
        refine a_callVi C (i := 60) kd_60 (hid 60 (by decide)) ⟨_, _, rfl⟩ (by decide) (S_X0_landsNow_60 (x1 := y2_1) hid hG (by omega)) mi_X0_landsNow ml_RX0_79 rfl rfl (Nat.le_of_ble_eq_true rfl) (Nat.le_of_ble_eq_true rfl) (Nat.le_of_ble_eq_true rfl) dX0_firstLanding_12 (fun z5 σ6 q7 => ?_)
        obtain ⟨w8, w9⟩ := q7
        rw [w8]
        refine s_if_eq C dX0_firstLanding_15 (tgt := 20) rfl (fun c10 => ?_) (fun c10 => ?_)
        ·
          refine s_iinc C dX0_firstLanding_20 rfl (1) (by decide) (by omega) (by decide) rfl (fun z11 h12 => ?_)
          show AW ids ad ca Γ 23 [some (.ref (ad 60)), some (.int z11)] _ _
          refine a_goto C dX0_firstLanding_23 (tgt := 2) rfl ?_
          exact ih2 z11 (by omega) (by omega)
        ·
          refine a_iload_n C dX0_firstLanding_18 (i := 1) rfl rfl ?_
          exact a_iret Rt dX0_firstLanding_19 rfl (⟨rfl, (show -1 ≤ y2_1.toInt ∧ y2_1.toInt ≤ 6 by intros; omega)⟩)
  refine s_iconst C dX0_firstLanding_0 (0) (by decide) (fun z13 h14 => ?_)
  refine a_istore_n C dX0_firstLanding_1 (i := 1) rfl (by decide) rfl (vs1 := [some (.ref (ad 60)), some (.int z13)]) rfl ?_
  exact j2 100000 z13 (by omega) (by omega)
set_option maxHeartbeats 4000000 in
set_option maxRecDepth 100000 in
theorem S_X0_howManyLand_60 {l : Launch} {D : va_G} {ids : List Nat} {ad : Nat → Nat} {ca : Nat → ClassId} {σ : HS} (hid : ∀ i, i < 277 → i ∈ ids) (hG : GIc σ) : Ki l D ids ad ca yX0_howManyLand cX0_howManyLand 3 .int 1 21 [.ref (ad 60)] σ (fun r σ1 => (σ1 = σ)) := by
  refine Ki.of (by decide) (Nat.le_of_ble_eq_true rfl) 2 (fun Γ C Rt => ?_)
  show AW ids ad ca Γ 0 [some (.ref (ad 60)), none, none] [] σ
  have j4 : ∀ (d4 : Nat) (y4_1 : Int32) (y4_2 : Int32), 7 - y4_2.toInt < d4 → 0 ≤ y4_2.toInt ∧ y4_2.toInt ≤ 7 → AW ids ad ca Γ 4 [some (.ref (ad 60)), some (.int y4_1), some (.int y4_2)] [] σ := by
    intro d4
    induction d4 with
    | zero =>
      intro y4_1 y4_2 hd4 hx4_0
      exfalso
      omega
    | succ d4 ih4 =>
      intro y4_1 y4_2 hd4 hx4_0
      have j23 : ∀ (y23_1 : Int32), 0 ≤ y4_2.toInt ∧ y4_2.toInt ≤ 6 → AW ids ad ca Γ 23 [some (.ref (ad 60)), some (.int y23_1), some (.int y4_2)] [] σ := by
        intro y23_1 hx23_0
        refine s_iinc C dX0_howManyLand_23 rfl (1) (by decide) (by omega) (by decide) rfl (fun z1 h2 => ?_)
        show AW ids ad ca Γ 26 [some (.ref (ad 60)), some (.int y23_1), some (.int z1)] _ _
        refine a_goto C dX0_howManyLand_26 (tgt := 4) rfl ?_
        exact ih4 y23_1 z1 (by omega) (by omega)
      refine a_iload_n C dX0_howManyLand_4 (i := 2) rfl rfl ?_
      refine a_aload_n C dX0_howManyLand_5 (i := 0) rfl rfl ?_
      have g3 := bF_60_0 hG
      refine a_get C fl_RX0_33 (i := 60) kd_60 (hid 60 (by decide)) (v := .int (σ.1 60 0)) rfl dX0_howManyLand_6 ?_
      refine s_ic_ge C dX0_howManyLand_9 (tgt := 29) rfl (fun c4 => ?_) (fun c4 => ?_)
      ·
        refine a_iload_n C dX0_howManyLand_29 (i := 1) rfl rfl ?_
        exact a_iret Rt dX0_howManyLand_30 rfl (rfl)
      ·
        refine a_aload_n C dX0_howManyLand_12 (i := 0) rfl rfl ?_
        refine a_iload_n C dX0_howManyLand_13 (i := 2) rfl rfl ?_
        refine a_callVi C (i := 60) kd_60 (hid 60 (by decide)) ⟨_, _, rfl⟩ (by decide) (S_X0_landsNow_60 (x1 := y4_2) hid hG (by omega)) mi_X0_landsNow ml_RX0_79 rfl rfl (Nat.le_of_ble_eq_true rfl) (Nat.le_of_ble_eq_true rfl) (Nat.le_of_ble_eq_true rfl) dX0_howManyLand_14 (fun z5 σ6 q7 => ?_)
        obtain ⟨w8, w9⟩ := q7
        rw [w8]
        refine s_if_eq C dX0_howManyLand_17 (tgt := 23) rfl (fun c10 => ?_) (fun c10 => ?_)
        ·
          exact j23 y4_1 (by omega)
        ·
          refine s_iincU C dX0_howManyLand_20 rfl (by decide) rfl (fun z11 => ?_)
          show AW ids ad ca Γ 23 [some (.ref (ad 60)), some (.int z11), some (.int y4_2)] _ _
          exact j23 z11 (by omega)
  refine s_iconst C dX0_howManyLand_0 (0) (by decide) (fun z13 h14 => ?_)
  refine a_istore_n C dX0_howManyLand_1 (i := 1) rfl (by decide) rfl (vs1 := [some (.ref (ad 60)), some (.int z13), none]) rfl ?_
  refine s_iconst C dX0_howManyLand_2 (0) (by decide) (fun z15 h16 => ?_)
  refine a_istore_n C dX0_howManyLand_3 (i := 2) rfl (by decide) rfl (vs1 := [some (.ref (ad 60)), some (.int z13), some (.int z15)]) rfl ?_
  exact j4 100000 z13 z15 (by omega) (by omega)
set_option maxHeartbeats 4000000 in
set_option maxRecDepth 100000 in
theorem S_X0_landingBits_60 {l : Launch} {D : va_G} {ids : List Nat} {ad : Nat → Nat} {ca : Nat → ClassId} {σ : HS} (hid : ∀ i, i < 277 → i ∈ ids) (hG : GIc σ) : Ki l D ids ad ca yX0_landingBits cX0_landingBits 3 .int 1 21 [.ref (ad 60)] σ (fun r σ1 => (σ1 = σ)) := by
  refine Ki.of (by decide) (Nat.le_of_ble_eq_true rfl) 2 (fun Γ C Rt => ?_)
  show AW ids ad ca Γ 0 [some (.ref (ad 60)), none, none] [] σ
  have j4 : ∀ (d4 : Nat) (y4_1 : Int32) (y4_2 : Int32), 7 - y4_2.toInt < d4 → 0 ≤ y4_2.toInt ∧ y4_2.toInt ≤ 7 → AW ids ad ca Γ 4 [some (.ref (ad 60)), some (.int y4_1), some (.int y4_2)] [] σ := by
    intro d4
    induction d4 with
    | zero =>
      intro y4_1 y4_2 hd4 hx4_0
      exfalso
      omega
    | succ d4 ih4 =>
      intro y4_1 y4_2 hd4 hx4_0
      have j31 : ∀ (y31_1 : Int32), 0 ≤ y4_2.toInt ∧ y4_2.toInt ≤ 6 → AW ids ad ca Γ 31 [some (.ref (ad 60)), some (.int y31_1), some (.int y4_2)] [] σ := by
        intro y31_1 hx31_0
        refine s_iinc C dX0_landingBits_31 rfl (1) (by decide) (by omega) (by decide) rfl (fun z1 h2 => ?_)
        show AW ids ad ca Γ 34 [some (.ref (ad 60)), some (.int y31_1), some (.int z1)] _ _
        refine a_goto C dX0_landingBits_34 (tgt := 4) rfl ?_
        exact ih4 y31_1 z1 (by omega) (by omega)
      refine a_iload_n C dX0_landingBits_4 (i := 2) rfl rfl ?_
      refine a_aload_n C dX0_landingBits_5 (i := 0) rfl rfl ?_
      have g3 := bF_60_0 hG
      refine a_get C fl_RX0_33 (i := 60) kd_60 (hid 60 (by decide)) (v := .int (σ.1 60 0)) rfl dX0_landingBits_6 ?_
      refine s_ic_ge C dX0_landingBits_9 (tgt := 37) rfl (fun c4 => ?_) (fun c4 => ?_)
      ·
        refine a_iload_n C dX0_landingBits_37 (i := 1) rfl rfl ?_
        exact a_iret Rt dX0_landingBits_38 rfl (rfl)
      ·
        refine a_aload_n C dX0_landingBits_12 (i := 0) rfl rfl ?_
        refine a_iload_n C dX0_landingBits_13 (i := 2) rfl rfl ?_
        refine a_callVi C (i := 60) kd_60 (hid 60 (by decide)) ⟨_, _, rfl⟩ (by decide) (S_X0_isUp_60 (x1 := y4_2) hid hG (by omega)) mi_X0_isUp ml_RX0_83 rfl rfl (Nat.le_of_ble_eq_true rfl) (Nat.le_of_ble_eq_true rfl) (Nat.le_of_ble_eq_true rfl) dX0_landingBits_14 (fun z5 σ6 q7 => ?_)
        obtain ⟨w8, w9⟩ := q7
        rw [w8]
        refine s_if_eq C dX0_landingBits_17 (tgt := 31) rfl (fun c10 => ?_) (fun c10 => ?_)
        ·
          exact j31 y4_1 (by omega)
        ·
          refine a_iload_n C dX0_landingBits_20 (i := 1) rfl rfl ?_
          refine s_iconst C dX0_landingBits_21 (1) (by decide) (fun z11 h12 => ?_)
          refine a_aload_n C dX0_landingBits_22 (i := 0) rfl rfl ?_
          refine a_get C fl_RX0_15 (i := 60) kd_60 (hid 60 (by decide)) (v := .ref (ad 62)) rfl dX0_landingBits_23 ?_
          refine a_iload_n C dX0_landingBits_26 (i := 2) rfl rfl ?_
          refine s_iald C (i := 62) kd_62 (hid 62 (by decide)) al_62 (by omega) (by omega) dX0_landingBits_27 (fun n13 h14 => ?_)
          refine s_val (fun z15 e16 => ?_)
          refine s_ishlU C dX0_landingBits_28 (fun z17 => ?_)
          refine s_iorU C dX0_landingBits_29 (fun z19 => ?_)
          refine a_istore_n C dX0_landingBits_30 (i := 1) rfl (by decide) rfl (vs1 := [some (.ref (ad 60)), some (.int z19), some (.int y4_2)]) rfl ?_
          exact j31 z19 (by omega)
  refine s_iconst C dX0_landingBits_0 (0) (by decide) (fun z21 h22 => ?_)
  refine a_istore_n C dX0_landingBits_1 (i := 1) rfl (by decide) rfl (vs1 := [some (.ref (ad 60)), some (.int z21), none]) rfl ?_
  refine s_iconst C dX0_landingBits_2 (0) (by decide) (fun z23 h24 => ?_)
  refine a_istore_n C dX0_landingBits_3 (i := 2) rfl (by decide) rfl (vs1 := [some (.ref (ad 60)), some (.int z21), some (.int z23)]) rfl ?_
  exact j4 100000 z21 z23 (by omega) (by omega)
set_option maxHeartbeats 4000000 in
set_option maxRecDepth 100000 in
theorem S_X0_twoLandAlike_60 {l : Launch} {D : va_G} {ids : List Nat} {ad : Nat → Nat} {ca : Nat → ClassId} {σ : HS} (hid : ∀ i, i < 277 → i ∈ ids) (hG : GIc σ) : Ki l D ids ad ca yX0_twoLandAlike cX0_twoLandAlike 1 .boolean 2 43 [.ref (ad 60)] σ (fun r σ1 => (σ1 = σ) ∧ (0 ≤ r.toInt ∧ r.toInt ≤ 1)) := by
  refine Ki.of (by decide) (Nat.le_of_ble_eq_true rfl) 0 (fun Γ C Rt => ?_)
  show AW ids ad ca Γ 0 [some (.ref (ad 60))] [] σ
  refine a_aload_n C dX0_twoLandAlike_0 (i := 0) rfl rfl ?_
  refine a_callVi C (i := 60) kd_60 (hid 60 (by decide)) ⟨_, _, rfl⟩ (by decide) (S_X0_landingBits_60 hid hG) mi_X0_landingBits ml_RX0_86 rfl rfl (Nat.le_of_ble_eq_true rfl) (Nat.le_of_ble_eq_true rfl) (Nat.le_of_ble_eq_true rfl) dX0_twoLandAlike_1 (fun z1 σ2 q3 => ?_)
  rw [q3]
  refine a_callSi C (S_J6_bitCount_0f7a4 (x1 := z1) hid hG) ms_J6_bitCount_0f7a4 ml_RX0_74 rfl rfl (Nat.le_of_ble_eq_true rfl) (Nat.le_of_ble_eq_true rfl) (Nat.le_of_ble_eq_true rfl) dX0_twoLandAlike_4 (fun z4 σ5 q6 => ?_)
  rw [q6]
  refine a_aload_n C dX0_twoLandAlike_7 (i := 0) rfl rfl ?_
  refine a_callVi C (i := 60) kd_60 (hid 60 (by decide)) ⟨_, _, rfl⟩ (by decide) (S_X0_howManyUp_60 hid hG) mi_X0_howManyUp ml_RX0_90 rfl rfl (Nat.le_of_ble_eq_true rfl) (Nat.le_of_ble_eq_true rfl) (Nat.le_of_ble_eq_true rfl) dX0_twoLandAlike_8 (fun z7 σ8 q9 => ?_)
  rw [q9]
  refine s_ic_ge C dX0_twoLandAlike_11 (tgt := 18) rfl (fun c10 => ?_) (fun c10 => ?_)
  ·
    refine s_iconst C dX0_twoLandAlike_18 (0) (by decide) (fun z11 h12 => ?_)
    exact a_iret Rt dX0_twoLandAlike_19 (nar_z (by omega)).1 (⟨rfl, (show 0 ≤ z11.toInt ∧ z11.toInt ≤ 1 by intros; omega)⟩)
  ·
    refine s_iconst C dX0_twoLandAlike_14 (1) (by decide) (fun z13 h14 => ?_)
    refine a_goto C dX0_twoLandAlike_15 (tgt := 19) rfl ?_
    exact a_iret Rt dX0_twoLandAlike_19 (nar_z (by omega)).1 (⟨rfl, (show 0 ≤ z13.toInt ∧ z13.toInt ≤ 1 by intros; omega)⟩)
theorem dX10_hasThing_12 : decode cX10_hasThing 12 = .ok (.iconst 1, 1) := by decide +kernel
theorem dX10_hasThing_13 : decode cX10_hasThing 13 = .ok (.goto 4, 3) := by decide +kernel
set_option maxHeartbeats 4000000 in
set_option maxRecDepth 100000 in
theorem S_X10_hasThing_30 {l : Launch} {D : va_G} {ids : List Nat} {ad : Nat → Nat} {ca : Nat → ClassId} {σ : HS} {x1 : Int32} (hid : ∀ i, i < 277 → i ∈ ids) (hG : GIc σ) : Ki l D ids ad ca yX10_hasThing cX10_hasThing 2 .boolean 0 0 [.ref (ad 30), .int x1] σ (fun r σ1 => (σ1 = σ) ∧ (0 ≤ r.toInt ∧ r.toInt ≤ 1) ∧ (r.toInt = 1 → 0 ≤ x1.toInt ∧ x1.toInt ≤ 6 ∧ x1.toInt < (σ.1 30 0).toInt)) := by
  refine Ki.of (by decide) (Nat.le_of_ble_eq_true rfl) 0 (fun Γ C Rt => ?_)
  show AW ids ad ca Γ 0 [some (.ref (ad 30)), some (.int x1)] [] σ
  refine a_iload_n C dX10_hasThing_0 (i := 1) rfl rfl ?_
  refine s_if_lt C dX10_hasThing_1 (tgt := 16) rfl (fun c1 => ?_) (fun c1 => ?_)
  ·
    refine s_iconst C dX10_hasThing_16 (0) (by decide) (fun z2 h3 => ?_)
    exact a_iret Rt dX10_hasThing_17 (nar_z (by omega)).1 (⟨rfl, (show 0 ≤ z2.toInt ∧ z2.toInt ≤ 1 by intros; omega), (show z2.toInt = 1 → 0 ≤ x1.toInt ∧ x1.toInt ≤ 6 ∧ x1.toInt < (σ.1 30 0).toInt by intros; omega)⟩)
  ·
    refine a_iload_n C dX10_hasThing_4 (i := 1) rfl rfl ?_
    refine a_aload_n C dX10_hasThing_5 (i := 0) rfl rfl ?_
    have g4 := bF_30_0 hG
    refine a_get C fl_RX10_38 (i := 30) kd_30 (hid 30 (by decide)) (v := .int (σ.1 30 0)) rfl dX10_hasThing_6 ?_
    refine s_ic_ge C dX10_hasThing_9 (tgt := 16) rfl (fun c5 => ?_) (fun c5 => ?_)
    ·
      refine s_iconst C dX10_hasThing_16 (0) (by decide) (fun z6 h7 => ?_)
      exact a_iret Rt dX10_hasThing_17 (nar_z (by omega)).1 (⟨rfl, (show 0 ≤ z6.toInt ∧ z6.toInt ≤ 1 by intros; omega), (show z6.toInt = 1 → 0 ≤ x1.toInt ∧ x1.toInt ≤ 6 ∧ x1.toInt < (σ.1 30 0).toInt by intros; omega)⟩)
    ·
      refine s_iconst C dX10_hasThing_12 (1) (by decide) (fun z8 h9 => ?_)
      refine a_goto C dX10_hasThing_13 (tgt := 17) rfl ?_
      exact a_iret Rt dX10_hasThing_17 (nar_z (by omega)).1 (⟨rfl, (show 0 ≤ z8.toInt ∧ z8.toInt ≤ 1 by intros; omega), (show z8.toInt = 1 → 0 ≤ x1.toInt ∧ x1.toInt ≤ 6 ∧ x1.toInt < (σ.1 30 0).toInt by intros; omega)⟩)
theorem dX10_hasPattern_12 : decode cX10_hasPattern 12 = .ok (.iconst 1, 1) := by decide +kernel
theorem dX10_hasPattern_13 : decode cX10_hasPattern 13 = .ok (.goto 4, 3) := by decide +kernel
set_option maxHeartbeats 4000000 in
set_option maxRecDepth 100000 in
theorem S_X10_hasPattern_30 {l : Launch} {D : va_G} {ids : List Nat} {ad : Nat → Nat} {ca : Nat → ClassId} {σ : HS} {x1 : Int32} (hid : ∀ i, i < 277 → i ∈ ids) (hG : GIc σ) : Ki l D ids ad ca yX10_hasPattern cX10_hasPattern 2 .boolean 0 0 [.ref (ad 30), .int x1] σ (fun r σ1 => (σ1 = σ) ∧ (0 ≤ r.toInt ∧ r.toInt ≤ 1) ∧ (r.toInt = 1 → 0 ≤ x1.toInt ∧ x1.toInt ≤ 4 ∧ x1.toInt < (σ.1 30 4).toInt)) := by
  refine Ki.of (by decide) (Nat.le_of_ble_eq_true rfl) 0 (fun Γ C Rt => ?_)
  show AW ids ad ca Γ 0 [some (.ref (ad 30)), some (.int x1)] [] σ
  refine a_iload_n C dX10_hasPattern_0 (i := 1) rfl rfl ?_
  refine s_if_lt C dX10_hasPattern_1 (tgt := 16) rfl (fun c1 => ?_) (fun c1 => ?_)
  ·
    refine s_iconst C dX10_hasPattern_16 (0) (by decide) (fun z2 h3 => ?_)
    exact a_iret Rt dX10_hasPattern_17 (nar_z (by omega)).1 (⟨rfl, (show 0 ≤ z2.toInt ∧ z2.toInt ≤ 1 by intros; omega), (show z2.toInt = 1 → 0 ≤ x1.toInt ∧ x1.toInt ≤ 4 ∧ x1.toInt < (σ.1 30 4).toInt by intros; omega)⟩)
  ·
    refine a_iload_n C dX10_hasPattern_4 (i := 1) rfl rfl ?_
    refine a_aload_n C dX10_hasPattern_5 (i := 0) rfl rfl ?_
    have g4 := bF_30_4 hG
    refine a_get C fl_RX10_42 (i := 30) kd_30 (hid 30 (by decide)) (v := .int (σ.1 30 4)) rfl dX10_hasPattern_6 ?_
    refine s_ic_ge C dX10_hasPattern_9 (tgt := 16) rfl (fun c5 => ?_) (fun c5 => ?_)
    ·
      refine s_iconst C dX10_hasPattern_16 (0) (by decide) (fun z6 h7 => ?_)
      exact a_iret Rt dX10_hasPattern_17 (nar_z (by omega)).1 (⟨rfl, (show 0 ≤ z6.toInt ∧ z6.toInt ≤ 1 by intros; omega), (show z6.toInt = 1 → 0 ≤ x1.toInt ∧ x1.toInt ≤ 4 ∧ x1.toInt < (σ.1 30 4).toInt by intros; omega)⟩)
    ·
      refine s_iconst C dX10_hasPattern_12 (1) (by decide) (fun z8 h9 => ?_)
      refine a_goto C dX10_hasPattern_13 (tgt := 17) rfl ?_
      exact a_iret Rt dX10_hasPattern_17 (nar_z (by omega)).1 (⟨rfl, (show 0 ≤ z8.toInt ∧ z8.toInt ≤ 1 by intros; omega), (show z8.toInt = 1 → 0 ≤ x1.toInt ∧ x1.toInt ≤ 4 ∧ x1.toInt < (σ.1 30 4).toInt by intros; omega)⟩)
set_option maxHeartbeats 4000000 in
set_option maxRecDepth 100000 in
theorem S_X10_emit_30 {l : Launch} {D : va_G} {ids : List Nat} {ad : Nat → Nat} {ca : Nat → ClassId} {σ : HS} {x1 : Int32} (hid : ∀ i, i < 277 → i ∈ ids) (hG : GIc σ) : Kv l D ids ad ca yX10_emit cX10_emit 2 0 0 [.ref (ad 30), .int x1] σ (fun σ1 => (GIc σ1) ∧ (ony [30, 41] σ σ1)) := by
  refine Kv.of (by decide) (Nat.le_of_ble_eq_true rfl) 0 (fun Γ C Rt => ?_)
  show AW ids ad ca Γ 0 [some (.ref (ad 30)), some (.int x1)] [] σ
  refine a_aload_n C dX10_emit_0 (i := 0) rfl rfl ?_
  have g1 := bF_30_8 hG
  refine a_get C fl_RX10_51 (i := 30) kd_30 (hid 30 (by decide)) (v := .int (σ.1 30 8)) rfl dX10_emit_1 ?_
  refine a_aload_n C dX10_emit_4 (i := 0) rfl rfl ?_
  refine a_get C fl_RX10_29 (i := 30) kd_30 (hid 30 (by decide)) (v := .ref (ad 41)) rfl dX10_emit_5 ?_
  refine s_alen C (by rw [kd_41]; decide) (hid 41 (by decide)) al_41 (by decide) dX10_emit_8 (fun z2 h3 => ?_)
  refine s_ic_ge C dX10_emit_9 (tgt := 32) rfl (fun c4 => ?_) (fun c4 => ?_)
  ·
    exact a_vret Rt dX10_emit_32 (⟨hG, ony.rf⟩)
  ·
    refine a_aload_n C dX10_emit_12 (i := 0) rfl rfl ?_
    refine a_get C fl_RX10_29 (i := 30) kd_30 (hid 30 (by decide)) (v := .ref (ad 41)) rfl dX10_emit_13 ?_
    refine a_aload_n C dX10_emit_16 (i := 0) rfl rfl ?_
    have g5 := bF_30_8 hG
    refine a_get C fl_RX10_51 (i := 30) kd_30 (hid 30 (by decide)) (v := .int (σ.1 30 8)) rfl dX10_emit_17 ?_
    refine a_iload_n C dX10_emit_20 (i := 1) rfl rfl ?_
    refine s_iast C (i := 41) kd_41 (hid 41 (by decide)) al_41 (by omega) (by omega) dX10_emit_21 (fun n6 h7 => ?_)
    have hG8 := wA_41 (v := x1) (j := n6) hG
    refine a_aload_n C dX10_emit_22 (i := 0) rfl rfl ?_
    refine a_dup C dX10_emit_23 rfl ?_
    have g9 := bF_30_8 hG
    refine a_get C fl_RX10_51 (i := 30) kd_30 (hid 30 (by decide)) (v := .int (σ.1 30 8)) rfl dX10_emit_24 ?_
    refine s_iconst C dX10_emit_27 (1) (by decide) (fun z10 h11 => ?_)
    refine s_iadd C dX10_emit_28 (by omega) (fun z12 h13 => ?_)
    refine a_put C fp_RX10_51 (i := 30) kd_30 (hid 30 (by decide)) rfl rfl dX10_emit_29 ?_
    have hG14 := wF_30_8 (v := z12) hG8 (by omega) (by omega)
    exact a_vret Rt dX10_emit_32 (⟨hG14, (ony.I (ony.I ony.rf (by decide)) (by decide))⟩)
