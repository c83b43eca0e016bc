theorem dX10_hasThing_0 : decode cX10_hasThing 0 = .ok (.iload_n 1, 1) := by decide +kernel
theorem dX10_hasThing_1 : decode cX10_hasThing 1 = .ok (.ifCond .lt 15, 3) := by decide +kernel
theorem dX10_hasThing_4 : decode cX10_hasThing 4 = .ok (.iload_n 1, 1) := by decide +kernel
theorem dX10_hasThing_5 : decode cX10_hasThing 5 = .ok (.aload_n 0, 1) := by decide +kernel
theorem dX10_hasThing_6 : decode cX10_hasThing 6 = .ok (.getfield 38, 3) := by decide +kernel
theorem dX10_hasThing_9 : decode cX10_hasThing 9 = .ok (.if_icmp .ge 7, 3) := by decide +kernel
theorem dX10_hasThing_16 : decode cX10_hasThing 16 = .ok (.iconst 0, 1) := by decide +kernel
theorem dX10_hasThing_17 : decode cX10_hasThing 17 = .ok (.ireturn, 1) := by decide +kernel
set_option maxHeartbeats 4000000 in
set_option maxRecDepth 100000 in
theorem k_hasThing {l : Launch} {D : va_G} {ids : List Nat} {ad : Nat → Nat} {ca : Nat → ClassId} {σ : HS} {p0 : Int32} (hid : ∀ i, i < 277 → i ∈ ids) (h_30_0 : σ.1 30 0 = 0) : Ki l D ids ad ca yX10_hasThing cX10_hasThing 2 .boolean 0 0 [.ref (ad 30), .int p0] σ (fun r σ1 => r = 0 ∧ σ1 = σ) := by
  refine Ki.of (by decide) (Nat.le_of_ble_eq_true rfl) 0 (fun Γ C Rt => ?_)
  show AW ids ad ca Γ 0 [some (.ref (ad 30)), some (.int p0)] [] σ
  refine a_iload_n C dX10_hasThing_0 (i := 1) rfl rfl ?_
  refine a_if_lt C dX10_hasThing_1 (tgt := 16) rfl (fun c1 => ?_) (fun c1 => ?_)
  ·
    refine a_iconst C dX10_hasThing_16 (v := 0) rfl ?_
    exact a_iret Rt dX10_hasThing_17 rfl (⟨rfl, rfl⟩)
  ·
    refine a_iload_n C dX10_hasThing_4 (i := 1) rfl rfl ?_
    refine a_aload_n C dX10_hasThing_5 (i := 0) rfl rfl ?_
    refine a_get C fl_RX10_38 (i := 30) kd_30 (hid 30 (by decide)) (v := .int 0) (congrArg (fun z => some (Value.int z)) h_30_0) dX10_hasThing_6 ?_
    refine a_ic_ge C dX10_hasThing_9 (tgt := 16) rfl (fun c2 => ?_) (fun c2 => absurd c2 (fun q => q (i32_nlt c1)))
    refine a_iconst C dX10_hasThing_16 (v := 0) rfl ?_
    exact a_iret Rt dX10_hasThing_17 rfl (⟨rfl, rfl⟩)
theorem dX10_hasPattern_0 : decode cX10_hasPattern 0 = .ok (.iload_n 1, 1) := by decide +kernel
theorem dX10_hasPattern_1 : decode cX10_hasPattern 1 = .ok (.ifCond .lt 15, 3) := by decide +kernel
theorem dX10_hasPattern_4 : decode cX10_hasPattern 4 = .ok (.iload_n 1, 1) := by decide +kernel
theorem dX10_hasPattern_5 : decode cX10_hasPattern 5 = .ok (.aload_n 0, 1) := by decide +kernel
theorem dX10_hasPattern_6 : decode cX10_hasPattern 6 = .ok (.getfield 42, 3) := by decide +kernel
theorem dX10_hasPattern_9 : decode cX10_hasPattern 9 = .ok (.if_icmp .ge 7, 3) := by decide +kernel
theorem dX10_hasPattern_16 : decode cX10_hasPattern 16 = .ok (.iconst 0, 1) := by decide +kernel
theorem dX10_hasPattern_17 : decode cX10_hasPattern 17 = .ok (.ireturn, 1) := by decide +kernel
set_option maxHeartbeats 4000000 in
set_option maxRecDepth 100000 in
theorem k_hasPattern {l : Launch} {D : va_G} {ids : List Nat} {ad : Nat → Nat} {ca : Nat → ClassId} {σ : HS} {p0 : Int32} (hid : ∀ i, i < 277 → i ∈ ids) (h_30_4 : σ.1 30 4 = 0) : Ki l D ids ad ca yX10_hasPattern cX10_hasPattern 2 .boolean 0 0 [.ref (ad 30), .int p0] σ (fun r σ1 => r = 0 ∧ σ1 = σ) := by
  refine Ki.of (by decide) (Nat.le_of_ble_eq_true rfl) 0 (fun Γ C Rt => ?_)
  show AW ids ad ca Γ 0 [some (.ref (ad 30)), some (.int p0)] [] σ
  refine a_iload_n C dX10_hasPattern_0 (i := 1) rfl rfl ?_
  refine a_if_lt C dX10_hasPattern_1 (tgt := 16) rfl (fun c1 => ?_) (fun c1 => ?_)
  ·
    refine a_iconst C dX10_hasPattern_16 (v := 0) rfl ?_
    exact a_iret Rt dX10_hasPattern_17 rfl (⟨rfl, rfl⟩)
  ·
    refine a_iload_n C dX10_hasPattern_4 (i := 1) rfl rfl ?_
    refine a_aload_n C dX10_hasPattern_5 (i := 0) rfl rfl ?_
    refine a_get C fl_RX10_42 (i := 30) kd_30 (hid 30 (by decide)) (v := .int 0) (congrArg (fun z => some (Value.int z)) h_30_4) dX10_hasPattern_6 ?_
    refine a_ic_ge C dX10_hasPattern_9 (tgt := 16) rfl (fun c2 => ?_) (fun c2 => absurd c2 (fun q => q (i32_nlt c1)))
    refine a_iconst C dX10_hasPattern_16 (v := 0) rfl ?_
    exact a_iret Rt dX10_hasPattern_17 rfl (⟨rfl, rfl⟩)
theorem dJ6_bitCount_0f7a4_0 : decode cJ6_bitCount_0f7a4 0 = .ok (.iload_n 0, 1) := by decide +kernel
theorem dJ6_bitCount_0f7a4_1 : decode cJ6_bitCount_0f7a4 1 = .ok (.iload_n 0, 1) := by decide +kernel
theorem dJ6_bitCount_0f7a4_2 : decode cJ6_bitCount_0f7a4 2 = .ok (.iconst 1, 1) := by decide +kernel
theorem dJ6_bitCount_0f7a4_3 : decode cJ6_bitCount_0f7a4 3 = .ok (.iushr, 1) := by decide +kernel
theorem dJ6_bitCount_0f7a4_4 : decode cJ6_bitCount_0f7a4 4 = .ok (.ldc_w 265, 3) := by decide +kernel
theorem dJ6_bitCount_0f7a4_7 : decode cJ6_bitCount_0f7a4 7 = .ok (.iand, 1) := by decide +kernel
theorem dJ6_bitCount_0f7a4_8 : decode cJ6_bitCount_0f7a4 8 = .ok (.isub, 1) := by decide +kernel
theorem dJ6_bitCount_0f7a4_9 : decode cJ6_bitCount_0f7a4 9 = .ok (.istore_n 0, 1) := by decide +kernel
theorem dJ6_bitCount_0f7a4_10 : decode cJ6_bitCount_0f7a4 10 = .ok (.iload_n 0, 1) := by decide +kernel
theorem dJ6_bitCount_0f7a4_11 : decode cJ6_bitCount_0f7a4 11 = .ok (.ldc_w 266, 3) := by decide +kernel
theorem dJ6_bitCount_0f7a4_14 : decode cJ6_bitCount_0f7a4 14 = .ok (.iand, 1) := by decide +kernel
theorem dJ6_bitCount_0f7a4_15 : decode cJ6_bitCount_0f7a4 15 = .ok (.iload_n 0, 1) := by decide +kernel
theorem dJ6_bitCount_0f7a4_16 : decode cJ6_bitCount_0f7a4 16 = .ok (.iconst 2, 1) := by decide +kernel
theorem dJ6_bitCount_0f7a4_17 : decode cJ6_bitCount_0f7a4 17 = .ok (.iushr, 1) := by decide +kernel
theorem dJ6_bitCount_0f7a4_18 : decode cJ6_bitCount_0f7a4 18 = .ok (.ldc_w 266, 3) := by decide +kernel
theorem dJ6_bitCount_0f7a4_21 : decode cJ6_bitCount_0f7a4 21 = .ok (.iand, 1) := by decide +kernel
theorem dJ6_bitCount_0f7a4_22 : decode cJ6_bitCount_0f7a4 22 = .ok (.iadd, 1) := by decide +kernel
theorem dJ6_bitCount_0f7a4_23 : decode cJ6_bitCount_0f7a4 23 = .ok (.istore_n 0, 1) := by decide +kernel
theorem dJ6_bitCount_0f7a4_24 : decode cJ6_bitCount_0f7a4 24 = .ok (.iload_n 0, 1) := by decide +kernel
theorem dJ6_bitCount_0f7a4_25 : decode cJ6_bitCount_0f7a4 25 = .ok (.iload_n 0, 1) := by decide +kernel
theorem dJ6_bitCount_0f7a4_26 : decode cJ6_bitCount_0f7a4 26 = .ok (.iconst 4, 1) := by decide +kernel
theorem dJ6_bitCount_0f7a4_27 : decode cJ6_bitCount_0f7a4 27 = .ok (.iushr, 1) := by decide +kernel
theorem dJ6_bitCount_0f7a4_28 : decode cJ6_bitCount_0f7a4 28 = .ok (.iadd, 1) := by decide +kernel
theorem dJ6_bitCount_0f7a4_29 : decode cJ6_bitCount_0f7a4 29 = .ok (.ldc_w 267, 3) := by decide +kernel
theorem dJ6_bitCount_0f7a4_32 : decode cJ6_bitCount_0f7a4 32 = .ok (.iand, 1) := by decide +kernel
theorem dJ6_bitCount_0f7a4_33 : decode cJ6_bitCount_0f7a4 33 = .ok (.istore_n 0, 1) := by decide +kernel
theorem dJ6_bitCount_0f7a4_34 : decode cJ6_bitCount_0f7a4 34 = .ok (.iload_n 0, 1) := by decide +kernel
theorem dJ6_bitCount_0f7a4_35 : decode cJ6_bitCount_0f7a4 35 = .ok (.iload_n 0, 1) := by decide +kernel
theorem dJ6_bitCount_0f7a4_36 : decode cJ6_bitCount_0f7a4 36 = .ok (.bipush 8, 2) := by decide +kernel
theorem dJ6_bitCount_0f7a4_38 : decode cJ6_bitCount_0f7a4 38 = .ok (.iushr, 1) := by decide +kernel
theorem dJ6_bitCount_0f7a4_39 : decode cJ6_bitCount_0f7a4 39 = .ok (.iadd, 1) := by decide +kernel
theorem dJ6_bitCount_0f7a4_40 : decode cJ6_bitCount_0f7a4 40 = .ok (.istore_n 0, 1) := by decide +kernel
theorem dJ6_bitCount_0f7a4_41 : decode cJ6_bitCount_0f7a4 41 = .ok (.iload_n 0, 1) := by decide +kernel
theorem dJ6_bitCount_0f7a4_42 : decode cJ6_bitCount_0f7a4 42 = .ok (.iload_n 0, 1) := by decide +kernel
theorem dJ6_bitCount_0f7a4_43 : decode cJ6_bitCount_0f7a4 43 = .ok (.bipush 16, 2) := by decide +kernel
theorem dJ6_bitCount_0f7a4_45 : decode cJ6_bitCount_0f7a4 45 = .ok (.iushr, 1) := by decide +kernel
theorem dJ6_bitCount_0f7a4_46 : decode cJ6_bitCount_0f7a4 46 = .ok (.iadd, 1) := by decide +kernel
theorem dJ6_bitCount_0f7a4_47 : decode cJ6_bitCount_0f7a4 47 = .ok (.istore_n 0, 1) := by decide +kernel
theorem dJ6_bitCount_0f7a4_48 : decode cJ6_bitCount_0f7a4 48 = .ok (.iload_n 0, 1) := by decide +kernel
theorem dJ6_bitCount_0f7a4_49 : decode cJ6_bitCount_0f7a4 49 = .ok (.bipush 63, 2) := by decide +kernel
theorem dJ6_bitCount_0f7a4_51 : decode cJ6_bitCount_0f7a4 51 = .ok (.iand, 1) := by decide +kernel
theorem dJ6_bitCount_0f7a4_52 : decode cJ6_bitCount_0f7a4 52 = .ok (.ireturn, 1) := by decide +kernel
set_option maxHeartbeats 4000000 in
set_option maxRecDepth 100000 in
theorem k_bitCount {l : Launch} {D : va_G} {ids : List Nat} {ad : Nat → Nat} {ca : Nat → ClassId} {σ : HS} (hid : ∀ i, i < 277 → i ∈ ids) : Ki l D ids ad ca yJ6_bitCount_0f7a4 cJ6_bitCount_0f7a4 1 .int 0 0 [.int 0] σ (fun r σ1 => r = 0 ∧ σ1 = σ) := by
  refine Ki.of (by decide) (Nat.le_of_ble_eq_true rfl) 0 (fun Γ C Rt => ?_)
  show AW ids ad ca Γ 0 [some (.int 0)] [] σ
  refine a_iload_n C dJ6_bitCount_0f7a4_0 (i := 0) rfl rfl ?_
  refine a_iload_n C dJ6_bitCount_0f7a4_1 (i := 0) rfl rfl ?_
  refine a_iconst C dJ6_bitCount_0f7a4_2 (v := 1) rfl ?_
  refine a_iushr C dJ6_bitCount_0f7a4_3 ?_
  refine a_ldcw C dJ6_bitCount_0f7a4_4 ko_RJ6_265 ?_
  refine a_iand C dJ6_bitCount_0f7a4_7 ?_
  refine a_isub C dJ6_bitCount_0f7a4_8 ?_
  refine a_istore_n C dJ6_bitCount_0f7a4_9 (i := 0) rfl (by decide) rfl (vs1 := [some (.int 0)]) rfl ?_
  refine a_iload_n C dJ6_bitCount_0f7a4_10 (i := 0) rfl rfl ?_
  refine a_ldcw C dJ6_bitCount_0f7a4_11 ko_RJ6_266 ?_
  refine a_iand C dJ6_bitCount_0f7a4_14 ?_
  refine a_iload_n C dJ6_bitCount_0f7a4_15 (i := 0) rfl rfl ?_
  refine a_iconst C dJ6_bitCount_0f7a4_16 (v := 2) rfl ?_
  refine a_iushr C dJ6_bitCount_0f7a4_17 ?_
  refine a_ldcw C dJ6_bitCount_0f7a4_18 ko_RJ6_266 ?_
  refine a_iand C dJ6_bitCount_0f7a4_21 ?_
  refine a_iadd C dJ6_bitCount_0f7a4_22 ?_
  refine a_istore_n C dJ6_bitCount_0f7a4_23 (i := 0) rfl (by decide) rfl (vs1 := [some (.int 0)]) rfl ?_
  refine a_iload_n C dJ6_bitCount_0f7a4_24 (i := 0) rfl rfl ?_
  refine a_iload_n C dJ6_bitCount_0f7a4_25 (i := 0) rfl rfl ?_
  refine a_iconst C dJ6_bitCount_0f7a4_26 (v := 4) rfl ?_
  refine a_iushr C dJ6_bitCount_0f7a4_27 ?_
  refine a_iadd C dJ6_bitCount_0f7a4_28 ?_
  refine a_ldcw C dJ6_bitCount_0f7a4_29 ko_RJ6_267 ?_
  refine a_iand C dJ6_bitCount_0f7a4_32 ?_
  refine a_istore_n C dJ6_bitCount_0f7a4_33 (i := 0) rfl (by decide) rfl (vs1 := [some (.int 0)]) rfl ?_
  refine a_iload_n C dJ6_bitCount_0f7a4_34 (i := 0) rfl rfl ?_
  refine a_iload_n C dJ6_bitCount_0f7a4_35 (i := 0) rfl rfl ?_
  refine a_bipush C dJ6_bitCount_0f7a4_36 (v := 8) rfl ?_
  refine a_iushr C dJ6_bitCount_0f7a4_38 ?_
  refine a_iadd C dJ6_bitCount_0f7a4_39 ?_
  refine a_istore_n C dJ6_bitCount_0f7a4_40 (i := 0) rfl (by decide) rfl (vs1 := [some (.int 0)]) rfl ?_
  refine a_iload_n C dJ6_bitCount_0f7a4_41 (i := 0) rfl rfl ?_
  refine a_iload_n C dJ6_bitCount_0f7a4_42 (i := 0) rfl rfl ?_
  refine a_bipush C dJ6_bitCount_0f7a4_43 (v := 16) rfl ?_
  refine a_iushr C dJ6_bitCount_0f7a4_45 ?_
  refine a_iadd C dJ6_bitCount_0f7a4_46 ?_
  refine a_istore_n C dJ6_bitCount_0f7a4_47 (i := 0) rfl (by decide) rfl (vs1 := [some (.int 0)]) rfl ?_
  refine a_iload_n C dJ6_bitCount_0f7a4_48 (i := 0) rfl rfl ?_
  refine a_bipush C dJ6_bitCount_0f7a4_49 (v := 63) rfl ?_
  refine a_iand C dJ6_bitCount_0f7a4_51 ?_
  exact a_iret Rt dJ6_bitCount_0f7a4_52 rfl (⟨rfl, rfl⟩)
theorem dX0_firstLanding_0 : decode cX0_firstLanding 0 = .ok (.iconst 0, 1) := by decide +kernel
theorem dX0_firstLanding_1 : decode cX0_firstLanding 1 = .ok (.istore_n 1, 1) := by decide +kernel
theorem dX0_firstLanding_2 : decode cX0_firstLanding 2 = .ok (.iload_n 1, 1) := by decide +kernel
theorem dX0_firstLanding_3 : decode cX0_firstLanding 3 = .ok (.aload_n 0, 1) := by decide +kernel
theorem dX0_firstLanding_4 : decode cX0_firstLanding 4 = .ok (.getfield 33, 3) := by decide +kernel
theorem dX0_firstLanding_7 : decode cX0_firstLanding 7 = .ok (.if_icmp .ge 19, 3) := by decide +kernel
theorem dX0_firstLanding_26 : decode cX0_firstLanding 26 = .ok (.iconst (-1), 1) := by decide +kernel
theorem dX0_firstLanding_27 : decode cX0_firstLanding 27 = .ok (.ireturn, 1) := by decide +kernel
set_option maxHeartbeats 4000000 in
set_option maxRecDepth 100000 in
theorem k_firstLanding_56 {l : Launch} {D : va_G} {ids : List Nat} {ad : Nat → Nat} {ca : Nat → ClassId} {σ : HS} (hid : ∀ i, i < 277 → i ∈ ids) (h_56_0 : σ.1 56 0 = 0) : Ki l D ids ad ca yX0_firstLanding cX0_firstLanding 2 .int 0 0 [.ref (ad 56)] σ (fun r σ1 => r = (-1) ∧ σ1 = σ) := by
  refine Ki.of (by decide) (Nat.le_of_ble_eq_true rfl) 1 (fun Γ C Rt => ?_)
  show AW ids ad ca Γ 0 [some (.ref (ad 56)), none] [] σ
  refine a_iconst C dX0_firstLanding_0 (v := 0) rfl ?_
  refine a_istore_n C dX0_firstLanding_1 (i := 1) rfl (by decide) rfl (vs1 := [some (.ref (ad 56)), some (.int 0)]) rfl ?_
  refine a_iload_n C dX0_firstLanding_2 (i := 1) rfl rfl ?_
  refine a_aload_n C dX0_firstLanding_3 (i := 0) rfl rfl ?_
  refine a_get C fl_RX0_33 (i := 56) kd_56 (hid 56 (by decide)) (v := .int 0) (congrArg (fun z => some (Value.int z)) h_56_0) dX0_firstLanding_4 ?_
  refine a_ic_ge C dX0_firstLanding_7 (tgt := 26) rfl (fun _ => ?_) (fun h => absurd h (by decide))
  refine a_iconst C dX0_firstLanding_26 (v := (-1)) rfl ?_
  exact a_iret Rt dX0_firstLanding_27 rfl (⟨rfl, rfl⟩)
theorem dX0_howManyLand_0 : decode cX0_howManyLand 0 = .ok (.iconst 0, 1) := by decide +kernel
theorem dX0_howManyLand_1 : decode cX0_howManyLand 1 = .ok (.istore_n 1, 1) := by decide +kernel
theorem dX0_howManyLand_2 : decode cX0_howManyLand 2 = .ok (.iconst 0, 1) := by decide +kernel
theorem dX0_howManyLand_3 : decode cX0_howManyLand 3 = .ok (.istore_n 2, 1) := by decide +kernel
theorem dX0_howManyLand_4 : decode cX0_howManyLand 4 = .ok (.iload_n 2, 1) := by decide +kernel
theorem dX0_howManyLand_5 : decode cX0_howManyLand 5 = .ok (.aload_n 0, 1) := by decide +kernel
theorem dX0_howManyLand_6 : decode cX0_howManyLand 6 = .ok (.getfield 33, 3) := by decide +kernel
theorem dX0_howManyLand_9 : decode cX0_howManyLand 9 = .ok (.if_icmp .ge 20, 3) := by decide +kernel
theorem dX0_howManyLand_29 : decode cX0_howManyLand 29 = .ok (.iload_n 1, 1) := by decide +kernel
theorem dX0_howManyLand_30 : decode cX0_howManyLand 30 = .ok (.ireturn, 1) := by decide +kernel
set_option maxHeartbeats 4000000 in
set_option maxRecDepth 100000 in
theorem k_howManyLand_56 {l : Launch} {D : va_G} {ids : List Nat} {ad : Nat → Nat} {ca : Nat → ClassId} {σ : HS} (hid : ∀ i, i < 277 → i ∈ ids) (h_56_0 : σ.1 56 0 = 0) : Ki l D ids ad ca yX0_howManyLand cX0_howManyLand 3 .int 0 0 [.ref (ad 56)] σ (fun r σ1 => r = 0 ∧ σ1 = σ) := by
  refine Ki.of (by decide) (Nat.le_of_ble_eq_true rfl) 2 (fun Γ C Rt => ?_)
  show AW ids ad ca Γ 0 [some (.ref (ad 56)), none, none] [] σ
  refine a_iconst C dX0_howManyLand_0 (v := 0) rfl ?_
  refine a_istore_n C dX0_howManyLand_1 (i := 1) rfl (by decide) rfl (vs1 := [some (.ref (ad 56)), some (.int 0), none]) rfl ?_
  refine a_iconst C dX0_howManyLand_2 (v := 0) rfl ?_
  refine a_istore_n C dX0_howManyLand_3 (i := 2) rfl (by decide) rfl (vs1 := [some (.ref (ad 56)), some (.int 0), some (.int 0)]) rfl ?_
  refine a_iload_n C dX0_howManyLand_4 (i := 2) rfl rfl ?_
  refine a_aload_n C dX0_howManyLand_5 (i := 0) rfl rfl ?_
  refine a_get C fl_RX0_33 (i := 56) kd_56 (hid 56 (by decide)) (v := .int 0) (congrArg (fun z => some (Value.int z)) h_56_0) dX0_howManyLand_6 ?_
  refine a_ic_ge C dX0_howManyLand_9 (tgt := 29) rfl (fun _ => ?_) (fun h => absurd h (by decide))
  refine a_iload_n C dX0_howManyLand_29 (i := 1) rfl rfl ?_
  exact a_iret Rt dX0_howManyLand_30 rfl (⟨rfl, rfl⟩)
theorem dX0_landingBits_0 : decode cX0_landingBits 0 = .ok (.iconst 0, 1) := by decide +kernel
theorem dX0_landingBits_1 : decode cX0_landingBits 1 = .ok (.istore_n 1, 1) := by decide +kernel
theorem dX0_landingBits_2 : decode cX0_landingBits 2 = .ok (.iconst 0, 1) := by decide +kernel
theorem dX0_landingBits_3 : decode cX0_landingBits 3 = .ok (.istore_n 2, 1) := by decide +kernel
theorem dX0_landingBits_4 : decode cX0_landingBits 4 = .ok (.iload_n 2, 1) := by decide +kernel
theorem dX0_landingBits_5 : decode cX0_landingBits 5 = .ok (.aload_n 0, 1) := by decide +kernel
theorem dX0_landingBits_6 : decode cX0_landingBits 6 = .ok (.getfield 33, 3) := by decide +kernel
theorem dX0_landingBits_9 : decode cX0_landingBits 9 = .ok (.if_icmp .ge 28, 3) := by decide +kernel
theorem dX0_landingBits_37 : decode cX0_landingBits 37 = .ok (.iload_n 1, 1) := by decide +kernel
theorem dX0_landingBits_38 : decode cX0_landingBits 38 = .ok (.ireturn, 1) := by decide +kernel
set_option maxHeartbeats 4000000 in
set_option maxRecDepth 100000 in
theorem k_landingBits_56 {l : Launch} {D : va_G} {ids : List Nat} {ad : Nat → Nat} {ca : Nat → ClassId} {σ : HS} (hid : ∀ i, i < 277 → i ∈ ids) (h_56_0 : σ.1 56 0 = 0) : Ki l D ids ad ca yX0_landingBits cX0_landingBits 3 .int 0 0 [.ref (ad 56)] σ (fun r σ1 => r = 0 ∧ σ1 = σ) := by
  refine Ki.of (by decide) (Nat.le_of_ble_eq_true rfl) 2 (fun Γ C Rt => ?_)
  show AW ids ad ca Γ 0 [some (.ref (ad 56)), none, none] [] σ
  refine a_iconst C dX0_landingBits_0 (v := 0) rfl ?_
  refine a_istore_n C dX0_landingBits_1 (i := 1) rfl (by decide) rfl (vs1 := [some (.ref (ad 56)), some (.int 0), none]) rfl ?_
  refine a_iconst C dX0_landingBits_2 (v := 0) rfl ?_
  refine a_istore_n C dX0_landingBits_3 (i := 2) rfl (by decide) rfl (vs1 := [some (.ref (ad 56)), some (.int 0), some (.int 0)]) rfl ?_
  refine a_iload_n C dX0_landingBits_4 (i := 2) rfl rfl ?_
  refine a_aload_n C dX0_landingBits_5 (i := 0) rfl rfl ?_
  refine a_get C fl_RX0_33 (i := 56) kd_56 (hid 56 (by decide)) (v := .int 0) (congrArg (fun z => some (Value.int z)) h_56_0) dX0_landingBits_6 ?_
  refine a_ic_ge C dX0_landingBits_9 (tgt := 37) rfl (fun _ => ?_) (fun h => absurd h (by decide))
  refine a_iload_n C dX0_landingBits_37 (i := 1) rfl rfl ?_
  exact a_iret Rt dX0_landingBits_38 rfl (⟨rfl, rfl⟩)
theorem dX0_bitsOf_0 : decode cX0_bitsOf 0 = .ok (.iconst 0, 1) := by decide +kernel
theorem dX0_bitsOf_1 : decode cX0_bitsOf 1 = .ok (.istore_n 2, 1) := by decide +kernel
theorem dX0_bitsOf_2 : decode cX0_bitsOf 2 = .ok (.iconst 0, 1) := by decide +kernel
theorem dX0_bitsOf_3 : decode cX0_bitsOf 3 = .ok (.istore_n 3, 1) := by decide +kernel
theorem dX0_bitsOf_4 : decode cX0_bitsOf 4 = .ok (.iload_n 3, 1) := by decide +kernel
theorem dX0_bitsOf_5 : decode cX0_bitsOf 5 = .ok (.aload_n 0, 1) := by decide +kernel
theorem dX0_bitsOf_6 : decode cX0_bitsOf 6 = .ok (.getfield 33, 3) := by decide +kernel
theorem dX0_bitsOf_9 : decode cX0_bitsOf 9 = .ok (.if_icmp .ge 25, 3) := by decide +kernel
theorem dX0_bitsOf_34 : decode cX0_bitsOf 34 = .ok (.iload_n 2, 1) := by decide +kernel
theorem dX0_bitsOf_35 : decode cX0_bitsOf 35 = .ok (.ireturn, 1) := by decide +kernel
set_option maxHeartbeats 4000000 in
set_option maxRecDepth 100000 in
theorem k_bitsOf_56 {l : Launch} {D : va_G} {ids : List Nat} {ad : Nat → Nat} {ca : Nat → ClassId} {σ : HS} {p0 : Int32} (hid : ∀ i, i < 277 → i ∈ ids) (h_56_0 : σ.1 56 0 = 0) : Ki l D ids ad ca yX0_bitsOf cX0_bitsOf 4 .int 0 0 [.ref (ad 56), .int p0] σ (fun r σ1 => r = 0 ∧ σ1 = σ) := by
  refine Ki.of (by decide) (Nat.le_of_ble_eq_true rfl) 2 (fun Γ C Rt => ?_)
  show AW ids ad ca Γ 0 [some (.ref (ad 56)), some (.int p0), none, none] [] σ
  refine a_iconst C dX0_bitsOf_0 (v := 0) rfl ?_
  refine a_istore_n C dX0_bitsOf_1 (i := 2) rfl (by decide) rfl (vs1 := [some (.ref (ad 56)), some (.int p0), some (.int 0), none]) rfl ?_
  refine a_iconst C dX0_bitsOf_2 (v := 0) rfl ?_
  refine a_istore_n C dX0_bitsOf_3 (i := 3) rfl (by decide) rfl (vs1 := [some (.ref (ad 56)), some (.int p0), some (.int 0), some (.int 0)]) rfl ?_
  refine a_iload_n C dX0_bitsOf_4 (i := 3) rfl rfl ?_
  refine a_aload_n C dX0_bitsOf_5 (i := 0) rfl rfl ?_
  refine a_get C fl_RX0_33 (i := 56) kd_56 (hid 56 (by decide)) (v := .int 0) (congrArg (fun z => some (Value.int z)) h_56_0) dX0_bitsOf_6 ?_
  refine a_ic_ge C dX0_bitsOf_9 (tgt := 34) rfl (fun _ => ?_) (fun h => absurd h (by decide))
  refine a_iload_n C dX0_bitsOf_34 (i := 2) rfl rfl ?_
  exact a_iret Rt dX0_bitsOf_35 rfl (⟨rfl, rfl⟩)
theorem dX0_howManyUp_0 : decode cX0_howManyUp 0 = .ok (.aload_n 0, 1) := by decide +kernel
theorem dX0_howManyUp_1 : decode cX0_howManyUp 1 = .ok (.iconst 0, 1) := by decide +kernel
theorem dX0_howManyUp_2 : decode cX0_howManyUp 2 = .ok (.invokevirtual 70, 3) := by decide +kernel
theorem dX0_howManyUp_5 : decode cX0_howManyUp 5 = .ok (.invokestatic 74, 3) := by decide +kernel
theorem dX0_howManyUp_8 : decode cX0_howManyUp 8 = .ok (.ireturn, 1) := by decide +kernel
set_option maxHeartbeats 4000000 in
set_option maxRecDepth 100000 in
theorem k_howManyUp_56 {l : Launch} {D : va_G} {ids : List Nat} {ad : Nat → Nat} {ca : Nat → ClassId} {σ : HS} (hid : ∀ i, i < 277 → i ∈ ids) (h_56_0 : σ.1 56 0 = 0) : Ki l D ids ad ca yX0_howManyUp cX0_howManyUp 1 .int 1 23 [.ref (ad 56)] σ (fun r σ1 => r = 0 ∧ σ1 = σ) := by
  refine Ki.of (by decide) (Nat.le_of_ble_eq_true rfl) 0 (fun Γ C Rt => ?_)
  show AW ids ad ca Γ 0 [some (.ref (ad 56))] [] σ
  refine a_aload_n C dX0_howManyUp_0 (i := 0) rfl rfl ?_
  refine a_iconst C dX0_howManyUp_1 (v := 0) rfl ?_
  refine a_callVi C (i := 56) kd_56 (hid 56 (by decide)) ⟨_, _, rfl⟩ (by decide) (k_bitsOf_56 hid h_56_0) mi_X0_bitsOf ml_RX0_70 rfl rfl (Nat.le_of_ble_eq_true rfl) (Nat.le_of_ble_eq_true rfl) (Nat.le_of_ble_eq_true rfl) dX0_howManyUp_2 (fun r1 σ2 q3 => ?_)
  obtain ⟨rfl, q3⟩ := q3
  rw [q3]
  refine a_callSi C (k_bitCount hid) ms_J6_bitCount_0f7a4 ml_RX0_74 rfl rfl (Nat.le_of_ble_eq_true rfl) (Nat.le_of_ble_eq_true rfl) (Nat.le_of_ble_eq_true rfl) dX0_howManyUp_5 (fun r4 σ5 q6 => ?_)
  obtain ⟨rfl, q6⟩ := q6
  rw [q6]
  exact a_iret Rt dX0_howManyUp_8 rfl (⟨rfl, rfl⟩)
set_option maxHeartbeats 4000000 in
set_option maxRecDepth 100000 in
theorem k_firstLanding_60 {l : Launch} {D : va_G} {ids : List Nat} {ad : Nat → Nat} {ca : Nat → ClassId} {σ : HS} (hid : ∀ i, i < 277 → i ∈ ids) (h_60_0 : σ.1 60 0 = 0) : Ki l D ids ad ca yX0_firstLanding cX0_firstLanding 2 .int 0 0 [.ref (ad 60)] σ (fun r σ1 => r = (-1) ∧ σ1 = σ) := by
  refine Ki.of (by decide) (Nat.le_of_ble_eq_true rfl) 1 (fun Γ C Rt => ?_)
  show AW ids ad ca Γ 0 [some (.ref (ad 60)), none] [] σ
  refine a_iconst C dX0_firstLanding_0 (v := 0) rfl ?_
  refine a_istore_n C dX0_firstLanding_1 (i := 1) rfl (by decide) rfl (vs1 := [some (.ref (ad 60)), some (.int 0)]) rfl ?_
  refine a_iload_n C dX0_firstLanding_2 (i := 1) rfl rfl ?_
  refine a_aload_n C dX0_firstLanding_3 (i := 0) rfl rfl ?_
  refine a_get C fl_RX0_33 (i := 60) kd_60 (hid 60 (by decide)) (v := .int 0) (congrArg (fun z => some (Value.int z)) h_60_0) dX0_firstLanding_4 ?_
  refine a_ic_ge C dX0_firstLanding_7 (tgt := 26) rfl (fun _ => ?_) (fun h => absurd h (by decide))
  refine a_iconst C dX0_firstLanding_26 (v := (-1)) rfl ?_
  exact a_iret Rt dX0_firstLanding_27 rfl (⟨rfl, rfl⟩)
set_option maxHeartbeats 4000000 in
set_option maxRecDepth 100000 in
theorem k_howManyLand_60 {l : Launch} {D : va_G} {ids : List Nat} {ad : Nat → Nat} {ca : Nat → ClassId} {σ : HS} (hid : ∀ i, i < 277 → i ∈ ids) (h_60_0 : σ.1 60 0 = 0) : Ki l D ids ad ca yX0_howManyLand cX0_howManyLand 3 .int 0 0 [.ref (ad 60)] σ (fun r σ1 => r = 0 ∧ σ1 = σ) := by
  refine Ki.of (by decide) (Nat.le_of_ble_eq_true rfl) 2 (fun Γ C Rt => ?_)
  show AW ids ad ca Γ 0 [some (.ref (ad 60)), none, none] [] σ
  refine a_iconst C dX0_howManyLand_0 (v := 0) rfl ?_
  refine a_istore_n C dX0_howManyLand_1 (i := 1) rfl (by decide) rfl (vs1 := [some (.ref (ad 60)), some (.int 0), none]) rfl ?_
  refine a_iconst C dX0_howManyLand_2 (v := 0) rfl ?_
  refine a_istore_n C dX0_howManyLand_3 (i := 2) rfl (by decide) rfl (vs1 := [some (.ref (ad 60)), some (.int 0), some (.int 0)]) rfl ?_
  refine a_iload_n C dX0_howManyLand_4 (i := 2) rfl rfl ?_
  refine a_aload_n C dX0_howManyLand_5 (i := 0) rfl rfl ?_
  refine a_get C fl_RX0_33 (i := 60) kd_60 (hid 60 (by decide)) (v := .int 0) (congrArg (fun z => some (Value.int z)) h_60_0) dX0_howManyLand_6 ?_
  refine a_ic_ge C dX0_howManyLand_9 (tgt := 29) rfl (fun _ => ?_) (fun h => absurd h (by decide))
  refine a_iload_n C dX0_howManyLand_29 (i := 1) rfl rfl ?_
  exact a_iret Rt dX0_howManyLand_30 rfl (⟨rfl, rfl⟩)
set_option maxHeartbeats 4000000 in
set_option maxRecDepth 100000 in
theorem k_landingBits_60 {l : Launch} {D : va_G} {ids : List Nat} {ad : Nat → Nat} {ca : Nat → ClassId} {σ : HS} (hid : ∀ i, i < 277 → i ∈ ids) (h_60_0 : σ.1 60 0 = 0) : Ki l D ids ad ca yX0_landingBits cX0_landingBits 3 .int 0 0 [.ref (ad 60)] σ (fun r σ1 => r = 0 ∧ σ1 = σ) := by
  refine Ki.of (by decide) (Nat.le_of_ble_eq_true rfl) 2 (fun Γ C Rt => ?_)
  show AW ids ad ca Γ 0 [some (.ref (ad 60)), none, none] [] σ
  refine a_iconst C dX0_landingBits_0 (v := 0) rfl ?_
  refine a_istore_n C dX0_landingBits_1 (i := 1) rfl (by decide) rfl (vs1 := [some (.ref (ad 60)), some (.int 0), none]) rfl ?_
  refine a_iconst C dX0_landingBits_2 (v := 0) rfl ?_
  refine a_istore_n C dX0_landingBits_3 (i := 2) rfl (by decide) rfl (vs1 := [some (.ref (ad 60)), some (.int 0), some (.int 0)]) rfl ?_
  refine a_iload_n C dX0_landingBits_4 (i := 2) rfl rfl ?_
  refine a_aload_n C dX0_landingBits_5 (i := 0) rfl rfl ?_
  refine a_get C fl_RX0_33 (i := 60) kd_60 (hid 60 (by decide)) (v := .int 0) (congrArg (fun z => some (Value.int z)) h_60_0) dX0_landingBits_6 ?_
  refine a_ic_ge C dX0_landingBits_9 (tgt := 37) rfl (fun _ => ?_) (fun h => absurd h (by decide))
  refine a_iload_n C dX0_landingBits_37 (i := 1) rfl rfl ?_
  exact a_iret Rt dX0_landingBits_38 rfl (⟨rfl, rfl⟩)
set_option maxHeartbeats 4000000 in
set_option maxRecDepth 100000 in
theorem k_bitsOf_60 {l : Launch} {D : va_G} {ids : List Nat} {ad : Nat → Nat} {ca : Nat → ClassId} {σ : HS} {p0 : Int32} (hid : ∀ i, i < 277 → i ∈ ids) (h_60_0 : σ.1 60 0 = 0) : Ki l D ids ad ca yX0_bitsOf cX0_bitsOf 4 .int 0 0 [.ref (ad 60), .int p0] σ (fun r σ1 => r = 0 ∧ σ1 = σ) := by
  refine Ki.of (by decide) (Nat.le_of_ble_eq_true rfl) 2 (fun Γ C Rt => ?_)
  show AW ids ad ca Γ 0 [some (.ref (ad 60)), some (.int p0), none, none] [] σ
  refine a_iconst C dX0_bitsOf_0 (v := 0) rfl ?_
  refine a_istore_n C dX0_bitsOf_1 (i := 2) rfl (by decide) rfl (vs1 := [some (.ref (ad 60)), some (.int p0), some (.int 0), none]) rfl ?_
  refine a_iconst C dX0_bitsOf_2 (v := 0) rfl ?_
  refine a_istore_n C dX0_bitsOf_3 (i := 3) rfl (by decide) rfl (vs1 := [some (.ref (ad 60)), some (.int p0), some (.int 0), some (.int 0)]) rfl ?_
  refine a_iload_n C dX0_bitsOf_4 (i := 3) rfl rfl ?_
  refine a_aload_n C dX0_bitsOf_5 (i := 0) rfl rfl ?_
  refine a_get C fl_RX0_33 (i := 60) kd_60 (hid 60 (by decide)) (v := .int 0) (congrArg (fun z => some (Value.int z)) h_60_0) dX0_bitsOf_6 ?_
  refine a_ic_ge C dX0_bitsOf_9 (tgt := 34) rfl (fun _ => ?_) (fun h => absurd h (by decide))
  refine a_iload_n C dX0_bitsOf_34 (i := 2) rfl rfl ?_
  exact a_iret Rt dX0_bitsOf_35 rfl (⟨rfl, rfl⟩)
set_option maxHeartbeats 4000000 in
set_option maxRecDepth 100000 in
theorem k_howManyUp_60 {l : Launch} {D : va_G} {ids : List Nat} {ad : Nat → Nat} {ca : Nat → ClassId} {σ : HS} (hid : ∀ i, i < 277 → i ∈ ids) (h_60_0 : σ.1 60 0 = 0) : Ki l D ids ad ca yX0_howManyUp cX0_howManyUp 1 .int 1 23 [.ref (ad 60)] σ (fun r σ1 => r = 0 ∧ σ1 = σ) := by
  refine Ki.of (by decide) (Nat.le_of_ble_eq_true rfl) 0 (fun Γ C Rt => ?_)
  show AW ids ad ca Γ 0 [some (.ref (ad 60))] [] σ
  refine a_aload_n C dX0_howManyUp_0 (i := 0) rfl rfl ?_
  refine a_iconst C dX0_howManyUp_1 (v := 0) rfl ?_
  refine a_callVi C (i := 60) kd_60 (hid 60 (by decide)) ⟨_, _, rfl⟩ (by decide) (k_bitsOf_60 hid h_60_0) mi_X0_bitsOf ml_RX0_70 rfl rfl (Nat.le_of_ble_eq_true rfl) (Nat.le_of_ble_eq_true rfl) (Nat.le_of_ble_eq_true rfl) dX0_howManyUp_2 (fun r1 σ2 q3 => ?_)
  obtain ⟨rfl, q3⟩ := q3
  rw [q3]
  refine a_callSi C (k_bitCount hid) ms_J6_bitCount_0f7a4 ml_RX0_74 rfl rfl (Nat.le_of_ble_eq_true rfl) (Nat.le_of_ble_eq_true rfl) (Nat.le_of_ble_eq_true rfl) dX0_howManyUp_5 (fun r4 σ5 q6 => ?_)
  obtain ⟨rfl, q6⟩ := q6
  rw [q6]
  exact a_iret Rt dX0_howManyUp_8 rfl (⟨rfl, rfl⟩)
theorem dX0_heightBy_0 : decode cX0_heightBy 0 = .ok (.aload_n 0, 1) := by decide +kernel
theorem dX0_heightBy_1 : decode cX0_heightBy 1 = .ok (.getfield 25, 3) := by decide +kernel
theorem dX0_heightBy_4 : decode cX0_heightBy 4 = .ok (.iconst (-1), 1) := by decide +kernel
theorem dX0_heightBy_5 : decode cX0_heightBy 5 = .ok (.if_icmp .eq 8, 3) := by decide +kernel
theorem dX0_heightBy_13 : decode cX0_heightBy 13 = .ok (.aload_n 1, 1) := by decide +kernel
theorem dX0_heightBy_14 : decode cX0_heightBy 14 = .ok (.aload_n 0, 1) := by decide +kernel
theorem dX0_heightBy_15 : decode cX0_heightBy 15 = .ok (.getfield 21, 3) := by decide +kernel
theorem dX0_heightBy_18 : decode cX0_heightBy 18 = .ok (.invokevirtual 93, 3) := by decide +kernel
theorem dX0_heightBy_21 : decode cX0_heightBy 21 = .ok (.ifCond .eq 16, 3) := by decide +kernel
theorem dX0_heightBy_37 : decode cX0_heightBy 37 = .ok (.iconst 3, 1) := by decide +kernel
theorem dX0_heightBy_38 : decode cX0_heightBy 38 = .ok (.ireturn, 1) := by decide +kernel
set_option maxHeartbeats 4000000 in
set_option maxRecDepth 100000 in
theorem k_heightBy {l : Launch} {D : va_G} {ids : List Nat} {ad : Nat → Nat} {ca : Nat → ClassId} {σ : HS} (hid : ∀ i, i < 277 → i ∈ ids) (h_30_4 : σ.1 30 4 = 0) (h_56_9 : σ.1 56 9 = (-1)) (h_56_11 : σ.1 56 11 = (-1)) : Ki l D ids ad ca yX0_heightBy cX0_heightBy 2 .int 1 21 [.ref (ad 56), .ref (ad 30)] σ (fun r σ1 => r = 3 ∧ σ1 = σ) := by
  refine Ki.of (by decide) (Nat.le_of_ble_eq_true rfl) 0 (fun Γ C Rt => ?_)
  show AW ids ad ca Γ 0 [some (.ref (ad 56)), some (.ref (ad 30))] [] σ
  refine a_aload_n C dX0_heightBy_0 (i := 0) rfl rfl ?_
  refine a_get C fl_RX0_25 (i := 56) kd_56 (hid 56 (by decide)) (v := .int (-1)) (congrArg (fun z => some (Value.int z)) h_56_11) dX0_heightBy_1 ?_
  refine a_iconst C dX0_heightBy_4 (v := (-1)) rfl ?_
  refine a_ic_eq C dX0_heightBy_5 (tgt := 13) rfl (fun _ => ?_) (fun h => absurd h (by decide))
  refine a_aload_n C dX0_heightBy_13 (i := 1) rfl rfl ?_
  refine a_aload_n C dX0_heightBy_14 (i := 0) rfl rfl ?_
  refine a_get C fl_RX0_21 (i := 56) kd_56 (hid 56 (by decide)) (v := .int (-1)) (congrArg (fun z => some (Value.int z)) h_56_9) dX0_heightBy_15 ?_
  refine a_callVi C (i := 30) kd_30 (hid 30 (by decide)) ⟨_, _, rfl⟩ (by decide) (k_hasPattern hid h_30_4) mi_X10_hasPattern ml_RX0_93 rfl rfl (Nat.le_of_ble_eq_true rfl) (Nat.le_of_ble_eq_true rfl) (Nat.le_of_ble_eq_true rfl) dX0_heightBy_18 (fun r1 σ2 q3 => ?_)
  obtain ⟨rfl, q3⟩ := q3
  rw [q3]
  refine a_if_eq C dX0_heightBy_21 (tgt := 37) rfl (fun _ => ?_) (fun h => absurd h (by decide))
  refine a_iconst C dX0_heightBy_37 (v := 3) rfl ?_
  exact a_iret Rt dX0_heightBy_38 rfl (⟨rfl, rfl⟩)
theorem dX0_copy_0 : decode cX0_copy 0 = .ok (.aload_n 0, 1) := by decide +kernel
theorem dX0_copy_1 : decode cX0_copy 1 = .ok (.aload_n 1, 1) := by decide +kernel
theorem dX0_copy_2 : decode cX0_copy 2 = .ok (.getfield 33, 3) := by decide +kernel
theorem dX0_copy_5 : decode cX0_copy 5 = .ok (.putfield 33, 3) := by decide +kernel
theorem dX0_copy_8 : decode cX0_copy 8 = .ok (.aload_n 1, 1) := by decide +kernel
theorem dX0_copy_9 : decode cX0_copy 9 = .ok (.getfield 9, 3) := by decide +kernel
theorem dX0_copy_12 : decode cX0_copy 12 = .ok (.iconst 0, 1) := by decide +kernel
theorem dX0_copy_13 : decode cX0_copy 13 = .ok (.aload_n 0, 1) := by decide +kernel
theorem dX0_copy_14 : decode cX0_copy 14 = .ok (.getfield 9, 3) := by decide +kernel
theorem dX0_copy_17 : decode cX0_copy 17 = .ok (.iconst 0, 1) := by decide +kernel
theorem dX0_copy_18 : decode cX0_copy 18 = .ok (.bipush 7, 2) := by decide +kernel
theorem dX0_copy_20 : decode cX0_copy 20 = .ok (.invokestatic 43, 3) := by decide +kernel
theorem dX0_copy_23 : decode cX0_copy 23 = .ok (.aload_n 1, 1) := by decide +kernel
theorem dX0_copy_24 : decode cX0_copy 24 = .ok (.getfield 15, 3) := by decide +kernel
theorem dX0_copy_27 : decode cX0_copy 27 = .ok (.iconst 0, 1) := by decide +kernel
theorem dX0_copy_28 : decode cX0_copy 28 = .ok (.aload_n 0, 1) := by decide +kernel
theorem dX0_copy_29 : decode cX0_copy 29 = .ok (.getfield 15, 3) := by decide +kernel
theorem dX0_copy_32 : decode cX0_copy 32 = .ok (.iconst 0, 1) := by decide +kernel
theorem dX0_copy_33 : decode cX0_copy 33 = .ok (.bipush 7, 2) := by decide +kernel
theorem dX0_copy_35 : decode cX0_copy 35 = .ok (.invokestatic 43, 3) := by decide +kernel
theorem dX0_copy_38 : decode cX0_copy 38 = .ok (.aload_n 1, 1) := by decide +kernel
theorem dX0_copy_39 : decode cX0_copy 39 = .ok (.getfield 18, 3) := by decide +kernel
theorem dX0_copy_42 : decode cX0_copy 42 = .ok (.iconst 0, 1) := by decide +kernel
theorem dX0_copy_43 : decode cX0_copy 43 = .ok (.aload_n 0, 1) := by decide +kernel
theorem dX0_copy_44 : decode cX0_copy 44 = .ok (.getfield 18, 3) := by decide +kernel
theorem dX0_copy_47 : decode cX0_copy 47 = .ok (.iconst 0, 1) := by decide +kernel
theorem dX0_copy_48 : decode cX0_copy 48 = .ok (.bipush 7, 2) := by decide +kernel
theorem dX0_copy_50 : decode cX0_copy 50 = .ok (.invokestatic 43, 3) := by decide +kernel
theorem dX0_copy_53 : decode cX0_copy 53 = .ok (.aload_n 0, 1) := by decide +kernel
theorem dX0_copy_54 : decode cX0_copy 54 = .ok (.aload_n 1, 1) := by decide +kernel
theorem dX0_copy_55 : decode cX0_copy 55 = .ok (.getfield 49, 3) := by decide +kernel
theorem dX0_copy_58 : decode cX0_copy 58 = .ok (.putfield 49, 3) := by decide +kernel
theorem dX0_copy_61 : decode cX0_copy 61 = .ok (.aload_n 0, 1) := by decide +kernel
theorem dX0_copy_62 : decode cX0_copy 62 = .ok (.aload_n 1, 1) := by decide +kernel
theorem dX0_copy_63 : decode cX0_copy 63 = .ok (.getfield 52, 3) := by decide +kernel
theorem dX0_copy_66 : decode cX0_copy 66 = .ok (.putfield 52, 3) := by decide +kernel
theorem dX0_copy_69 : decode cX0_copy 69 = .ok (.aload_n 0, 1) := by decide +kernel
theorem dX0_copy_70 : decode cX0_copy 70 = .ok (.aload_n 1, 1) := by decide +kernel
theorem dX0_copy_71 : decode cX0_copy 71 = .ok (.getfield 55, 3) := by decide +kernel
theorem dX0_copy_74 : decode cX0_copy 74 = .ok (.putfield 55, 3) := by decide +kernel
theorem dX0_copy_77 : decode cX0_copy 77 = .ok (.aload_n 0, 1) := by decide +kernel
theorem dX0_copy_78 : decode cX0_copy 78 = .ok (.aload_n 1, 1) := by decide +kernel
theorem dX0_copy_79 : decode cX0_copy 79 = .ok (.getfield 58, 3) := by decide +kernel
theorem dX0_copy_82 : decode cX0_copy 82 = .ok (.putfield 58, 3) := by decide +kernel
theorem dX0_copy_85 : decode cX0_copy 85 = .ok (.aload_n 0, 1) := by decide +kernel
theorem dX0_copy_86 : decode cX0_copy 86 = .ok (.aload_n 1, 1) := by decide +kernel
theorem dX0_copy_87 : decode cX0_copy 87 = .ok (.getfield 61, 3) := by decide +kernel
theorem dX0_copy_90 : decode cX0_copy 90 = .ok (.putfield 61, 3) := by decide +kernel
theorem dX0_copy_93 : decode cX0_copy 93 = .ok (.aload_n 0, 1) := by decide +kernel
theorem dX0_copy_94 : decode cX0_copy 94 = .ok (.aload_n 1, 1) := by decide +kernel
theorem dX0_copy_95 : decode cX0_copy 95 = .ok (.getfield 21, 3) := by decide +kernel
theorem dX0_copy_98 : decode cX0_copy 98 = .ok (.putfield 21, 3) := by decide +kernel
theorem dX0_copy_101 : decode cX0_copy 101 = .ok (.aload_n 0, 1) := by decide +kernel
theorem dX0_copy_102 : decode cX0_copy 102 = .ok (.aload_n 1, 1) := by decide +kernel
theorem dX0_copy_103 : decode cX0_copy 103 = .ok (.getfield 67, 3) := by decide +kernel
theorem dX0_copy_106 : decode cX0_copy 106 = .ok (.putfield 67, 3) := by decide +kernel
theorem dX0_copy_109 : decode cX0_copy 109 = .ok (.aload_n 0, 1) := by decide +kernel
theorem dX0_copy_110 : decode cX0_copy 110 = .ok (.aload_n 1, 1) := by decide +kernel
theorem dX0_copy_111 : decode cX0_copy 111 = .ok (.getfield 25, 3) := by decide +kernel
theorem dX0_copy_114 : decode cX0_copy 114 = .ok (.putfield 25, 3) := by decide +kernel
theorem dX0_copy_117 : decode cX0_copy 117 = .ok (.return_, 1) := by decide +kernel
set_option maxHeartbeats 4000000 in
set_option maxRecDepth 100000 in
theorem k_copy_60 {l : Launch} {D : va_G} {ids : List Nat} {ad : Nat → Nat} {ca : Nat → ClassId} {σ : HS} (hid : ∀ i, i < 277 → i ∈ ids) (h_56_0 : σ.1 56 0 = 0) (h_56_4 : σ.1 56 4 = 0) (h_56_5 : σ.1 56 5 = 0) (h_56_6 : σ.1 56 6 = 0) (h_56_7 : σ.1 56 7 = 0) (h_56_8 : σ.1 56 8 = 0) (h_56_9 : σ.1 56 9 = (-1)) (h_56_10 : σ.1 56 10 = 0) (h_56_11 : σ.1 56 11 = (-1)) : Kv l D ids ad ca yX0_copy cX0_copy 2 1 60 [.ref (ad 60), .ref (ad 56)] σ (fun σ1 => only [60, 61, 62, 63] σ σ1 ∧ σ1.1 60 0 = 0 ∧ σ1.1 60 5 = 0 ∧ σ1.1 60 6 = 0 ∧ σ1.1 60 8 = 0 ∧ σ1.1 60 4 = 0) := by
  refine Kv.of (by decide) (Nat.le_of_ble_eq_true rfl) 0 (fun Γ C Rt => ?_)
  show AW ids ad ca Γ 0 [some (.ref (ad 60)), some (.ref (ad 56))] [] σ
  refine a_aload_n C dX0_copy_0 (i := 0) rfl rfl ?_
  refine a_aload_n C dX0_copy_1 (i := 1) rfl rfl ?_
  refine a_get C fl_RX0_33 (i := 56) kd_56 (hid 56 (by decide)) (v := .int 0) (congrArg (fun z => some (Value.int z)) h_56_0) dX0_copy_2 ?_
  refine a_put C fp_RX0_33 (i := 60) kd_60 (hid 60 (by decide)) rfl rfl dX0_copy_5 ?_
  refine a_aload_n C dX0_copy_8 (i := 1) rfl rfl ?_
  refine a_get C fl_RX0_9 (i := 56) kd_56 (hid 56 (by decide)) (v := .ref (ad 57)) rfl dX0_copy_9 ?_
  refine a_iconst C dX0_copy_12 (v := 0) rfl ?_
  refine a_aload_n C dX0_copy_13 (i := 0) rfl rfl ?_
  refine a_get C fl_RX0_9 (i := 60) kd_60 (hid 60 (by decide)) (v := .ref (ad 61)) rfl dX0_copy_14 ?_
  refine a_iconst C dX0_copy_17 (v := 0) rfl ?_
  refine a_bipush C dX0_copy_18 (v := 7) rfl ?_
  refine a_copyi C (i0 := 57) (i1 := 61) 0 0 7 ml_RX0_43 ac_w.1 ac_w.2.1 ac_w.2.2 kd_57 (hid 57 (by decide)) kd_61 (hid 61 (by decide)) (by decide) (by decide) (by decide) rfl rfl rfl (by rw [al_57]; decide) (by rw [al_61]; decide) (Nat.le_of_ble_eq_true rfl) (Nat.le_of_ble_eq_true rfl) dX0_copy_20 ?_
  refine a_aload_n C dX0_copy_23 (i := 1) rfl rfl ?_
  refine a_get C fl_RX0_15 (i := 56) kd_56 (hid 56 (by decide)) (v := .ref (ad 58)) rfl dX0_copy_24 ?_
  refine a_iconst C dX0_copy_27 (v := 0) rfl ?_
  refine a_aload_n C dX0_copy_28 (i := 0) rfl rfl ?_
  refine a_get C fl_RX0_15 (i := 60) kd_60 (hid 60 (by decide)) (v := .ref (ad 62)) rfl dX0_copy_29 ?_
  refine a_iconst C dX0_copy_32 (v := 0) rfl ?_
  refine a_bipush C dX0_copy_33 (v := 7) rfl ?_
  refine a_copyi C (i0 := 58) (i1 := 62) 0 0 7 ml_RX0_43 ac_w.1 ac_w.2.1 ac_w.2.2 kd_58 (hid 58 (by decide)) kd_62 (hid 62 (by decide)) (by decide) (by decide) (by decide) rfl rfl rfl (by rw [al_58]; decide) (by rw [al_62]; decide) (Nat.le_of_ble_eq_true rfl) (Nat.le_of_ble_eq_true rfl) dX0_copy_35 ?_
  refine a_aload_n C dX0_copy_38 (i := 1) rfl rfl ?_
  refine a_get C fl_RX0_18 (i := 56) kd_56 (hid 56 (by decide)) (v := .ref (ad 59)) rfl dX0_copy_39 ?_
  refine a_iconst C dX0_copy_42 (v := 0) rfl ?_
  refine a_aload_n C dX0_copy_43 (i := 0) rfl rfl ?_
  refine a_get C fl_RX0_18 (i := 60) kd_60 (hid 60 (by decide)) (v := .ref (ad 63)) rfl dX0_copy_44 ?_
  refine a_iconst C dX0_copy_47 (v := 0) rfl ?_
  refine a_bipush C dX0_copy_48 (v := 7) rfl ?_
  refine a_copyi C (i0 := 59) (i1 := 63) 0 0 7 ml_RX0_43 ac_w.1 ac_w.2.1 ac_w.2.2 kd_59 (hid 59 (by decide)) kd_63 (hid 63 (by decide)) (by decide) (by decide) (by decide) rfl rfl rfl (by rw [al_59]; decide) (by rw [al_63]; decide) (Nat.le_of_ble_eq_true rfl) (Nat.le_of_ble_eq_true rfl) dX0_copy_50 ?_
  refine a_aload_n C dX0_copy_53 (i := 0) rfl rfl ?_
  refine a_aload_n C dX0_copy_54 (i := 1) rfl rfl ?_
  refine a_get C fl_RX0_49 (i := 56) kd_56 (hid 56 (by decide)) (v := .int 0) (congrArg (fun z => some (Value.int z)) h_56_4) dX0_copy_55 ?_
  refine a_put C fp_RX0_49 (i := 60) kd_60 (hid 60 (by decide)) rfl rfl dX0_copy_58 ?_
  refine a_aload_n C dX0_copy_61 (i := 0) rfl rfl ?_
  refine a_aload_n C dX0_copy_62 (i := 1) rfl rfl ?_
  refine a_get C fl_RX0_52 (i := 56) kd_56 (hid 56 (by decide)) (v := .int 0) (congrArg (fun z => some (Value.int z)) h_56_5) dX0_copy_63 ?_
  refine a_put C fp_RX0_52 (i := 60) kd_60 (hid 60 (by decide)) rfl rfl dX0_copy_66 ?_
  refine a_aload_n C dX0_copy_69 (i := 0) rfl rfl ?_
  refine a_aload_n C dX0_copy_70 (i := 1) rfl rfl ?_
  refine a_get C fl_RX0_55 (i := 56) kd_56 (hid 56 (by decide)) (v := .int 0) (congrArg (fun z => some (Value.int z)) h_56_6) dX0_copy_71 ?_
  refine a_put C fp_RX0_55 (i := 60) kd_60 (hid 60 (by decide)) rfl rfl dX0_copy_74 ?_
  refine a_aload_n C dX0_copy_77 (i := 0) rfl rfl ?_
  refine a_aload_n C dX0_copy_78 (i := 1) rfl rfl ?_
  refine a_get C fl_RX0_58 (i := 56) kd_56 (hid 56 (by decide)) (v := .int 0) (congrArg (fun z => some (Value.int z)) h_56_7) dX0_copy_79 ?_
  refine a_put C fp_RX0_58 (i := 60) kd_60 (hid 60 (by decide)) rfl rfl dX0_copy_82 ?_
  refine a_aload_n C dX0_copy_85 (i := 0) rfl rfl ?_
  refine a_aload_n C dX0_copy_86 (i := 1) rfl rfl ?_
  refine a_get C fl_RX0_61 (i := 56) kd_56 (hid 56 (by decide)) (v := .int 0) (congrArg (fun z => some (Value.int z)) h_56_8) dX0_copy_87 ?_
  refine a_put C fp_RX0_61 (i := 60) kd_60 (hid 60 (by decide)) rfl rfl dX0_copy_90 ?_
  refine a_aload_n C dX0_copy_93 (i := 0) rfl rfl ?_
  refine a_aload_n C dX0_copy_94 (i := 1) rfl rfl ?_
  refine a_get C fl_RX0_21 (i := 56) kd_56 (hid 56 (by decide)) (v := .int (-1)) (congrArg (fun z => some (Value.int z)) h_56_9) dX0_copy_95 ?_
  refine a_put C fp_RX0_21 (i := 60) kd_60 (hid 60 (by decide)) rfl rfl dX0_copy_98 ?_
  refine a_aload_n C dX0_copy_101 (i := 0) rfl rfl ?_
  refine a_aload_n C dX0_copy_102 (i := 1) rfl rfl ?_
  refine a_get C fl_RX0_67 (i := 56) kd_56 (hid 56 (by decide)) (v := .int 0) (congrArg (fun z => some (Value.int z)) h_56_10) dX0_copy_103 ?_
  refine a_put C fp_RX0_67 (i := 60) kd_60 (hid 60 (by decide)) rfl rfl dX0_copy_106 ?_
  refine a_aload_n C dX0_copy_109 (i := 0) rfl rfl ?_
  refine a_aload_n C dX0_copy_110 (i := 1) rfl rfl ?_
  refine a_get C fl_RX0_25 (i := 56) kd_56 (hid 56 (by decide)) (v := .int (-1)) (congrArg (fun z => some (Value.int z)) h_56_11) dX0_copy_111 ?_
  refine a_put C fp_RX0_25 (i := 60) kd_60 (hid 60 (by decide)) rfl rfl dX0_copy_114 ?_
  exact a_vret Rt dX0_copy_117 (⟨(only.I (only.I (only.I (only.I (only.I (only.I (only.I (only.I (only.C (only.C (only.C (only.I only.rf (by decide)) (by decide)) (by decide)) (by decide)) (by decide)) (by decide)) (by decide)) (by decide)) (by decide)) (by decide)) (by decide)) (by decide)), rfl, rfl, rfl, rfl, rfl⟩)
set_option maxHeartbeats 4000000 in
set_option maxRecDepth 100000 in
theorem k_copy_64 {l : Launch} {D : va_G} {ids : List Nat} {ad : Nat → Nat} {ca : Nat → ClassId} {σ : HS} (hid : ∀ i, i < 277 → i ∈ ids) (h_56_0 : σ.1 56 0 = 0) (h_56_4 : σ.1 56 4 = 0) (h_56_5 : σ.1 56 5 = 0) (h_56_6 : σ.1 56 6 = 0) (h_56_7 : σ.1 56 7 = 0) (h_56_8 : σ.1 56 8 = 0) (h_56_9 : σ.1 56 9 = (-1)) (h_56_10 : σ.1 56 10 = 0) (h_56_11 : σ.1 56 11 = (-1)) : Kv l D ids ad ca yX0_copy cX0_copy 2 1 60 [.ref (ad 64), .ref (ad 56)] σ (fun σ1 => only [64, 65, 66, 67] σ σ1 ∧ σ1.1 64 0 = 0 ∧ σ1.1 64 5 = 0 ∧ σ1.1 64 6 = 0 ∧ σ1.1 64 8 = 0 ∧ σ1.1 64 4 = 0) := by
  refine Kv.of (by decide) (Nat.le_of_ble_eq_true rfl) 0 (fun Γ C Rt => ?_)
  show AW ids ad ca Γ 0 [some (.ref (ad 64)), some (.ref (ad 56))] [] σ
  refine a_aload_n C dX0_copy_0 (i := 0) rfl rfl ?_
  refine a_aload_n C dX0_copy_1 (i := 1) rfl rfl ?_
  refine a_get C fl_RX0_33 (i := 56) kd_56 (hid 56 (by decide)) (v := .int 0) (congrArg (fun z => some (Value.int z)) h_56_0) dX0_copy_2 ?_
  refine a_put C fp_RX0_33 (i := 64) kd_64 (hid 64 (by decide)) rfl rfl dX0_copy_5 ?_
  refine a_aload_n C dX0_copy_8 (i := 1) rfl rfl ?_
  refine a_get C fl_RX0_9 (i := 56) kd_56 (hid 56 (by decide)) (v := .ref (ad 57)) rfl dX0_copy_9 ?_
  refine a_iconst C dX0_copy_12 (v := 0) rfl ?_
  refine a_aload_n C dX0_copy_13 (i := 0) rfl rfl ?_
  refine a_get C fl_RX0_9 (i := 64) kd_64 (hid 64 (by decide)) (v := .ref (ad 65)) rfl dX0_copy_14 ?_
  refine a_iconst C dX0_copy_17 (v := 0) rfl ?_
  refine a_bipush C dX0_copy_18 (v := 7) rfl ?_
  refine a_copyi C (i0 := 57) (i1 := 65) 0 0 7 ml_RX0_43 ac_w.1 ac_w.2.1 ac_w.2.2 kd_57 (hid 57 (by decide)) kd_65 (hid 65 (by decide)) (by decide) (by decide) (by decide) rfl rfl rfl (by rw [al_57]; decide) (by rw [al_65]; decide) (Nat.le_of_ble_eq_true rfl) (Nat.le_of_ble_eq_true rfl) dX0_copy_20 ?_
  refine a_aload_n C dX0_copy_23 (i := 1) rfl rfl ?_
  refine a_get C fl_RX0_15 (i := 56) kd_56 (hid 56 (by decide)) (v := .ref (ad 58)) rfl dX0_copy_24 ?_
  refine a_iconst C dX0_copy_27 (v := 0) rfl ?_
  refine a_aload_n C dX0_copy_28 (i := 0) rfl rfl ?_
  refine a_get C fl_RX0_15 (i := 64) kd_64 (hid 64 (by decide)) (v := .ref (ad 66)) rfl dX0_copy_29 ?_
  refine a_iconst C dX0_copy_32 (v := 0) rfl ?_
  refine a_bipush C dX0_copy_33 (v := 7) rfl ?_
  refine a_copyi C (i0 := 58) (i1 := 66) 0 0 7 ml_RX0_43 ac_w.1 ac_w.2.1 ac_w.2.2 kd_58 (hid 58 (by decide)) kd_66 (hid 66 (by decide)) (by decide) (by decide) (by decide) rfl rfl rfl (by rw [al_58]; decide) (by rw [al_66]; decide) (Nat.le_of_ble_eq_true rfl) (Nat.le_of_ble_eq_true rfl) dX0_copy_35 ?_
  refine a_aload_n C dX0_copy_38 (i := 1) rfl rfl ?_
  refine a_get C fl_RX0_18 (i := 56) kd_56 (hid 56 (by decide)) (v := .ref (ad 59)) rfl dX0_copy_39 ?_
  refine a_iconst C dX0_copy_42 (v := 0) rfl ?_
  refine a_aload_n C dX0_copy_43 (i := 0) rfl rfl ?_
  refine a_get C fl_RX0_18 (i := 64) kd_64 (hid 64 (by decide)) (v := .ref (ad 67)) rfl dX0_copy_44 ?_
  refine a_iconst C dX0_copy_47 (v := 0) rfl ?_
  refine a_bipush C dX0_copy_48 (v := 7) rfl ?_
  refine a_copyi C (i0 := 59) (i1 := 67) 0 0 7 ml_RX0_43 ac_w.1 ac_w.2.1 ac_w.2.2 kd_59 (hid 59 (by decide)) kd_67 (hid 67 (by decide)) (by decide) (by decide) (by decide) rfl rfl rfl (by rw [al_59]; decide) (by rw [al_67]; decide) (Nat.le_of_ble_eq_true rfl) (Nat.le_of_ble_eq_true rfl) dX0_copy_50 ?_
  refine a_aload_n C dX0_copy_53 (i := 0) rfl rfl ?_
  refine a_aload_n C dX0_copy_54 (i := 1) rfl rfl ?_
  refine a_get C fl_RX0_49 (i := 56) kd_56 (hid 56 (by decide)) (v := .int 0) (congrArg (fun z => some (Value.int z)) h_56_4) dX0_copy_55 ?_
  refine a_put C fp_RX0_49 (i := 64) kd_64 (hid 64 (by decide)) rfl rfl dX0_copy_58 ?_
  refine a_aload_n C dX0_copy_61 (i := 0) rfl rfl ?_
  refine a_aload_n C dX0_copy_62 (i := 1) rfl rfl ?_
  refine a_get C fl_RX0_52 (i := 56) kd_56 (hid 56 (by decide)) (v := .int 0) (congrArg (fun z => some (Value.int z)) h_56_5) dX0_copy_63 ?_
  refine a_put C fp_RX0_52 (i := 64) kd_64 (hid 64 (by decide)) rfl rfl dX0_copy_66 ?_
  refine a_aload_n C dX0_copy_69 (i := 0) rfl rfl ?_
  refine a_aload_n C dX0_copy_70 (i := 1) rfl rfl ?_
  refine a_get C fl_RX0_55 (i := 56) kd_56 (hid 56 (by decide)) (v := .int 0) (congrArg (fun z => some (Value.int z)) h_56_6) dX0_copy_71 ?_
  refine a_put C fp_RX0_55 (i := 64) kd_64 (hid 64 (by decide)) rfl rfl dX0_copy_74 ?_
  refine a_aload_n C dX0_copy_77 (i := 0) rfl rfl ?_
  refine a_aload_n C dX0_copy_78 (i := 1) rfl rfl ?_
  refine a_get C fl_RX0_58 (i := 56) kd_56 (hid 56 (by decide)) (v := .int 0) (congrArg (fun z => some (Value.int z)) h_56_7) dX0_copy_79 ?_
  refine a_put C fp_RX0_58 (i := 64) kd_64 (hid 64 (by decide)) rfl rfl dX0_copy_82 ?_
  refine a_aload_n C dX0_copy_85 (i := 0) rfl rfl ?_
  refine a_aload_n C dX0_copy_86 (i := 1) rfl rfl ?_
  refine a_get C fl_RX0_61 (i := 56) kd_56 (hid 56 (by decide)) (v := .int 0) (congrArg (fun z => some (Value.int z)) h_56_8) dX0_copy_87 ?_
  refine a_put C fp_RX0_61 (i := 64) kd_64 (hid 64 (by decide)) rfl rfl dX0_copy_90 ?_
  refine a_aload_n C dX0_copy_93 (i := 0) rfl rfl ?_
  refine a_aload_n C dX0_copy_94 (i := 1) rfl rfl ?_
  refine a_get C fl_RX0_21 (i := 56) kd_56 (hid 56 (by decide)) (v := .int (-1)) (congrArg (fun z => some (Value.int z)) h_56_9) dX0_copy_95 ?_
  refine a_put C fp_RX0_21 (i := 64) kd_64 (hid 64 (by decide)) rfl rfl dX0_copy_98 ?_
  refine a_aload_n C dX0_copy_101 (i := 0) rfl rfl ?_
  refine a_aload_n C dX0_copy_102 (i := 1) rfl rfl ?_
  refine a_get C fl_RX0_67 (i := 56) kd_56 (hid 56 (by decide)) (v := .int 0) (congrArg (fun z => some (Value.int z)) h_56_10) dX0_copy_103 ?_
  refine a_put C fp_RX0_67 (i := 64) kd_64 (hid 64 (by decide)) rfl rfl dX0_copy_106 ?_
  refine a_aload_n C dX0_copy_109 (i := 0) rfl rfl ?_
  refine a_aload_n C dX0_copy_110 (i := 1) rfl rfl ?_
  refine a_get C fl_RX0_25 (i := 56) kd_56 (hid 56 (by decide)) (v := .int (-1)) (congrArg (fun z => some (Value.int z)) h_56_11) dX0_copy_111 ?_
  refine a_put C fp_RX0_25 (i := 64) kd_64 (hid 64 (by decide)) rfl rfl dX0_copy_114 ?_
  exact a_vret Rt dX0_copy_117 (⟨(only.I (only.I (only.I (only.I (only.I (only.I (only.I (only.I (only.C (only.C (only.C (only.I only.rf (by decide)) (by decide)) (by decide)) (by decide)) (by decide)) (by decide)) (by decide)) (by decide)) (by decide)) (by decide)) (by decide)) (by decide)), rfl, rfl, rfl, rfl, rfl⟩)
set_option maxHeartbeats 4000000 in
set_option maxRecDepth 100000 in
theorem k_copy_68 {l : Launch} {D : va_G} {ids : List Nat} {ad : Nat → Nat} {ca : Nat → ClassId} {σ : HS} (hid : ∀ i, i < 277 → i ∈ ids) (h_56_0 : σ.1 56 0 = 0) (h_56_4 : σ.1 56 4 = 0) (h_56_5 : σ.1 56 5 = 0) (h_56_6 : σ.1 56 6 = 0) (h_56_7 : σ.1 56 7 = 0) (h_56_8 : σ.1 56 8 = 0) (h_56_9 : σ.1 56 9 = (-1)) (h_56_10 : σ.1 56 10 = 0) (h_56_11 : σ.1 56 11 = (-1)) : Kv l D ids ad ca yX0_copy cX0_copy 2 1 60 [.ref (ad 68), .ref (ad 56)] σ (fun σ1 => only [68, 69, 70, 71] σ σ1 ∧ σ1.1 68 0 = 0 ∧ σ1.1 68 5 = 0 ∧ σ1.1 68 6 = 0 ∧ σ1.1 68 8 = 0 ∧ σ1.1 68 4 = 0) := by
  refine Kv.of (by decide) (Nat.le_of_ble_eq_true rfl) 0 (fun Γ C Rt => ?_)
  show AW ids ad ca Γ 0 [some (.ref (ad 68)), some (.ref (ad 56))] [] σ
  refine a_aload_n C dX0_copy_0 (i := 0) rfl rfl ?_
  refine a_aload_n C dX0_copy_1 (i := 1) rfl rfl ?_
  refine a_get C fl_RX0_33 (i := 56) kd_56 (hid 56 (by decide)) (v := .int 0) (congrArg (fun z => some (Value.int z)) h_56_0) dX0_copy_2 ?_
  refine a_put C fp_RX0_33 (i := 68) kd_68 (hid 68 (by decide)) rfl rfl dX0_copy_5 ?_
  refine a_aload_n C dX0_copy_8 (i := 1) rfl rfl ?_
  refine a_get C fl_RX0_9 (i := 56) kd_56 (hid 56 (by decide)) (v := .ref (ad 57)) rfl dX0_copy_9 ?_
  refine a_iconst C dX0_copy_12 (v := 0) rfl ?_
  refine a_aload_n C dX0_copy_13 (i := 0) rfl rfl ?_
  refine a_get C fl_RX0_9 (i := 68) kd_68 (hid 68 (by decide)) (v := .ref (ad 69)) rfl dX0_copy_14 ?_
  refine a_iconst C dX0_copy_17 (v := 0) rfl ?_
  refine a_bipush C dX0_copy_18 (v := 7) rfl ?_
  refine a_copyi C (i0 := 57) (i1 := 69) 0 0 7 ml_RX0_43 ac_w.1 ac_w.2.1 ac_w.2.2 kd_57 (hid 57 (by decide)) kd_69 (hid 69 (by decide)) (by decide) (by decide) (by decide) rfl rfl rfl (by rw [al_57]; decide) (by rw [al_69]; decide) (Nat.le_of_ble_eq_true rfl) (Nat.le_of_ble_eq_true rfl) dX0_copy_20 ?_
  refine a_aload_n C dX0_copy_23 (i := 1) rfl rfl ?_
  refine a_get C fl_RX0_15 (i := 56) kd_56 (hid 56 (by decide)) (v := .ref (ad 58)) rfl dX0_copy_24 ?_
  refine a_iconst C dX0_copy_27 (v := 0) rfl ?_
  refine a_aload_n C dX0_copy_28 (i := 0) rfl rfl ?_
  refine a_get C fl_RX0_15 (i := 68) kd_68 (hid 68 (by decide)) (v := .ref (ad 70)) rfl dX0_copy_29 ?_
  refine a_iconst C dX0_copy_32 (v := 0) rfl ?_
  refine a_bipush C dX0_copy_33 (v := 7) rfl ?_
  refine a_copyi C (i0 := 58) (i1 := 70) 0 0 7 ml_RX0_43 ac_w.1 ac_w.2.1 ac_w.2.2 kd_58 (hid 58 (by decide)) kd_70 (hid 70 (by decide)) (by decide) (by decide) (by decide) rfl rfl rfl (by rw [al_58]; decide) (by rw [al_70]; decide) (Nat.le_of_ble_eq_true rfl) (Nat.le_of_ble_eq_true rfl) dX0_copy_35 ?_
  refine a_aload_n C dX0_copy_38 (i := 1) rfl rfl ?_
  refine a_get C fl_RX0_18 (i := 56) kd_56 (hid 56 (by decide)) (v := .ref (ad 59)) rfl dX0_copy_39 ?_
  refine a_iconst C dX0_copy_42 (v := 0) rfl ?_
  refine a_aload_n C dX0_copy_43 (i := 0) rfl rfl ?_
  refine a_get C fl_RX0_18 (i := 68) kd_68 (hid 68 (by decide)) (v := .ref (ad 71)) rfl dX0_copy_44 ?_
  refine a_iconst C dX0_copy_47 (v := 0) rfl ?_
  refine a_bipush C dX0_copy_48 (v := 7) rfl ?_
  refine a_copyi C (i0 := 59) (i1 := 71) 0 0 7 ml_RX0_43 ac_w.1 ac_w.2.1 ac_w.2.2 kd_59 (hid 59 (by decide)) kd_71 (hid 71 (by decide)) (by decide) (by decide) (by decide) rfl rfl rfl (by rw [al_59]; decide) (by rw [al_71]; decide) (Nat.le_of_ble_eq_true rfl) (Nat.le_of_ble_eq_true rfl) dX0_copy_50 ?_
  refine a_aload_n C dX0_copy_53 (i := 0) rfl rfl ?_
  refine a_aload_n C dX0_copy_54 (i := 1) rfl rfl ?_
  refine a_get C fl_RX0_49 (i := 56) kd_56 (hid 56 (by decide)) (v := .int 0) (congrArg (fun z => some (Value.int z)) h_56_4) dX0_copy_55 ?_
  refine a_put C fp_RX0_49 (i := 68) kd_68 (hid 68 (by decide)) rfl rfl dX0_copy_58 ?_
  refine a_aload_n C dX0_copy_61 (i := 0) rfl rfl ?_
  refine a_aload_n C dX0_copy_62 (i := 1) rfl rfl ?_
  refine a_get C fl_RX0_52 (i := 56) kd_56 (hid 56 (by decide)) (v := .int 0) (congrArg (fun z => some (Value.int z)) h_56_5) dX0_copy_63 ?_
  refine a_put C fp_RX0_52 (i := 68) kd_68 (hid 68 (by decide)) rfl rfl dX0_copy_66 ?_
  refine a_aload_n C dX0_copy_69 (i := 0) rfl rfl ?_
  refine a_aload_n C dX0_copy_70 (i := 1) rfl rfl ?_
  refine a_get C fl_RX0_55 (i := 56) kd_56 (hid 56 (by decide)) (v := .int 0) (congrArg (fun z => some (Value.int z)) h_56_6) dX0_copy_71 ?_
  refine a_put C fp_RX0_55 (i := 68) kd_68 (hid 68 (by decide)) rfl rfl dX0_copy_74 ?_
  refine a_aload_n C dX0_copy_77 (i := 0) rfl rfl ?_
  refine a_aload_n C dX0_copy_78 (i := 1) rfl rfl ?_
  refine a_get C fl_RX0_58 (i := 56) kd_56 (hid 56 (by decide)) (v := .int 0) (congrArg (fun z => some (Value.int z)) h_56_7) dX0_copy_79 ?_
  refine a_put C fp_RX0_58 (i := 68) kd_68 (hid 68 (by decide)) rfl rfl dX0_copy_82 ?_
  refine a_aload_n C dX0_copy_85 (i := 0) rfl rfl ?_
  refine a_aload_n C dX0_copy_86 (i := 1) rfl rfl ?_
  refine a_get C fl_RX0_61 (i := 56) kd_56 (hid 56 (by decide)) (v := .int 0) (congrArg (fun z => some (Value.int z)) h_56_8) dX0_copy_87 ?_
  refine a_put C fp_RX0_61 (i := 68) kd_68 (hid 68 (by decide)) rfl rfl dX0_copy_90 ?_
  refine a_aload_n C dX0_copy_93 (i := 0) rfl rfl ?_
  refine a_aload_n C dX0_copy_94 (i := 1) rfl rfl ?_
  refine a_get C fl_RX0_21 (i := 56) kd_56 (hid 56 (by decide)) (v := .int (-1)) (congrArg (fun z => some (Value.int z)) h_56_9) dX0_copy_95 ?_
  refine a_put C fp_RX0_21 (i := 68) kd_68 (hid 68 (by decide)) rfl rfl dX0_copy_98 ?_
  refine a_aload_n C dX0_copy_101 (i := 0) rfl rfl ?_
  refine a_aload_n C dX0_copy_102 (i := 1) rfl rfl ?_
  refine a_get C fl_RX0_67 (i := 56) kd_56 (hid 56 (by decide)) (v := .int 0) (congrArg (fun z => some (Value.int z)) h_56_10) dX0_copy_103 ?_
  refine a_put C fp_RX0_67 (i := 68) kd_68 (hid 68 (by decide)) rfl rfl dX0_copy_106 ?_
  refine a_aload_n C dX0_copy_109 (i := 0) rfl rfl ?_
  refine a_aload_n C dX0_copy_110 (i := 1) rfl rfl ?_
  refine a_get C fl_RX0_25 (i := 56) kd_56 (hid 56 (by decide)) (v := .int (-1)) (congrArg (fun z => some (Value.int z)) h_56_11) dX0_copy_111 ?_
  refine a_put C fp_RX0_25 (i := 68) kd_68 (hid 68 (by decide)) rfl rfl dX0_copy_114 ?_
  exact a_vret Rt dX0_copy_117 (⟨(only.I (only.I (only.I (only.I (only.I (only.I (only.I (only.I (only.C (only.C (only.C (only.I only.rf (by decide)) (by decide)) (by decide)) (by decide)) (by decide)) (by decide)) (by decide)) (by decide)) (by decide)) (by decide)) (by decide)) (by decide)), rfl, rfl, rfl, rfl, rfl⟩)
set_option maxHeartbeats 4000000 in
set_option maxRecDepth 100000 in
theorem k_copy_72 {l : Launch} {D : va_G} {ids : List Nat} {ad : Nat → Nat} {ca : Nat → ClassId} {σ : HS} (hid : ∀ i, i < 277 → i ∈ ids) (h_56_0 : σ.1 56 0 = 0) (h_56_4 : σ.1 56 4 = 0) (h_56_5 : σ.1 56 5 = 0) (h_56_6 : σ.1 56 6 = 0) (h_56_7 : σ.1 56 7 = 0) (h_56_8 : σ.1 56 8 = 0) (h_56_9 : σ.1 56 9 = (-1)) (h_56_10 : σ.1 56 10 = 0) (h_56_11 : σ.1 56 11 = (-1)) : Kv l D ids ad ca yX0_copy cX0_copy 2 1 60 [.ref (ad 72), .ref (ad 56)] σ (fun σ1 => only [72, 73, 74, 75] σ σ1 ∧ σ1.1 72 0 = 0 ∧ σ1.1 72 5 = 0 ∧ σ1.1 72 6 = 0 ∧ σ1.1 72 8 = 0 ∧ σ1.1 72 4 = 0) := by
  refine Kv.of (by decide) (Nat.le_of_ble_eq_true rfl) 0 (fun Γ C Rt => ?_)
  show AW ids ad ca Γ 0 [some (.ref (ad 72)), some (.ref (ad 56))] [] σ
  refine a_aload_n C dX0_copy_0 (i := 0) rfl rfl ?_
  refine a_aload_n C dX0_copy_1 (i := 1) rfl rfl ?_
  refine a_get C fl_RX0_33 (i := 56) kd_56 (hid 56 (by decide)) (v := .int 0) (congrArg (fun z => some (Value.int z)) h_56_0) dX0_copy_2 ?_
  refine a_put C fp_RX0_33 (i := 72) kd_72 (hid 72 (by decide)) rfl rfl dX0_copy_5 ?_
  refine a_aload_n C dX0_copy_8 (i := 1) rfl rfl ?_
  refine a_get C fl_RX0_9 (i := 56) kd_56 (hid 56 (by decide)) (v := .ref (ad 57)) rfl dX0_copy_9 ?_
  refine a_iconst C dX0_copy_12 (v := 0) rfl ?_
  refine a_aload_n C dX0_copy_13 (i := 0) rfl rfl ?_
  refine a_get C fl_RX0_9 (i := 72) kd_72 (hid 72 (by decide)) (v := .ref (ad 73)) rfl dX0_copy_14 ?_
  refine a_iconst C dX0_copy_17 (v := 0) rfl ?_
  refine a_bipush C dX0_copy_18 (v := 7) rfl ?_
  refine a_copyi C (i0 := 57) (i1 := 73) 0 0 7 ml_RX0_43 ac_w.1 ac_w.2.1 ac_w.2.2 kd_57 (hid 57 (by decide)) kd_73 (hid 73 (by decide)) (by decide) (by decide) (by decide) rfl rfl rfl (by rw [al_57]; decide) (by rw [al_73]; decide) (Nat.le_of_ble_eq_true rfl) (Nat.le_of_ble_eq_true rfl) dX0_copy_20 ?_
  refine a_aload_n C dX0_copy_23 (i := 1) rfl rfl ?_
  refine a_get C fl_RX0_15 (i := 56) kd_56 (hid 56 (by decide)) (v := .ref (ad 58)) rfl dX0_copy_24 ?_
  refine a_iconst C dX0_copy_27 (v := 0) rfl ?_
  refine a_aload_n C dX0_copy_28 (i := 0) rfl rfl ?_
  refine a_get C fl_RX0_15 (i := 72) kd_72 (hid 72 (by decide)) (v := .ref (ad 74)) rfl dX0_copy_29 ?_
  refine a_iconst C dX0_copy_32 (v := 0) rfl ?_
  refine a_bipush C dX0_copy_33 (v := 7) rfl ?_
  refine a_copyi C (i0 := 58) (i1 := 74) 0 0 7 ml_RX0_43 ac_w.1 ac_w.2.1 ac_w.2.2 kd_58 (hid 58 (by decide)) kd_74 (hid 74 (by decide)) (by decide) (by decide) (by decide) rfl rfl rfl (by rw [al_58]; decide) (by rw [al_74]; decide) (Nat.le_of_ble_eq_true rfl) (Nat.le_of_ble_eq_true rfl) dX0_copy_35 ?_
  refine a_aload_n C dX0_copy_38 (i := 1) rfl rfl ?_
  refine a_get C fl_RX0_18 (i := 56) kd_56 (hid 56 (by decide)) (v := .ref (ad 59)) rfl dX0_copy_39 ?_
  refine a_iconst C dX0_copy_42 (v := 0) rfl ?_
  refine a_aload_n C dX0_copy_43 (i := 0) rfl rfl ?_
  refine a_get C fl_RX0_18 (i := 72) kd_72 (hid 72 (by decide)) (v := .ref (ad 75)) rfl dX0_copy_44 ?_
  refine a_iconst C dX0_copy_47 (v := 0) rfl ?_
  refine a_bipush C dX0_copy_48 (v := 7) rfl ?_
  refine a_copyi C (i0 := 59) (i1 := 75) 0 0 7 ml_RX0_43 ac_w.1 ac_w.2.1 ac_w.2.2 kd_59 (hid 59 (by decide)) kd_75 (hid 75 (by decide)) (by decide) (by decide) (by decide) rfl rfl rfl (by rw [al_59]; decide) (by rw [al_75]; decide) (Nat.le_of_ble_eq_true rfl) (Nat.le_of_ble_eq_true rfl) dX0_copy_50 ?_
  refine a_aload_n C dX0_copy_53 (i := 0) rfl rfl ?_
  refine a_aload_n C dX0_copy_54 (i := 1) rfl rfl ?_
  refine a_get C fl_RX0_49 (i := 56) kd_56 (hid 56 (by decide)) (v := .int 0) (congrArg (fun z => some (Value.int z)) h_56_4) dX0_copy_55 ?_
  refine a_put C fp_RX0_49 (i := 72) kd_72 (hid 72 (by decide)) rfl rfl dX0_copy_58 ?_
  refine a_aload_n C dX0_copy_61 (i := 0) rfl rfl ?_
  refine a_aload_n C dX0_copy_62 (i := 1) rfl rfl ?_
  refine a_get C fl_RX0_52 (i := 56) kd_56 (hid 56 (by decide)) (v := .int 0) (congrArg (fun z => some (Value.int z)) h_56_5) dX0_copy_63 ?_
  refine a_put C fp_RX0_52 (i := 72) kd_72 (hid 72 (by decide)) rfl rfl dX0_copy_66 ?_
  refine a_aload_n C dX0_copy_69 (i := 0) rfl rfl ?_
  refine a_aload_n C dX0_copy_70 (i := 1) rfl rfl ?_
  refine a_get C fl_RX0_55 (i := 56) kd_56 (hid 56 (by decide)) (v := .int 0) (congrArg (fun z => some (Value.int z)) h_56_6) dX0_copy_71 ?_
  refine a_put C fp_RX0_55 (i := 72) kd_72 (hid 72 (by decide)) rfl rfl dX0_copy_74 ?_
  refine a_aload_n C dX0_copy_77 (i := 0) rfl rfl ?_
  refine a_aload_n C dX0_copy_78 (i := 1) rfl rfl ?_
  refine a_get C fl_RX0_58 (i := 56) kd_56 (hid 56 (by decide)) (v := .int 0) (congrArg (fun z => some (Value.int z)) h_56_7) dX0_copy_79 ?_
  refine a_put C fp_RX0_58 (i := 72) kd_72 (hid 72 (by decide)) rfl rfl dX0_copy_82 ?_
  refine a_aload_n C dX0_copy_85 (i := 0) rfl rfl ?_
  refine a_aload_n C dX0_copy_86 (i := 1) rfl rfl ?_
  refine a_get C fl_RX0_61 (i := 56) kd_56 (hid 56 (by decide)) (v := .int 0) (congrArg (fun z => some (Value.int z)) h_56_8) dX0_copy_87 ?_
  refine a_put C fp_RX0_61 (i := 72) kd_72 (hid 72 (by decide)) rfl rfl dX0_copy_90 ?_
  refine a_aload_n C dX0_copy_93 (i := 0) rfl rfl ?_
  refine a_aload_n C dX0_copy_94 (i := 1) rfl rfl ?_
  refine a_get C fl_RX0_21 (i := 56) kd_56 (hid 56 (by decide)) (v := .int (-1)) (congrArg (fun z => some (Value.int z)) h_56_9) dX0_copy_95 ?_
  refine a_put C fp_RX0_21 (i := 72) kd_72 (hid 72 (by decide)) rfl rfl dX0_copy_98 ?_
  refine a_aload_n C dX0_copy_101 (i := 0) rfl rfl ?_
  refine a_aload_n C dX0_copy_102 (i := 1) rfl rfl ?_
  refine a_get C fl_RX0_67 (i := 56) kd_56 (hid 56 (by decide)) (v := .int 0) (congrArg (fun z => some (Value.int z)) h_56_10) dX0_copy_103 ?_
  refine a_put C fp_RX0_67 (i := 72) kd_72 (hid 72 (by decide)) rfl rfl dX0_copy_106 ?_
  refine a_aload_n C dX0_copy_109 (i := 0) rfl rfl ?_
  refine a_aload_n C dX0_copy_110 (i := 1) rfl rfl ?_
  refine a_get C fl_RX0_25 (i := 56) kd_56 (hid 56 (by decide)) (v := .int (-1)) (congrArg (fun z => some (Value.int z)) h_56_11) dX0_copy_111 ?_
  refine a_put C fp_RX0_25 (i := 72) kd_72 (hid 72 (by decide)) rfl rfl dX0_copy_114 ?_
  exact a_vret Rt dX0_copy_117 (⟨(only.I (only.I (only.I (only.I (only.I (only.I (only.I (only.I (only.C (only.C (only.C (only.I only.rf (by decide)) (by decide)) (by decide)) (by decide)) (by decide)) (by decide)) (by decide)) (by decide)) (by decide)) (by decide)) (by decide)) (by decide)), rfl, rfl, rfl, rfl, rfl⟩)
set_option maxHeartbeats 4000000 in
set_option maxRecDepth 100000 in
theorem k_copy_76 {l : Launch} {D : va_G} {ids : List Nat} {ad : Nat → Nat} {ca : Nat → ClassId} {σ : HS} (hid : ∀ i, i < 277 → i ∈ ids) (h_56_0 : σ.1 56 0 = 0) (h_56_4 : σ.1 56 4 = 0) (h_56_5 : σ.1 56 5 = 0) (h_56_6 : σ.1 56 6 = 0) (h_56_7 : σ.1 56 7 = 0) (h_56_8 : σ.1 56 8 = 0) (h_56_9 : σ.1 56 9 = (-1)) (h_56_10 : σ.1 56 10 = 0) (h_56_11 : σ.1 56 11 = (-1)) : Kv l D ids ad ca yX0_copy cX0_copy 2 1 60 [.ref (ad 76), .ref (ad 56)] σ (fun σ1 => only [76, 77, 78, 79] σ σ1 ∧ σ1.1 76 0 = 0 ∧ σ1.1 76 5 = 0 ∧ σ1.1 76 6 = 0 ∧ σ1.1 76 8 = 0 ∧ σ1.1 76 4 = 0) := by
  refine Kv.of (by decide) (Nat.le_of_ble_eq_true rfl) 0 (fun Γ C Rt => ?_)
  show AW ids ad ca Γ 0 [some (.ref (ad 76)), some (.ref (ad 56))] [] σ
  refine a_aload_n C dX0_copy_0 (i := 0) rfl rfl ?_
  refine a_aload_n C dX0_copy_1 (i := 1) rfl rfl ?_
  refine a_get C fl_RX0_33 (i := 56) kd_56 (hid 56 (by decide)) (v := .int 0) (congrArg (fun z => some (Value.int z)) h_56_0) dX0_copy_2 ?_
  refine a_put C fp_RX0_33 (i := 76) kd_76 (hid 76 (by decide)) rfl rfl dX0_copy_5 ?_
  refine a_aload_n C dX0_copy_8 (i := 1) rfl rfl ?_
  refine a_get C fl_RX0_9 (i := 56) kd_56 (hid 56 (by decide)) (v := .ref (ad 57)) rfl dX0_copy_9 ?_
  refine a_iconst C dX0_copy_12 (v := 0) rfl ?_
  refine a_aload_n C dX0_copy_13 (i := 0) rfl rfl ?_
  refine a_get C fl_RX0_9 (i := 76) kd_76 (hid 76 (by decide)) (v := .ref (ad 77)) rfl dX0_copy_14 ?_
  refine a_iconst C dX0_copy_17 (v := 0) rfl ?_
  refine a_bipush C dX0_copy_18 (v := 7) rfl ?_
  refine a_copyi C (i0 := 57) (i1 := 77) 0 0 7 ml_RX0_43 ac_w.1 ac_w.2.1 ac_w.2.2 kd_57 (hid 57 (by decide)) kd_77 (hid 77 (by decide)) (by decide) (by decide) (by decide) rfl rfl rfl (by rw [al_57]; decide) (by rw [al_77]; decide) (Nat.le_of_ble_eq_true rfl) (Nat.le_of_ble_eq_true rfl) dX0_copy_20 ?_
  refine a_aload_n C dX0_copy_23 (i := 1) rfl rfl ?_
  refine a_get C fl_RX0_15 (i := 56) kd_56 (hid 56 (by decide)) (v := .ref (ad 58)) rfl dX0_copy_24 ?_
  refine a_iconst C dX0_copy_27 (v := 0) rfl ?_
  refine a_aload_n C dX0_copy_28 (i := 0) rfl rfl ?_
  refine a_get C fl_RX0_15 (i := 76) kd_76 (hid 76 (by decide)) (v := .ref (ad 78)) rfl dX0_copy_29 ?_
  refine a_iconst C dX0_copy_32 (v := 0) rfl ?_
  refine a_bipush C dX0_copy_33 (v := 7) rfl ?_
  refine a_copyi C (i0 := 58) (i1 := 78) 0 0 7 ml_RX0_43 ac_w.1 ac_w.2.1 ac_w.2.2 kd_58 (hid 58 (by decide)) kd_78 (hid 78 (by decide)) (by decide) (by decide) (by decide) rfl rfl rfl (by rw [al_58]; decide) (by rw [al_78]; decide) (Nat.le_of_ble_eq_true rfl) (Nat.le_of_ble_eq_true rfl) dX0_copy_35 ?_
  refine a_aload_n C dX0_copy_38 (i := 1) rfl rfl ?_
  refine a_get C fl_RX0_18 (i := 56) kd_56 (hid 56 (by decide)) (v := .ref (ad 59)) rfl dX0_copy_39 ?_
  refine a_iconst C dX0_copy_42 (v := 0) rfl ?_
  refine a_aload_n C dX0_copy_43 (i := 0) rfl rfl ?_
  refine a_get C fl_RX0_18 (i := 76) kd_76 (hid 76 (by decide)) (v := .ref (ad 79)) rfl dX0_copy_44 ?_
  refine a_iconst C dX0_copy_47 (v := 0) rfl ?_
  refine a_bipush C dX0_copy_48 (v := 7) rfl ?_
  refine a_copyi C (i0 := 59) (i1 := 79) 0 0 7 ml_RX0_43 ac_w.1 ac_w.2.1 ac_w.2.2 kd_59 (hid 59 (by decide)) kd_79 (hid 79 (by decide)) (by decide) (by decide) (by decide) rfl rfl rfl (by rw [al_59]; decide) (by rw [al_79]; decide) (Nat.le_of_ble_eq_true rfl) (Nat.le_of_ble_eq_true rfl) dX0_copy_50 ?_
  refine a_aload_n C dX0_copy_53 (i := 0) rfl rfl ?_
  refine a_aload_n C dX0_copy_54 (i := 1) rfl rfl ?_
  refine a_get C fl_RX0_49 (i := 56) kd_56 (hid 56 (by decide)) (v := .int 0) (congrArg (fun z => some (Value.int z)) h_56_4) dX0_copy_55 ?_
  refine a_put C fp_RX0_49 (i := 76) kd_76 (hid 76 (by decide)) rfl rfl dX0_copy_58 ?_
  refine a_aload_n C dX0_copy_61 (i := 0) rfl rfl ?_
  refine a_aload_n C dX0_copy_62 (i := 1) rfl rfl ?_
  refine a_get C fl_RX0_52 (i := 56) kd_56 (hid 56 (by decide)) (v := .int 0) (congrArg (fun z => some (Value.int z)) h_56_5) dX0_copy_63 ?_
  refine a_put C fp_RX0_52 (i := 76) kd_76 (hid 76 (by decide)) rfl rfl dX0_copy_66 ?_
  refine a_aload_n C dX0_copy_69 (i := 0) rfl rfl ?_
  refine a_aload_n C dX0_copy_70 (i := 1) rfl rfl ?_
  refine a_get C fl_RX0_55 (i := 56) kd_56 (hid 56 (by decide)) (v := .int 0) (congrArg (fun z => some (Value.int z)) h_56_6) dX0_copy_71 ?_
  refine a_put C fp_RX0_55 (i := 76) kd_76 (hid 76 (by decide)) rfl rfl dX0_copy_74 ?_
  refine a_aload_n C dX0_copy_77 (i := 0) rfl rfl ?_
  refine a_aload_n C dX0_copy_78 (i := 1) rfl rfl ?_
  refine a_get C fl_RX0_58 (i := 56) kd_56 (hid 56 (by decide)) (v := .int 0) (congrArg (fun z => some (Value.int z)) h_56_7) dX0_copy_79 ?_
  refine a_put C fp_RX0_58 (i := 76) kd_76 (hid 76 (by decide)) rfl rfl dX0_copy_82 ?_
  refine a_aload_n C dX0_copy_85 (i := 0) rfl rfl ?_
  refine a_aload_n C dX0_copy_86 (i := 1) rfl rfl ?_
  refine a_get C fl_RX0_61 (i := 56) kd_56 (hid 56 (by decide)) (v := .int 0) (congrArg (fun z => some (Value.int z)) h_56_8) dX0_copy_87 ?_
  refine a_put C fp_RX0_61 (i := 76) kd_76 (hid 76 (by decide)) rfl rfl dX0_copy_90 ?_
  refine a_aload_n C dX0_copy_93 (i := 0) rfl rfl ?_
  refine a_aload_n C dX0_copy_94 (i := 1) rfl rfl ?_
  refine a_get C fl_RX0_21 (i := 56) kd_56 (hid 56 (by decide)) (v := .int (-1)) (congrArg (fun z => some (Value.int z)) h_56_9) dX0_copy_95 ?_
  refine a_put C fp_RX0_21 (i := 76) kd_76 (hid 76 (by decide)) rfl rfl dX0_copy_98 ?_
  refine a_aload_n C dX0_copy_101 (i := 0) rfl rfl ?_
  refine a_aload_n C dX0_copy_102 (i := 1) rfl rfl ?_
  refine a_get C fl_RX0_67 (i := 56) kd_56 (hid 56 (by decide)) (v := .int 0) (congrArg (fun z => some (Value.int z)) h_56_10) dX0_copy_103 ?_
  refine a_put C fp_RX0_67 (i := 76) kd_76 (hid 76 (by decide)) rfl rfl dX0_copy_106 ?_
  refine a_aload_n C dX0_copy_109 (i := 0) rfl rfl ?_
  refine a_aload_n C dX0_copy_110 (i := 1) rfl rfl ?_
  refine a_get C fl_RX0_25 (i := 56) kd_56 (hid 56 (by decide)) (v := .int (-1)) (congrArg (fun z => some (Value.int z)) h_56_11) dX0_copy_111 ?_
  refine a_put C fp_RX0_25 (i := 76) kd_76 (hid 76 (by decide)) rfl rfl dX0_copy_114 ?_
  exact a_vret Rt dX0_copy_117 (⟨(only.I (only.I (only.I (only.I (only.I (only.I (only.I (only.I (only.C (only.C (only.C (only.I only.rf (by decide)) (by decide)) (by decide)) (by decide)) (by decide)) (by decide)) (by decide)) (by decide)) (by decide)) (by decide)) (by decide)) (by decide)), rfl, rfl, rfl, rfl, rfl⟩)
theorem dX5_keep_0 : decode cX5_keep 0 = .ok (.aload_n 0, 1) := by decide +kernel
theorem dX5_keep_1 : decode cX5_keep 1 = .ok (.getfield 11, 3) := by decide +kernel
theorem dX5_keep_4 : decode cX5_keep 4 = .ok (.aload_n 0, 1) := by decide +kernel
theorem dX5_keep_5 : decode cX5_keep 5 = .ok (.getfield 22, 3) := by decide +kernel
theorem dX5_keep_8 : decode cX5_keep 8 = .ok (.aaload, 1) := by decide +kernel
theorem dX5_keep_9 : decode cX5_keep 9 = .ok (.aload_n 1, 1) := by decide +kernel
theorem dX5_keep_10 : decode cX5_keep 10 = .ok (.invokevirtual 25, 3) := by decide +kernel
theorem dX5_keep_13 : decode cX5_keep 13 = .ok (.aload_n 0, 1) := by decide +kernel
theorem dX5_keep_14 : decode cX5_keep 14 = .ok (.aload_n 0, 1) := by decide +kernel
theorem dX5_keep_15 : decode cX5_keep 15 = .ok (.getfield 22, 3) := by decide +kernel
theorem dX5_keep_18 : decode cX5_keep 18 = .ok (.iconst 1, 1) := by decide +kernel
theorem dX5_keep_19 : decode cX5_keep 19 = .ok (.iadd, 1) := by decide +kernel
theorem dX5_keep_20 : decode cX5_keep 20 = .ok (.bipush 40, 2) := by decide +kernel
theorem dX5_keep_22 : decode cX5_keep 22 = .ok (.irem, 1) := by decide +kernel
theorem dX5_keep_23 : decode cX5_keep 23 = .ok (.putfield 22, 3) := by decide +kernel
theorem dX5_keep_26 : decode cX5_keep 26 = .ok (.aload_n 0, 1) := by decide +kernel
theorem dX5_keep_27 : decode cX5_keep 27 = .ok (.bipush 40, 2) := by decide +kernel
theorem dX5_keep_29 : decode cX5_keep 29 = .ok (.aload_n 0, 1) := by decide +kernel
theorem dX5_keep_30 : decode cX5_keep 30 = .ok (.getfield 18, 3) := by decide +kernel
theorem dX5_keep_33 : decode cX5_keep 33 = .ok (.iconst 1, 1) := by decide +kernel
theorem dX5_keep_34 : decode cX5_keep 34 = .ok (.iadd, 1) := by decide +kernel
theorem dX5_keep_35 : decode cX5_keep 35 = .ok (.invokestatic 29, 3) := by decide +kernel
theorem dX5_keep_38 : decode cX5_keep 38 = .ok (.putfield 18, 3) := by decide +kernel
theorem dX5_keep_41 : decode cX5_keep 41 = .ok (.return_, 1) := by decide +kernel
set_option maxHeartbeats 4000000 in
set_option maxRecDepth 100000 in
theorem k_keep {l : Launch} {D : va_G} {ids : List Nat} {ad : Nat → Nat} {ca : Nat → ClassId} {σ : HS} (hid : ∀ i, i < 277 → i ∈ ids) (h_12_1 : σ.1 12 1 = 0) (h_12_2 : σ.1 12 2 = 0) (h_56_0 : σ.1 56 0 = 0) (h_56_4 : σ.1 56 4 = 0) (h_56_5 : σ.1 56 5 = 0) (h_56_6 : σ.1 56 6 = 0) (h_56_7 : σ.1 56 7 = 0) (h_56_8 : σ.1 56 8 = 0) (h_56_9 : σ.1 56 9 = (-1)) (h_56_10 : σ.1 56 10 = 0) (h_56_11 : σ.1 56 11 = (-1)) : Kv l D ids ad ca yX5_keep cX5_keep 2 2 81 [.ref (ad 12), .ref (ad 56)] σ (fun σ1 => only [12, 76, 77, 78, 79] σ σ1) := by
  refine Kv.of (by decide) (Nat.le_of_ble_eq_true rfl) 0 (fun Γ C Rt => ?_)
  show AW ids ad ca Γ 0 [some (.ref (ad 12)), some (.ref (ad 56))] [] σ
  refine a_aload_n C dX5_keep_0 (i := 0) rfl rfl ?_
  refine a_get C fl_RX5_11 (i := 12) kd_12 (hid 12 (by decide)) (v := .ref (ad 13)) rfl dX5_keep_1 ?_
  refine a_aload_n C dX5_keep_4 (i := 0) rfl rfl ?_
  refine a_get C fl_RX5_22 (i := 12) kd_12 (hid 12 (by decide)) (v := .int 0) (congrArg (fun z => some (Value.int z)) h_12_1) dX5_keep_5 ?_
  refine a_aald C (y := 76) 0 (by rw [kd_13]; decide) (hid 13 (by decide)) (by decide) rfl (by rw [al_13]; decide) (by rw [kd_13]; rfl) dX5_keep_8 ?_
  refine a_aload_n C dX5_keep_9 (i := 1) rfl rfl ?_
  refine a_callVv C (i := 76) kd_76 (hid 76 (by decide)) ⟨_, _, rfl⟩ (by decide) (k_copy_76 hid h_56_0 h_56_4 h_56_5 h_56_6 h_56_7 h_56_8 h_56_9 h_56_10 h_56_11) mi_X0_copy ml_RX5_25 rfl rfl (Nat.le_of_ble_eq_true rfl) (Nat.le_of_ble_eq_true rfl) (Nat.le_of_ble_eq_true rfl) dX5_keep_10 (fun σ2 q3 => ?_)
  refine a_aload_n C dX5_keep_13 (i := 0) rfl rfl ?_
  refine a_aload_n C dX5_keep_14 (i := 0) rfl rfl ?_
  refine a_get C fl_RX5_22 (i := 12) kd_12 (hid 12 (by decide)) (v := .int 0) (congrArg (fun z => some (Value.int z)) ((congrFun (q3.1.1 12 (by decide)) 1).trans h_12_1)) dX5_keep_15 ?_
  refine a_iconst C dX5_keep_18 (v := 1) rfl ?_
  refine a_iadd C dX5_keep_19 ?_
  refine a_bipush C dX5_keep_20 (v := 40) rfl ?_
  refine a_irem C dX5_keep_22 (by decide) ?_
  refine a_put C fp_RX5_22 (i := 12) kd_12 (hid 12 (by decide)) rfl rfl dX5_keep_23 ?_
  refine a_aload_n C dX5_keep_26 (i := 0) rfl rfl ?_
  refine a_bipush C dX5_keep_27 (v := 40) rfl ?_
  refine a_aload_n C dX5_keep_29 (i := 0) rfl rfl ?_
  refine a_get C fl_RX5_18 (i := 12) kd_12 (hid 12 (by decide)) (v := .int 0) (congrArg (fun z => some (Value.int z)) ((congrFun (q3.1.1 12 (by decide)) 2).trans h_12_2)) dX5_keep_30 ?_
  refine a_iconst C dX5_keep_33 (v := 1) rfl ?_
  refine a_iadd C dX5_keep_34 ?_
  refine a_mmin C dX5_keep_35 mm_RX5_29 mm_min.1 mm_min.2.1 mm_min.2.2 (Nat.le_of_ble_eq_true rfl) (Nat.le_of_ble_eq_true rfl) ?_
  refine a_put C fp_RX5_18 (i := 12) kd_12 (hid 12 (by decide)) rfl rfl dX5_keep_38 ?_
  exact a_vret Rt dX5_keep_41 ((only.I (only.I (only.tr only.rf (only.mono q3.1 (by decide))) (by decide)) (by decide)))
theorem dX4_oneBeat_0 : decode cX4_oneBeat 0 = .ok (.aload_n 2, 1) := by decide +kernel
theorem dX4_oneBeat_1 : decode cX4_oneBeat 1 = .ok (.invokevirtual 22, 3) := by decide +kernel
theorem dX4_oneBeat_4 : decode cX4_oneBeat 4 = .ok (.istore 4, 2) := by decide +kernel
theorem dX4_oneBeat_6 : decode cX4_oneBeat 6 = .ok (.iload 4, 2) := by decide +kernel
theorem dX4_oneBeat_8 : decode cX4_oneBeat 8 = .ok (.iconst (-1), 1) := by decide +kernel
theorem dX4_oneBeat_9 : decode cX4_oneBeat 9 = .ok (.if_icmp .ne 23, 3) := by decide +kernel
theorem dX4_oneBeat_12 : decode cX4_oneBeat 12 = .ok (.aload_n 2, 1) := by decide +kernel
theorem dX4_oneBeat_13 : decode cX4_oneBeat 13 = .ok (.iconst 0, 1) := by decide +kernel
theorem dX4_oneBeat_14 : decode cX4_oneBeat 14 = .ok (.aload_n 2, 1) := by decide +kernel
theorem dX4_oneBeat_15 : decode cX4_oneBeat 15 = .ok (.getfield 42, 3) := by decide +kernel
theorem dX4_oneBeat_18 : decode cX4_oneBeat 18 = .ok (.aload_n 1, 1) := by decide +kernel
theorem dX4_oneBeat_19 : decode cX4_oneBeat 19 = .ok (.getfield 46, 3) := by decide +kernel
theorem dX4_oneBeat_22 : decode cX4_oneBeat 22 = .ok (.isub, 1) := by decide +kernel
theorem dX4_oneBeat_23 : decode cX4_oneBeat 23 = .ok (.invokestatic 51, 3) := by decide +kernel
theorem dX4_oneBeat_26 : decode cX4_oneBeat 26 = .ok (.putfield 42, 3) := by decide +kernel
theorem dX4_oneBeat_29 : decode cX4_oneBeat 29 = .ok (.goto 60, 3) := by decide +kernel
theorem dX4_oneBeat_89 : decode cX4_oneBeat 89 = .ok (.iconst 0, 1) := by decide +kernel
theorem dX4_oneBeat_90 : decode cX4_oneBeat 90 = .ok (.istore 5, 2) := by decide +kernel
theorem dX4_oneBeat_92 : decode cX4_oneBeat 92 = .ok (.iload 5, 2) := by decide +kernel
theorem dX4_oneBeat_94 : decode cX4_oneBeat 94 = .ok (.aload_n 2, 1) := by decide +kernel
theorem dX4_oneBeat_95 : decode cX4_oneBeat 95 = .ok (.getfield 57, 3) := by decide +kernel
theorem dX4_oneBeat_98 : decode cX4_oneBeat 98 = .ok (.if_icmp .ge 29, 3) := by decide +kernel
theorem dX4_oneBeat_127 : decode cX4_oneBeat 127 = .ok (.aload_n 2, 1) := by decide +kernel
theorem dX4_oneBeat_128 : decode cX4_oneBeat 128 = .ok (.dup, 1) := by decide +kernel
theorem dX4_oneBeat_129 : decode cX4_oneBeat 129 = .ok (.getfield 78, 3) := by decide +kernel
theorem dX4_oneBeat_132 : decode cX4_oneBeat 132 = .ok (.iconst 1, 1) := by decide +kernel
theorem dX4_oneBeat_133 : decode cX4_oneBeat 133 = .ok (.iadd, 1) := by decide +kernel
theorem dX4_oneBeat_134 : decode cX4_oneBeat 134 = .ok (.putfield 78, 3) := by decide +kernel
theorem dX4_oneBeat_137 : decode cX4_oneBeat 137 = .ok (.aload_n 2, 1) := by decide +kernel
theorem dX4_oneBeat_138 : decode cX4_oneBeat 138 = .ok (.iconst (-1), 1) := by decide +kernel
theorem dX4_oneBeat_139 : decode cX4_oneBeat 139 = .ok (.putfield 81, 3) := by decide +kernel
theorem dX4_oneBeat_142 : decode cX4_oneBeat 142 = .ok (.return_, 1) := by decide +kernel
set_option maxHeartbeats 4000000 in
set_option maxRecDepth 100000 in
theorem k_oneBeat_56 {l : Launch} {D : va_G} {ids : List Nat} {ad : Nat → Nat} {ca : Nat → ClassId} {σ : HS} {p0 : Int32} {bt : Nat} (hid : ∀ i, i < 277 → i ∈ ids) (hb : σ.1 56 4 = nI bt) (h_30_10 : σ.1 30 10 = 1) (h_56_0 : σ.1 56 0 = 0) (h_56_5 : σ.1 56 5 = 0) (h_56_6 : σ.1 56 6 = 0) (h_56_8 : σ.1 56 8 = 0) : Kv l D ids ad ca yX4_oneBeat cX4_oneBeat 6 1 21 [.ref (ad 8), .ref (ad 30), .ref (ad 56), .int p0] σ (fun σ1 => only [56] σ σ1 ∧ σ1.1 56 0 = 0 ∧ σ1.1 56 5 = 0 ∧ σ1.1 56 6 = 0 ∧ σ1.1 56 8 = 0 ∧ σ1.1 56 4 = (nI (bt + 1))) := by
  refine Kv.of (by decide) (Nat.le_of_ble_eq_true rfl) 2 (fun Γ C Rt => ?_)
  show AW ids ad ca Γ 0 [some (.ref (ad 8)), some (.ref (ad 30)), some (.ref (ad 56)), some (.int p0), none, none] [] σ
  refine a_aload_n C dX4_oneBeat_0 (i := 2) rfl rfl ?_
  refine a_callVi C (i := 56) kd_56 (hid 56 (by decide)) ⟨_, _, rfl⟩ (by decide) (k_firstLanding_56 hid h_56_0) mi_X0_firstLanding ml_RX4_22 rfl rfl (Nat.le_of_ble_eq_true rfl) (Nat.le_of_ble_eq_true rfl) (Nat.le_of_ble_eq_true rfl) dX4_oneBeat_1 (fun r1 σ2 q3 => ?_)
  obtain ⟨rfl, q3⟩ := q3
  rw [q3]
  refine a_istore C dX4_oneBeat_4 (by decide) rfl (vs1 := [some (.ref (ad 8)), some (.ref (ad 30)), some (.ref (ad 56)), some (.int p0), some (.int (-1)), none]) rfl ?_
  refine a_iload C dX4_oneBeat_6 rfl ?_
  refine a_iconst C dX4_oneBeat_8 (v := (-1)) rfl ?_
  refine a_ic_ne C dX4_oneBeat_9 (tgt := 32) rfl (fun h => absurd h (by decide)) (fun _ => ?_)
  refine a_aload_n C dX4_oneBeat_12 (i := 2) rfl rfl ?_
  refine a_iconst C dX4_oneBeat_13 (v := 0) rfl ?_
  refine a_aload_n C dX4_oneBeat_14 (i := 2) rfl rfl ?_
  refine a_get C fl_RX4_42 (i := 56) kd_56 (hid 56 (by decide)) (v := .int 0) (congrArg (fun z => some (Value.int z)) h_56_5) dX4_oneBeat_15 ?_
  refine a_aload_n C dX4_oneBeat_18 (i := 1) rfl rfl ?_
  refine a_get C fl_RX4_46 (i := 30) kd_30 (hid 30 (by decide)) (v := .int 1) (congrArg (fun z => some (Value.int z)) h_30_10) dX4_oneBeat_19 ?_
  refine a_isub C dX4_oneBeat_22 ?_
  refine a_mmax C dX4_oneBeat_23 mm_RX4_51 mm_max.1 mm_max.2.1 mm_max.2.2 (Nat.le_of_ble_eq_true rfl) (Nat.le_of_ble_eq_true rfl) ?_
  refine a_put C fp_RX4_42 (i := 56) kd_56 (hid 56 (by decide)) rfl rfl dX4_oneBeat_26 ?_
  refine a_goto C dX4_oneBeat_29 (tgt := 89) rfl ?_
  refine a_iconst C dX4_oneBeat_89 (v := 0) rfl ?_
  refine a_istore C dX4_oneBeat_90 (by decide) rfl (vs1 := [some (.ref (ad 8)), some (.ref (ad 30)), some (.ref (ad 56)), some (.int p0), some (.int (-1)), some (.int 0)]) rfl ?_
  refine a_iload C dX4_oneBeat_92 rfl ?_
  refine a_aload_n C dX4_oneBeat_94 (i := 2) rfl rfl ?_
  refine a_get C fl_RX4_57 (i := 56) kd_56 (hid 56 (by decide)) (v := .int 0) (congrArg (fun z => some (Value.int z)) h_56_0) dX4_oneBeat_95 ?_
  refine a_ic_ge C dX4_oneBeat_98 (tgt := 127) rfl (fun _ => ?_) (fun h => absurd h (by decide))
  refine a_aload_n C dX4_oneBeat_127 (i := 2) rfl rfl ?_
  refine a_dup C dX4_oneBeat_128 rfl ?_
  refine a_get C fl_RX4_78 (i := 56) kd_56 (hid 56 (by decide)) (v := .int (nI bt)) (congrArg (fun z => some (Value.int z)) hb) dX4_oneBeat_129 ?_
  refine a_iconst C dX4_oneBeat_132 (v := 1) rfl ?_
  refine a_iadd C dX4_oneBeat_133 ?_
  rw [show ((nI bt) + 1 : Int32) = nI (bt + 1) from nI_add _ _]
  refine a_put C fp_RX4_78 (i := 56) kd_56 (hid 56 (by decide)) rfl rfl dX4_oneBeat_134 ?_
  refine a_aload_n C dX4_oneBeat_137 (i := 2) rfl rfl ?_
  refine a_iconst C dX4_oneBeat_138 (v := (-1)) rfl ?_
  refine a_put C fp_RX4_81 (i := 56) kd_56 (hid 56 (by decide)) rfl rfl dX4_oneBeat_139 ?_
  exact a_vret Rt dX4_oneBeat_142 (⟨(only.I (only.I (only.I only.rf (by decide)) (by decide)) (by decide)), h_56_0, rfl, h_56_6, h_56_8, rfl⟩)
theorem dX4_goOn_0 : decode cX4_goOn 0 = .ok (.iconst 0, 1) := by decide +kernel
theorem dX4_goOn_1 : decode cX4_goOn 1 = .ok (.istore 5, 2) := by decide +kernel
theorem dX4_goOn_3 : decode cX4_goOn 3 = .ok (.iload 5, 2) := by decide +kernel
theorem dX4_goOn_5 : decode cX4_goOn 5 = .ok (.iload_n 3, 1) := by decide +kernel
theorem dX4_goOn_6 : decode cX4_goOn 6 = .ok (.if_icmp .ge 17, 3) := by decide +kernel
theorem dX4_goOn_9 : decode cX4_goOn 9 = .ok (.aload_n 0, 1) := by decide +kernel
theorem dX4_goOn_10 : decode cX4_goOn 10 = .ok (.aload_n 1, 1) := by decide +kernel
theorem dX4_goOn_11 : decode cX4_goOn 11 = .ok (.aload_n 2, 1) := by decide +kernel
theorem dX4_goOn_12 : decode cX4_goOn 12 = .ok (.iload 4, 2) := by decide +kernel
theorem dX4_goOn_14 : decode cX4_goOn 14 = .ok (.invokevirtual 18, 3) := by decide +kernel
theorem dX4_goOn_17 : decode cX4_goOn 17 = .ok (.iinc 5 1, 3) := by decide +kernel
theorem dX4_goOn_20 : decode cX4_goOn 20 = .ok (.goto (-17), 3) := by decide +kernel
theorem dX4_goOn_23 : decode cX4_goOn 23 = .ok (.return_, 1) := by decide +kernel
set_option maxHeartbeats 4000000 in
set_option maxRecDepth 100000 in
theorem k_goOn_56 {l : Launch} {D : va_G} {ids : List Nat} {ad : Nat → Nat} {ca : Nat → ClassId} {σ : HS} {p0 : Int32} {bt m : Nat} (hid : ∀ i, i < 277 → i ∈ ids) (hb : σ.1 56 4 = nI bt) (hm : m ≤ 60) (h_30_10 : σ.1 30 10 = 1) (h_56_0 : σ.1 56 0 = 0) (h_56_5 : σ.1 56 5 = 0) (h_56_6 : σ.1 56 6 = 0) (h_56_8 : σ.1 56 8 = 0) : Kv l D ids ad ca yX4_goOn cX4_goOn 6 2 46 [.ref (ad 8), .ref (ad 30), .ref (ad 56), .int (nI m), .int p0] σ (fun σ1 => only [56] σ σ1 ∧ σ1.1 56 0 = 0 ∧ σ1.1 56 5 = 0 ∧ σ1.1 56 6 = 0 ∧ σ1.1 56 8 = 0 ∧ σ1.1 56 4 = (nI (bt + m))) := by
  refine Kv.of (by decide) (Nat.le_of_ble_eq_true rfl) 1 (fun Γ C Rt => ?_)
  show AW ids ad ca Γ 0 [some (.ref (ad 8)), some (.ref (ad 30)), some (.ref (ad 56)), some (.int (nI m)), some (.int p0), none] [] σ
  refine a_iconst C dX4_goOn_0 (v := 0) rfl ?_
  refine a_istore C dX4_goOn_1 (by decide) rfl (vs1 := [some (.ref (ad 8)), some (.ref (ad 30)), some (.ref (ad 56)), some (.int (nI m)), some (.int p0), some (.int 0)]) rfl ?_
  have loop : ∀ (d j : Nat) (σ2 : HS), j + d = m → (only [56] σ σ2 ∧ σ2.1 56 0 = 0 ∧ σ2.1 56 5 = 0 ∧ σ2.1 56 6 = 0 ∧ σ2.1 56 8 = 0 ∧ σ2.1 56 4 = (nI (bt + j))) → AW ids ad ca Γ 3 [some (.ref (ad 8)), some (.ref (ad 30)), some (.ref (ad 56)), some (.int (nI m)), some (.int p0), some (.int (nI j))] [] σ2 := by
    intro d
    induction d with
    | zero =>
      intro j σ2 hj hV
      refine a_iload C dX4_goOn_3 rfl ?_
      refine a_iload_n C dX4_goOn_5 (i := 3) rfl rfl ?_
      refine a_ic_ge C dX4_goOn_6 (tgt := 23) rfl (fun c1 => ?_) (fun c1 => absurd c1 (fun q => q (nI_le (a := (m)) (b := (j)) (by omega) (by omega))))
      exact a_vret Rt dX4_goOn_23 (⟨(only.tr only.rf (only.mono hV.1 (by decide))), hV.2.1, hV.2.2.1, hV.2.2.2.1, hV.2.2.2.2.1, (Eq.trans hV.2.2.2.2.2 (congrArg nI (show bt + j = bt + m by omega)))⟩)
    | succ d ih =>
      intro j σ2 hj hV
      refine a_iload C dX4_goOn_3 rfl ?_
      refine a_iload_n C dX4_goOn_5 (i := 3) rfl rfl ?_
      refine a_ic_ge C dX4_goOn_6 (tgt := 23) rfl (fun c2 => absurd c2 (nI_ge (a := (j)) (b := (m)) (by omega) (by omega))) (fun c2 => ?_)
      refine a_aload_n C dX4_goOn_9 (i := 0) rfl rfl ?_
      refine a_aload_n C dX4_goOn_10 (i := 1) rfl rfl ?_
      refine a_aload_n C dX4_goOn_11 (i := 2) rfl rfl ?_
      refine a_iload C dX4_goOn_12 rfl ?_
      refine a_callVv C (i := 8) kd_8 (hid 8 (by decide)) ⟨_, _, rfl⟩ (by decide) (k_oneBeat_56 hid (bt := bt + j) hV.2.2.2.2.2 ((congrFun (hV.1.1 30 (by decide)) 10).trans h_30_10) hV.2.1 hV.2.2.1 hV.2.2.2.1 hV.2.2.2.2.1) mi_X4_oneBeat ml_RX4_18 rfl rfl (Nat.le_of_ble_eq_true rfl) (Nat.le_of_ble_eq_true rfl) (Nat.le_of_ble_eq_true rfl) dX4_goOn_14 (fun σ4 q5 => ?_)
      refine a_iinc C dX4_goOn_17 rfl (v := (nI (j + 1))) (nI_1 _) (by decide) rfl (vs1 := [some (.ref (ad 8)), some (.ref (ad 30)), some (.ref (ad 56)), some (.int (nI m)), some (.int p0), some (.int (nI (j + 1)))]) rfl ?_
      refine a_goto C dX4_goOn_20 (tgt := 3) rfl ?_
      exact ih (j + 1) _ (by omega) ⟨(only.tr (only.tr only.rf (only.mono hV.1 (by decide))) (only.mono q5.1 (by decide))), q5.2.1, q5.2.2.1, q5.2.2.2.1, q5.2.2.2.2.1, (Eq.trans q5.2.2.2.2.2 (congrArg nI (show bt + j + 1 = bt + (j + 1) by omega)))⟩
  exact loop (m - 0) 0 _ (by omega) ⟨only.rf, h_56_0, h_56_5, h_56_6, h_56_8, (Eq.trans hb (congrArg nI (show bt = bt + 0 by omega)))⟩
set_option maxHeartbeats 4000000 in
set_option maxRecDepth 100000 in
theorem k_oneBeat_60 {l : Launch} {D : va_G} {ids : List Nat} {ad : Nat → Nat} {ca : Nat → ClassId} {σ : HS} {p0 : Int32} {bt : Nat} (hid : ∀ i, i < 277 → i ∈ ids) (hb : σ.1 60 4 = nI bt) (h_30_10 : σ.1 30 10 = 1) (h_60_0 : σ.1 60 0 = 0) (h_60_5 : σ.1 60 5 = 0) (h_60_6 : σ.1 60 6 = 0) (h_60_8 : σ.1 60 8 = 0) : Kv l D ids ad ca yX4_oneBeat cX4_oneBeat 6 1 21 [.ref (ad 8), .ref (ad 30), .ref (ad 60), .int p0] σ (fun σ1 => only [60] σ σ1 ∧ σ1.1 60 0 = 0 ∧ σ1.1 60 5 = 0 ∧ σ1.1 60 6 = 0 ∧ σ1.1 60 8 = 0 ∧ σ1.1 60 4 = (nI (bt + 1))) := by
  refine Kv.of (by decide) (Nat.le_of_ble_eq_true rfl) 2 (fun Γ C Rt => ?_)
  show AW ids ad ca Γ 0 [some (.ref (ad 8)), some (.ref (ad 30)), some (.ref (ad 60)), some (.int p0), none, none] [] σ
  refine a_aload_n C dX4_oneBeat_0 (i := 2) rfl rfl ?_
  refine a_callVi C (i := 60) kd_60 (hid 60 (by decide)) ⟨_, _, rfl⟩ (by decide) (k_firstLanding_60 hid h_60_0) mi_X0_firstLanding ml_RX4_22 rfl rfl (Nat.le_of_ble_eq_true rfl) (Nat.le_of_ble_eq_true rfl) (Nat.le_of_ble_eq_true rfl) dX4_oneBeat_1 (fun r1 σ2 q3 => ?_)
  obtain ⟨rfl, q3⟩ := q3
  rw [q3]
  refine a_istore C dX4_oneBeat_4 (by decide) rfl (vs1 := [some (.ref (ad 8)), some (.ref (ad 30)), some (.ref (ad 60)), some (.int p0), some (.int (-1)), none]) rfl ?_
  refine a_iload C dX4_oneBeat_6 rfl ?_
  refine a_iconst C dX4_oneBeat_8 (v := (-1)) rfl ?_
  refine a_ic_ne C dX4_oneBeat_9 (tgt := 32) rfl (fun h => absurd h (by decide)) (fun _ => ?_)
  refine a_aload_n C dX4_oneBeat_12 (i := 2) rfl rfl ?_
  refine a_iconst C dX4_oneBeat_13 (v := 0) rfl ?_
  refine a_aload_n C dX4_oneBeat_14 (i := 2) rfl rfl ?_
  refine a_get C fl_RX4_42 (i := 60) kd_60 (hid 60 (by decide)) (v := .int 0) (congrArg (fun z => some (Value.int z)) h_60_5) dX4_oneBeat_15 ?_
  refine a_aload_n C dX4_oneBeat_18 (i := 1) rfl rfl ?_
  refine a_get C fl_RX4_46 (i := 30) kd_30 (hid 30 (by decide)) (v := .int 1) (congrArg (fun z => some (Value.int z)) h_30_10) dX4_oneBeat_19 ?_
  refine a_isub C dX4_oneBeat_22 ?_
  refine a_mmax C dX4_oneBeat_23 mm_RX4_51 mm_max.1 mm_max.2.1 mm_max.2.2 (Nat.le_of_ble_eq_true rfl) (Nat.le_of_ble_eq_true rfl) ?_
  refine a_put C fp_RX4_42 (i := 60) kd_60 (hid 60 (by decide)) rfl rfl dX4_oneBeat_26 ?_
  refine a_goto C dX4_oneBeat_29 (tgt := 89) rfl ?_
  refine a_iconst C dX4_oneBeat_89 (v := 0) rfl ?_
  refine a_istore C dX4_oneBeat_90 (by decide) rfl (vs1 := [some (.ref (ad 8)), some (.ref (ad 30)), some (.ref (ad 60)), some (.int p0), some (.int (-1)), some (.int 0)]) rfl ?_
  refine a_iload C dX4_oneBeat_92 rfl ?_
  refine a_aload_n C dX4_oneBeat_94 (i := 2) rfl rfl ?_
  refine a_get C fl_RX4_57 (i := 60) kd_60 (hid 60 (by decide)) (v := .int 0) (congrArg (fun z => some (Value.int z)) h_60_0) dX4_oneBeat_95 ?_
  refine a_ic_ge C dX4_oneBeat_98 (tgt := 127) rfl (fun _ => ?_) (fun h => absurd h (by decide))
  refine a_aload_n C dX4_oneBeat_127 (i := 2) rfl rfl ?_
  refine a_dup C dX4_oneBeat_128 rfl ?_
  refine a_get C fl_RX4_78 (i := 60) kd_60 (hid 60 (by decide)) (v := .int (nI bt)) (congrArg (fun z => some (Value.int z)) hb) dX4_oneBeat_129 ?_
  refine a_iconst C dX4_oneBeat_132 (v := 1) rfl ?_
  refine a_iadd C dX4_oneBeat_133 ?_
  rw [show ((nI bt) + 1 : Int32) = nI (bt + 1) from nI_add _ _]
  refine a_put C fp_RX4_78 (i := 60) kd_60 (hid 60 (by decide)) rfl rfl dX4_oneBeat_134 ?_
  refine a_aload_n C dX4_oneBeat_137 (i := 2) rfl rfl ?_
  refine a_iconst C dX4_oneBeat_138 (v := (-1)) rfl ?_
  refine a_put C fp_RX4_81 (i := 60) kd_60 (hid 60 (by decide)) rfl rfl dX4_oneBeat_139 ?_
  exact a_vret Rt dX4_oneBeat_142 (⟨(only.I (only.I (only.I only.rf (by decide)) (by decide)) (by decide)), h_60_0, rfl, h_60_6, h_60_8, rfl⟩)
set_option maxHeartbeats 4000000 in
set_option maxRecDepth 100000 in
theorem k_goOn_60 {l : Launch} {D : va_G} {ids : List Nat} {ad : Nat → Nat} {ca : Nat → ClassId} {σ : HS} {p0 : Int32} {bt m : Nat} (hid : ∀ i, i < 277 → i ∈ ids) (hb : σ.1 60 4 = nI bt) (hm : m ≤ 60) (h_30_10 : σ.1 30 10 = 1) (h_60_0 : σ.1 60 0 = 0) (h_60_5 : σ.1 60 5 = 0) (h_60_6 : σ.1 60 6 = 0) (h_60_8 : σ.1 60 8 = 0) : Kv l D ids ad ca yX4_goOn cX4_goOn 6 2 46 [.ref (ad 8), .ref (ad 30), .ref (ad 60), .int (nI m), .int p0] σ (fun σ1 => only [60] σ σ1 ∧ σ1.1 60 0 = 0 ∧ σ1.1 60 5 = 0 ∧ σ1.1 60 6 = 0 ∧ σ1.1 60 8 = 0 ∧ σ1.1 60 4 = (nI (bt + m))) := by
  refine Kv.of (by decide) (Nat.le_of_ble_eq_true rfl) 1 (fun Γ C Rt => ?_)
  show AW ids ad ca Γ 0 [some (.ref (ad 8)), some (.ref (ad 30)), some (.ref (ad 60)), some (.int (nI m)), some (.int p0), none] [] σ
  refine a_iconst C dX4_goOn_0 (v := 0) rfl ?_
  refine a_istore C dX4_goOn_1 (by decide) rfl (vs1 := [some (.ref (ad 8)), some (.ref (ad 30)), some (.ref (ad 60)), some (.int (nI m)), some (.int p0), some (.int 0)]) rfl ?_
  have loop : ∀ (d j : Nat) (σ2 : HS), j + d = m → (only [60] σ σ2 ∧ σ2.1 60 0 = 0 ∧ σ2.1 60 5 = 0 ∧ σ2.1 60 6 = 0 ∧ σ2.1 60 8 = 0 ∧ σ2.1 60 4 = (nI (bt + j))) → AW ids ad ca Γ 3 [some (.ref (ad 8)), some (.ref (ad 30)), some (.ref (ad 60)), some (.int (nI m)), some (.int p0), some (.int (nI j))] [] σ2 := by
    intro d
    induction d with
    | zero =>
      intro j σ2 hj hV
      refine a_iload C dX4_goOn_3 rfl ?_
      refine a_iload_n C dX4_goOn_5 (i := 3) rfl rfl ?_
      refine a_ic_ge C dX4_goOn_6 (tgt := 23) rfl (fun c1 => ?_) (fun c1 => absurd c1 (fun q => q (nI_le (a := (m)) (b := (j)) (by omega) (by omega))))
      exact a_vret Rt dX4_goOn_23 (⟨(only.tr only.rf (only.mono hV.1 (by decide))), hV.2.1, hV.2.2.1, hV.2.2.2.1, hV.2.2.2.2.1, (Eq.trans hV.2.2.2.2.2 (congrArg nI (show bt + j = bt + m by omega)))⟩)
    | succ d ih =>
      intro j σ2 hj hV
      refine a_iload C dX4_goOn_3 rfl ?_
      refine a_iload_n C dX4_goOn_5 (i := 3) rfl rfl ?_
      refine a_ic_ge C dX4_goOn_6 (tgt := 23) rfl (fun c2 => absurd c2 (nI_ge (a := (j)) (b := (m)) (by omega) (by omega))) (fun c2 => ?_)
      refine a_aload_n C dX4_goOn_9 (i := 0) rfl rfl ?_
      refine a_aload_n C dX4_goOn_10 (i := 1) rfl rfl ?_
      refine a_aload_n C dX4_goOn_11 (i := 2) rfl rfl ?_
      refine a_iload C dX4_goOn_12 rfl ?_
      refine a_callVv C (i := 8) kd_8 (hid 8 (by decide)) ⟨_, _, rfl⟩ (by decide) (k_oneBeat_60 hid (bt := bt + j) hV.2.2.2.2.2 ((congrFun (hV.1.1 30 (by decide)) 10).trans h_30_10) hV.2.1 hV.2.2.1 hV.2.2.2.1 hV.2.2.2.2.1) mi_X4_oneBeat ml_RX4_18 rfl rfl (Nat.le_of_ble_eq_true rfl) (Nat.le_of_ble_eq_true rfl) (Nat.le_of_ble_eq_true rfl) dX4_goOn_14 (fun σ4 q5 => ?_)
      refine a_iinc C dX4_goOn_17 rfl (v := (nI (j + 1))) (nI_1 _) (by decide) rfl (vs1 := [some (.ref (ad 8)), some (.ref (ad 30)), some (.ref (ad 60)), some (.int (nI m)), some (.int p0), some (.int (nI (j + 1)))]) rfl ?_
      refine a_goto C dX4_goOn_20 (tgt := 3) rfl ?_
      exact ih (j + 1) _ (by omega) ⟨(only.tr (only.tr only.rf (only.mono hV.1 (by decide))) (only.mono q5.1 (by decide))), q5.2.1, q5.2.2.1, q5.2.2.2.1, q5.2.2.2.2.1, (Eq.trans q5.2.2.2.2.2 (congrArg nI (show bt + j + 1 = bt + (j + 1) by omega)))⟩
  exact loop (m - 0) 0 _ (by omega) ⟨only.rf, h_60_0, h_60_5, h_60_6, h_60_8, (Eq.trans hb (congrArg nI (show bt = bt + 0 by omega)))⟩
theorem dX4_goOnSafely_0 : decode cX4_goOnSafely 0 = .ok (.aload_n 0, 1) := by decide +kernel
theorem dX4_goOnSafely_1 : decode cX4_goOnSafely 1 = .ok (.aload_n 1, 1) := by decide +kernel
theorem dX4_goOnSafely_2 : decode cX4_goOnSafely 2 = .ok (.aload_n 2, 1) := by decide +kernel
theorem dX4_goOnSafely_3 : decode cX4_goOnSafely 3 = .ok (.iconst (-1), 1) := by decide +kernel
theorem dX4_goOnSafely_4 : decode cX4_goOnSafely 4 = .ok (.invokevirtual 18, 3) := by decide +kernel
theorem dX4_goOnSafely_7 : decode cX4_goOnSafely 7 = .ok (.return_, 1) := by decide +kernel
set_option maxHeartbeats 4000000 in
set_option maxRecDepth 100000 in
theorem k_goOnSafely {l : Launch} {D : va_G} {ids : List Nat} {ad : Nat → Nat} {ca : Nat → ClassId} {σ : HS} {bt : Nat} (hid : ∀ i, i < 277 → i ∈ ids) (hb : σ.1 60 4 = nI bt) (h_30_10 : σ.1 30 10 = 1) (h_60_0 : σ.1 60 0 = 0) (h_60_5 : σ.1 60 5 = 0) (h_60_6 : σ.1 60 6 = 0) (h_60_8 : σ.1 60 8 = 0) : Kv l D ids ad ca yX4_goOnSafely cX4_goOnSafely 3 2 46 [.ref (ad 8), .ref (ad 30), .ref (ad 60)] σ (fun σ1 => only [60] σ σ1 ∧ σ1.1 60 0 = 0 ∧ σ1.1 60 5 = 0 ∧ σ1.1 60 6 = 0 ∧ σ1.1 60 8 = 0 ∧ σ1.1 60 4 = (nI (bt + 1))) := by
  refine Kv.of (by decide) (Nat.le_of_ble_eq_true rfl) 0 (fun Γ C Rt => ?_)
  show AW ids ad ca Γ 0 [some (.ref (ad 8)), some (.ref (ad 30)), some (.ref (ad 60))] [] σ
  refine a_aload_n C dX4_goOnSafely_0 (i := 0) rfl rfl ?_
  refine a_aload_n C dX4_goOnSafely_1 (i := 1) rfl rfl ?_
  refine a_aload_n C dX4_goOnSafely_2 (i := 2) rfl rfl ?_
  refine a_iconst C dX4_goOnSafely_3 (v := (-1)) rfl ?_
  refine a_callVv C (i := 8) kd_8 (hid 8 (by decide)) ⟨_, _, rfl⟩ (by decide) (k_oneBeat_60 hid (bt := bt) hb h_30_10 h_60_0 h_60_5 h_60_6 h_60_8) mi_X4_oneBeat ml_RX4_18 rfl rfl (Nat.le_of_ble_eq_true rfl) (Nat.le_of_ble_eq_true rfl) (Nat.le_of_ble_eq_true rfl) dX4_goOnSafely_4 (fun σ2 q3 => ?_)
  exact a_vret Rt dX4_goOnSafely_7 (⟨(only.tr only.rf (only.mono q3.1 (by decide))), q3.2.1, q3.2.2.1, q3.2.2.2.1, q3.2.2.2.2.1, q3.2.2.2.2.2⟩)
theorem dX4_inForce_0 : decode cX4_inForce 0 = .ok (.aload_n 2, 1) := by decide +kernel
theorem dX4_inForce_1 : decode cX4_inForce 1 = .ok (.invokevirtual 22, 3) := by decide +kernel
theorem dX4_inForce_4 : decode cX4_inForce 4 = .ok (.istore_n 3, 1) := by decide +kernel
theorem dX4_inForce_5 : decode cX4_inForce 5 = .ok (.iload_n 3, 1) := by decide +kernel
theorem dX4_inForce_6 : decode cX4_inForce 6 = .ok (.iconst (-1), 1) := by decide +kernel
theorem dX4_inForce_7 : decode cX4_inForce 7 = .ok (.if_icmp .ne 5, 3) := by decide +kernel
theorem dX4_inForce_10 : decode cX4_inForce 10 = .ok (.iconst 0, 1) := by decide +kernel
theorem dX4_inForce_11 : decode cX4_inForce 11 = .ok (.ireturn, 1) := by decide +kernel
set_option maxHeartbeats 4000000 in
set_option maxRecDepth 100000 in
theorem k_inForce {l : Launch} {D : va_G} {ids : List Nat} {ad : Nat → Nat} {ca : Nat → ClassId} {σ : HS} (hid : ∀ i, i < 277 → i ∈ ids) (h_60_0 : σ.1 60 0 = 0) : Ki l D ids ad ca yX4_inForce cX4_inForce 4 .int 1 21 [.ref (ad 8), .ref (ad 30), .ref (ad 60)] σ (fun r σ1 => r = 0 ∧ σ1 = σ) := by
  refine Ki.of (by decide) (Nat.le_of_ble_eq_true rfl) 1 (fun Γ C Rt => ?_)
  show AW ids ad ca Γ 0 [some (.ref (ad 8)), some (.ref (ad 30)), some (.ref (ad 60)), none] [] σ
  refine a_aload_n C dX4_inForce_0 (i := 2) rfl rfl ?_
  refine a_callVi C (i := 60) kd_60 (hid 60 (by decide)) ⟨_, _, rfl⟩ (by decide) (k_firstLanding_60 hid h_60_0) mi_X0_firstLanding ml_RX4_22 rfl rfl (Nat.le_of_ble_eq_true rfl) (Nat.le_of_ble_eq_true rfl) (Nat.le_of_ble_eq_true rfl) dX4_inForce_1 (fun r1 σ2 q3 => ?_)
  obtain ⟨rfl, q3⟩ := q3
  rw [q3]
  refine a_istore_n C dX4_inForce_4 (i := 3) rfl (by decide) rfl (vs1 := [some (.ref (ad 8)), some (.ref (ad 30)), some (.ref (ad 60)), some (.int (-1))]) rfl ?_
  refine a_iload_n C dX4_inForce_5 (i := 3) rfl rfl ?_
  refine a_iconst C dX4_inForce_6 (v := (-1)) rfl ?_
  refine a_ic_ne C dX4_inForce_7 (tgt := 12) rfl (fun h => absurd h (by decide)) (fun _ => ?_)
  refine a_iconst C dX4_inForce_10 (v := 0) rfl ?_
  exact a_iret Rt dX4_inForce_11 rfl (⟨rfl, rfl⟩)
