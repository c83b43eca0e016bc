theorem dX10_hasThing_0 : decode cX10_hasThing 0 = .ok (.iload_n 1, 1) := by decide +kernel
theorem dX10_hasThing_1 : decode cX10_hasThing 1 = .ok (.ifCond .lt 15, 3) := by decide +kernel
theorem dX10_hasThing_4 : decode cX10_hasThing 4 = .ok (.iload_n 1, 1) := by decide +kernel
theorem dX10_hasThing_5 : decode cX10_hasThing 5 = .ok (.aload_n 0, 1) := by decide +kernel
theorem dX10_hasThing_6 : decode cX10_hasThing 6 = .ok (.getfield 38, 3) := by decide +kernel
theorem dX10_hasThing_9 : decode cX10_hasThing 9 = .ok (.if_icmp .ge 7, 3) := by decide +kernel
theorem dX10_hasThing_16 : decode cX10_hasThing 16 = .ok (.iconst 0, 1) := by decide +kernel
theorem dX10_hasThing_17 : decode cX10_hasThing 17 = .ok (.ireturn, 1) := by decide +kernel
set_option maxHeartbeats 4000000 in
set_option maxRecDepth 100000 in
theorem k_hasThing {l : Launch} {D : va_G} {ad : Nat → Nat} {ca : Nat → ClassId} {σ : HS} {p0 : Int32} (h_30_0 : σ.1 30 0 = 0) : Ki l D ad ca yX10_hasThing cX10_hasThing 2 .boolean 0 0 [.ref (ad 30), .int p0] σ (fun r σ1 => r = 0 ∧ σ1 = σ) := by
  refine Ki.of (by decide) (Nat.le_of_ble_eq_true rfl) 0 (fun Γ C Rt => ?_)
  show AW ad ca Γ 0 [some (.ref (ad 30)), some (.int p0)] [] σ
  refine a_iload_n C dX10_hasThing_0 (i := 1) rfl rfl ?_
  refine a_if_lt C dX10_hasThing_1 (tgt := 16) rfl (fun c1 => ?_) (fun c1 => ?_)
  ·
    refine a_iconst C dX10_hasThing_16 (v := 0) rfl ?_
    exact a_iret Rt dX10_hasThing_17 rfl (⟨rfl, rfl⟩)
  ·
    refine a_iload_n C dX10_hasThing_4 (i := 1) rfl rfl ?_
    refine a_aload_n C dX10_hasThing_5 (i := 0) rfl rfl ?_
    refine a_get C fl_RX10_38 (i := 30) kd_30 (by decide) (v := .int 0) (congrArg (fun z => some (Value.int z)) h_30_0) dX10_hasThing_6 ?_
    refine a_ic_ge C dX10_hasThing_9 (tgt := 16) rfl (fun c2 => ?_) (fun c2 => absurd c2 (fun q => q (i32_nlt c1)))
    refine a_iconst C dX10_hasThing_16 (v := 0) rfl ?_
    exact a_iret Rt dX10_hasThing_17 rfl (⟨rfl, rfl⟩)
theorem dX10_hasPattern_0 : decode cX10_hasPattern 0 = .ok (.iload_n 1, 1) := by decide +kernel
theorem dX10_hasPattern_1 : decode cX10_hasPattern 1 = .ok (.ifCond .lt 15, 3) := by decide +kernel
theorem dX10_hasPattern_4 : decode cX10_hasPattern 4 = .ok (.iload_n 1, 1) := by decide +kernel
theorem dX10_hasPattern_5 : decode cX10_hasPattern 5 = .ok (.aload_n 0, 1) := by decide +kernel
theorem dX10_hasPattern_6 : decode cX10_hasPattern 6 = .ok (.getfield 42, 3) := by decide +kernel
theorem dX10_hasPattern_9 : decode cX10_hasPattern 9 = .ok (.if_icmp .ge 7, 3) := by decide +kernel
theorem dX10_hasPattern_16 : decode cX10_hasPattern 16 = .ok (.iconst 0, 1) := by decide +kernel
theorem dX10_hasPattern_17 : decode cX10_hasPattern 17 = .ok (.ireturn, 1) := by decide +kernel
set_option maxHeartbeats 4000000 in
set_option maxRecDepth 100000 in
theorem k_hasPattern {l : Launch} {D : va_G} {ad : Nat → Nat} {ca : Nat → ClassId} {σ : HS} {p0 : Int32} (h_30_4 : σ.1 30 4 = 0) : Ki l D ad ca yX10_hasPattern cX10_hasPattern 2 .boolean 0 0 [.ref (ad 30), .int p0] σ (fun r σ1 => r = 0 ∧ σ1 = σ) := by
  refine Ki.of (by decide) (Nat.le_of_ble_eq_true rfl) 0 (fun Γ C Rt => ?_)
  show AW ad ca Γ 0 [some (.ref (ad 30)), some (.int p0)] [] σ
  refine a_iload_n C dX10_hasPattern_0 (i := 1) rfl rfl ?_
  refine a_if_lt C dX10_hasPattern_1 (tgt := 16) rfl (fun c1 => ?_) (fun c1 => ?_)
  ·
    refine a_iconst C dX10_hasPattern_16 (v := 0) rfl ?_
    exact a_iret Rt dX10_hasPattern_17 rfl (⟨rfl, rfl⟩)
  ·
    refine a_iload_n C dX10_hasPattern_4 (i := 1) rfl rfl ?_
    refine a_aload_n C dX10_hasPattern_5 (i := 0) rfl rfl ?_
    refine a_get C fl_RX10_42 (i := 30) kd_30 (by decide) (v := .int 0) (congrArg (fun z => some (Value.int z)) h_30_4) dX10_hasPattern_6 ?_
    refine a_ic_ge C dX10_hasPattern_9 (tgt := 16) rfl (fun c2 => ?_) (fun c2 => absurd c2 (fun q => q (i32_nlt c1)))
    refine a_iconst C dX10_hasPattern_16 (v := 0) rfl ?_
    exact a_iret Rt dX10_hasPattern_17 rfl (⟨rfl, rfl⟩)
theorem dX0_firstLanding_0 : decode cX0_firstLanding 0 = .ok (.iconst 0, 1) := by decide +kernel
theorem dX0_firstLanding_1 : decode cX0_firstLanding 1 = .ok (.istore_n 1, 1) := by decide +kernel
theorem dX0_firstLanding_2 : decode cX0_firstLanding 2 = .ok (.iload_n 1, 1) := by decide +kernel
theorem dX0_firstLanding_3 : decode cX0_firstLanding 3 = .ok (.aload_n 0, 1) := by decide +kernel
theorem dX0_firstLanding_4 : decode cX0_firstLanding 4 = .ok (.getfield 33, 3) := by decide +kernel
theorem dX0_firstLanding_7 : decode cX0_firstLanding 7 = .ok (.if_icmp .ge 19, 3) := by decide +kernel
theorem dX0_firstLanding_26 : decode cX0_firstLanding 26 = .ok (.iconst (-1), 1) := by decide +kernel
theorem dX0_firstLanding_27 : decode cX0_firstLanding 27 = .ok (.ireturn, 1) := by decide +kernel
set_option maxHeartbeats 4000000 in
set_option maxRecDepth 100000 in
theorem k_firstLanding {l : Launch} {D : va_G} {ad : Nat → Nat} {ca : Nat → ClassId} {σ : HS} (h_60_0 : σ.1 60 0 = 0) : Ki l D ad ca yX0_firstLanding cX0_firstLanding 2 .int 0 0 [.ref (ad 60)] σ (fun r σ1 => r = (-1) ∧ σ1 = σ) := by
  refine Ki.of (by decide) (Nat.le_of_ble_eq_true rfl) 1 (fun Γ C Rt => ?_)
  show AW ad ca Γ 0 [some (.ref (ad 60)), none] [] σ
  refine a_iconst C dX0_firstLanding_0 (v := 0) rfl ?_
  refine a_istore_n C dX0_firstLanding_1 (i := 1) rfl (by decide) rfl (vs1 := [some (.ref (ad 60)), some (.int 0)]) rfl ?_
  refine a_iload_n C dX0_firstLanding_2 (i := 1) rfl rfl ?_
  refine a_aload_n C dX0_firstLanding_3 (i := 0) rfl rfl ?_
  refine a_get C fl_RX0_33 (i := 60) kd_60 (by decide) (v := .int 0) (congrArg (fun z => some (Value.int z)) h_60_0) dX0_firstLanding_4 ?_
  refine a_ic_ge C dX0_firstLanding_7 (tgt := 26) rfl (fun _ => ?_) (fun h => absurd h (by decide))
  refine a_iconst C dX0_firstLanding_26 (v := (-1)) rfl ?_
  exact a_iret Rt dX0_firstLanding_27 rfl (⟨rfl, rfl⟩)
set_option maxHeartbeats 4000000 in
set_option maxRecDepth 100000 in
theorem k_firstLanding_now {l : Launch} {D : va_G} {ad : Nat → Nat} {ca : Nat → ClassId} {σ : HS} (h_56_0 : σ.1 56 0 = 0) : Ki l D ad ca yX0_firstLanding cX0_firstLanding 2 .int 0 0 [.ref (ad 56)] σ (fun r σ1 => r = (-1) ∧ σ1 = σ) := by
  refine Ki.of (by decide) (Nat.le_of_ble_eq_true rfl) 1 (fun Γ C Rt => ?_)
  show AW ad ca Γ 0 [some (.ref (ad 56)), none] [] σ
  refine a_iconst C dX0_firstLanding_0 (v := 0) rfl ?_
  refine a_istore_n C dX0_firstLanding_1 (i := 1) rfl (by decide) rfl (vs1 := [some (.ref (ad 56)), some (.int 0)]) rfl ?_
  refine a_iload_n C dX0_firstLanding_2 (i := 1) rfl rfl ?_
  refine a_aload_n C dX0_firstLanding_3 (i := 0) rfl rfl ?_
  refine a_get C fl_RX0_33 (i := 56) kd_56 (by decide) (v := .int 0) (congrArg (fun z => some (Value.int z)) h_56_0) dX0_firstLanding_4 ?_
  refine a_ic_ge C dX0_firstLanding_7 (tgt := 26) rfl (fun _ => ?_) (fun h => absurd h (by decide))
  refine a_iconst C dX0_firstLanding_26 (v := (-1)) rfl ?_
  exact a_iret Rt dX0_firstLanding_27 rfl (⟨rfl, rfl⟩)
