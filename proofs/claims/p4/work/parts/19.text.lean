set_option maxHeartbeats 4000000 in
set_option maxRecDepth 100000 in
theorem k_emitT_0 {l : Launch} {D : va_G} {ids : List Nat} {ad : Nat → Nat} {ca : Nat → ClassId} {σ : HS} {p0 : Int32} (hid : ∀ i, i ∈ [30, 31, 32, 33, 34, 35, 36, 37, 38, 39, 40, 41, 42] → i ∈ ids) (h_30_8 : σ.1 30 8 = 0) : Kv l D ids ad ca yX10_emit cX10_emit 2 0 0 [.ref (ad 30), .int p0] σ (fun σ1 => σ1 = (hI (hI σ 41 0 p0) 30 8 1)) := by
  refine Kv.of (by decide) (Nat.le_of_ble_eq_true rfl) 0 (fun Γ C Rt => ?_)
  show AW ids ad ca Γ 0 [some (.ref (ad 30)), some (.int p0)] [] σ
  refine a_aload_n C dX10_emit_0 (i := 0) rfl rfl ?_
  refine a_get C fl_RX10_51 (i := 30) kd_30 (hid 30 (by decide)) (v := .int 0) (congrArg (fun z => some (Value.int z)) h_30_8) dX10_emit_1 ?_
  refine a_aload_n C dX10_emit_4 (i := 0) rfl rfl ?_
  refine a_get C fl_RX10_29 (i := 30) kd_30 (hid 30 (by decide)) (v := .ref (ad 41)) rfl dX10_emit_5 ?_
  refine a_alen C (by rw [kd_41]; decide) (hid 41 (by decide)) (v := 408) (by rw [al_41]; rfl) dX10_emit_8 ?_
  refine a_ic_ge C dX10_emit_9 (tgt := 32) rfl (fun h => absurd h (by decide)) (fun _ => ?_)
  refine a_aload_n C dX10_emit_12 (i := 0) rfl rfl ?_
  refine a_get C fl_RX10_29 (i := 30) kd_30 (hid 30 (by decide)) (v := .ref (ad 41)) rfl dX10_emit_13 ?_
  refine a_aload_n C dX10_emit_16 (i := 0) rfl rfl ?_
  refine a_get C fl_RX10_51 (i := 30) kd_30 (hid 30 (by decide)) (v := .int 0) (congrArg (fun z => some (Value.int z)) h_30_8) dX10_emit_17 ?_
  refine a_iload_n C dX10_emit_20 (i := 1) rfl rfl ?_
  refine a_iast C (i := 41) 0 kd_41 (hid 41 (by decide)) (by decide) rfl (by rw [al_41]; decide) dX10_emit_21 ?_
  refine a_aload_n C dX10_emit_22 (i := 0) rfl rfl ?_
  refine a_dup C dX10_emit_23 rfl ?_
  refine a_get C fl_RX10_51 (i := 30) kd_30 (hid 30 (by decide)) (v := .int 0) (congrArg (fun z => some (Value.int z)) h_30_8) dX10_emit_24 ?_
  refine a_iconst C dX10_emit_27 (v := 1) rfl ?_
  refine a_iadd C dX10_emit_28 ?_
  refine a_put C fp_RX10_51 (i := 30) kd_30 (hid 30 (by decide)) rfl rfl dX10_emit_29 ?_
  exact a_vret Rt dX10_emit_32 (rfl)
set_option maxHeartbeats 4000000 in
set_option maxRecDepth 100000 in
theorem k_emitT_1 {l : Launch} {D : va_G} {ids : List Nat} {ad : Nat → Nat} {ca : Nat → ClassId} {σ : HS} {p0 : Int32} (hid : ∀ i, i ∈ [30, 31, 32, 33, 34, 35, 36, 37, 38, 39, 40, 41, 42] → i ∈ ids) (h_30_8 : σ.1 30 8 = 1) : Kv l D ids ad ca yX10_emit cX10_emit 2 0 0 [.ref (ad 30), .int p0] σ (fun σ1 => σ1 = (hI (hI σ 41 1 p0) 30 8 2)) := by
  refine Kv.of (by decide) (Nat.le_of_ble_eq_true rfl) 0 (fun Γ C Rt => ?_)
  show AW ids ad ca Γ 0 [some (.ref (ad 30)), some (.int p0)] [] σ
  refine a_aload_n C dX10_emit_0 (i := 0) rfl rfl ?_
  refine a_get C fl_RX10_51 (i := 30) kd_30 (hid 30 (by decide)) (v := .int 1) (congrArg (fun z => some (Value.int z)) h_30_8) dX10_emit_1 ?_
  refine a_aload_n C dX10_emit_4 (i := 0) rfl rfl ?_
  refine a_get C fl_RX10_29 (i := 30) kd_30 (hid 30 (by decide)) (v := .ref (ad 41)) rfl dX10_emit_5 ?_
  refine a_alen C (by rw [kd_41]; decide) (hid 41 (by decide)) (v := 408) (by rw [al_41]; rfl) dX10_emit_8 ?_
  refine a_ic_ge C dX10_emit_9 (tgt := 32) rfl (fun h => absurd h (by decide)) (fun _ => ?_)
  refine a_aload_n C dX10_emit_12 (i := 0) rfl rfl ?_
  refine a_get C fl_RX10_29 (i := 30) kd_30 (hid 30 (by decide)) (v := .ref (ad 41)) rfl dX10_emit_13 ?_
  refine a_aload_n C dX10_emit_16 (i := 0) rfl rfl ?_
  refine a_get C fl_RX10_51 (i := 30) kd_30 (hid 30 (by decide)) (v := .int 1) (congrArg (fun z => some (Value.int z)) h_30_8) dX10_emit_17 ?_
  refine a_iload_n C dX10_emit_20 (i := 1) rfl rfl ?_
  refine a_iast C (i := 41) 1 kd_41 (hid 41 (by decide)) (by decide) rfl (by rw [al_41]; decide) dX10_emit_21 ?_
  refine a_aload_n C dX10_emit_22 (i := 0) rfl rfl ?_
  refine a_dup C dX10_emit_23 rfl ?_
  refine a_get C fl_RX10_51 (i := 30) kd_30 (hid 30 (by decide)) (v := .int 1) (congrArg (fun z => some (Value.int z)) h_30_8) dX10_emit_24 ?_
  refine a_iconst C dX10_emit_27 (v := 1) rfl ?_
  refine a_iadd C dX10_emit_28 ?_
  refine a_put C fp_RX10_51 (i := 30) kd_30 (hid 30 (by decide)) rfl rfl dX10_emit_29 ?_
  exact a_vret Rt dX10_emit_32 (rfl)
set_option maxHeartbeats 4000000 in
set_option maxRecDepth 100000 in
theorem k_emitT_2 {l : Launch} {D : va_G} {ids : List Nat} {ad : Nat → Nat} {ca : Nat → ClassId} {σ : HS} {p0 : Int32} (hid : ∀ i, i ∈ [30, 31, 32, 33, 34, 35, 36, 37, 38, 39, 40, 41, 42] → i ∈ ids) (h_30_8 : σ.1 30 8 = 2) : Kv l D ids ad ca yX10_emit cX10_emit 2 0 0 [.ref (ad 30), .int p0] σ (fun σ1 => σ1 = (hI (hI σ 41 2 p0) 30 8 3)) := by
  refine Kv.of (by decide) (Nat.le_of_ble_eq_true rfl) 0 (fun Γ C Rt => ?_)
  show AW ids ad ca Γ 0 [some (.ref (ad 30)), some (.int p0)] [] σ
  refine a_aload_n C dX10_emit_0 (i := 0) rfl rfl ?_
  refine a_get C fl_RX10_51 (i := 30) kd_30 (hid 30 (by decide)) (v := .int 2) (congrArg (fun z => some (Value.int z)) h_30_8) dX10_emit_1 ?_
  refine a_aload_n C dX10_emit_4 (i := 0) rfl rfl ?_
  refine a_get C fl_RX10_29 (i := 30) kd_30 (hid 30 (by decide)) (v := .ref (ad 41)) rfl dX10_emit_5 ?_
  refine a_alen C (by rw [kd_41]; decide) (hid 41 (by decide)) (v := 408) (by rw [al_41]; rfl) dX10_emit_8 ?_
  refine a_ic_ge C dX10_emit_9 (tgt := 32) rfl (fun h => absurd h (by decide)) (fun _ => ?_)
  refine a_aload_n C dX10_emit_12 (i := 0) rfl rfl ?_
  refine a_get C fl_RX10_29 (i := 30) kd_30 (hid 30 (by decide)) (v := .ref (ad 41)) rfl dX10_emit_13 ?_
  refine a_aload_n C dX10_emit_16 (i := 0) rfl rfl ?_
  refine a_get C fl_RX10_51 (i := 30) kd_30 (hid 30 (by decide)) (v := .int 2) (congrArg (fun z => some (Value.int z)) h_30_8) dX10_emit_17 ?_
  refine a_iload_n C dX10_emit_20 (i := 1) rfl rfl ?_
  refine a_iast C (i := 41) 2 kd_41 (hid 41 (by decide)) (by decide) rfl (by rw [al_41]; decide) dX10_emit_21 ?_
  refine a_aload_n C dX10_emit_22 (i := 0) rfl rfl ?_
  refine a_dup C dX10_emit_23 rfl ?_
  refine a_get C fl_RX10_51 (i := 30) kd_30 (hid 30 (by decide)) (v := .int 2) (congrArg (fun z => some (Value.int z)) h_30_8) dX10_emit_24 ?_
  refine a_iconst C dX10_emit_27 (v := 1) rfl ?_
  refine a_iadd C dX10_emit_28 ?_
  refine a_put C fp_RX10_51 (i := 30) kd_30 (hid 30 (by decide)) rfl rfl dX10_emit_29 ?_
  exact a_vret Rt dX10_emit_32 (rfl)
set_option maxHeartbeats 4000000 in
set_option maxRecDepth 100000 in
theorem k_emitT_3 {l : Launch} {D : va_G} {ids : List Nat} {ad : Nat → Nat} {ca : Nat → ClassId} {σ : HS} {p0 : Int32} (hid : ∀ i, i ∈ [30, 31, 32, 33, 34, 35, 36, 37, 38, 39, 40, 41, 42] → i ∈ ids) (h_30_8 : σ.1 30 8 = 3) : Kv l D ids ad ca yX10_emit cX10_emit 2 0 0 [.ref (ad 30), .int p0] σ (fun σ1 => σ1 = (hI (hI σ 41 3 p0) 30 8 4)) := by
  refine Kv.of (by decide) (Nat.le_of_ble_eq_true rfl) 0 (fun Γ C Rt => ?_)
  show AW ids ad ca Γ 0 [some (.ref (ad 30)), some (.int p0)] [] σ
  refine a_aload_n C dX10_emit_0 (i := 0) rfl rfl ?_
  refine a_get C fl_RX10_51 (i := 30) kd_30 (hid 30 (by decide)) (v := .int 3) (congrArg (fun z => some (Value.int z)) h_30_8) dX10_emit_1 ?_
  refine a_aload_n C dX10_emit_4 (i := 0) rfl rfl ?_
  refine a_get C fl_RX10_29 (i := 30) kd_30 (hid 30 (by decide)) (v := .ref (ad 41)) rfl dX10_emit_5 ?_
  refine a_alen C (by rw [kd_41]; decide) (hid 41 (by decide)) (v := 408) (by rw [al_41]; rfl) dX10_emit_8 ?_
  refine a_ic_ge C dX10_emit_9 (tgt := 32) rfl (fun h => absurd h (by decide)) (fun _ => ?_)
  refine a_aload_n C dX10_emit_12 (i := 0) rfl rfl ?_
  refine a_get C fl_RX10_29 (i := 30) kd_30 (hid 30 (by decide)) (v := .ref (ad 41)) rfl dX10_emit_13 ?_
  refine a_aload_n C dX10_emit_16 (i := 0) rfl rfl ?_
  refine a_get C fl_RX10_51 (i := 30) kd_30 (hid 30 (by decide)) (v := .int 3) (congrArg (fun z => some (Value.int z)) h_30_8) dX10_emit_17 ?_
  refine a_iload_n C dX10_emit_20 (i := 1) rfl rfl ?_
  refine a_iast C (i := 41) 3 kd_41 (hid 41 (by decide)) (by decide) rfl (by rw [al_41]; decide) dX10_emit_21 ?_
  refine a_aload_n C dX10_emit_22 (i := 0) rfl rfl ?_
  refine a_dup C dX10_emit_23 rfl ?_
  refine a_get C fl_RX10_51 (i := 30) kd_30 (hid 30 (by decide)) (v := .int 3) (congrArg (fun z => some (Value.int z)) h_30_8) dX10_emit_24 ?_
  refine a_iconst C dX10_emit_27 (v := 1) rfl ?_
  refine a_iadd C dX10_emit_28 ?_
  refine a_put C fp_RX10_51 (i := 30) kd_30 (hid 30 (by decide)) rfl rfl dX10_emit_29 ?_
  exact a_vret Rt dX10_emit_32 (rfl)
set_option maxHeartbeats 4000000 in
set_option maxRecDepth 100000 in
theorem k_emitT_4 {l : Launch} {D : va_G} {ids : List Nat} {ad : Nat → Nat} {ca : Nat → ClassId} {σ : HS} {p0 : Int32} (hid : ∀ i, i ∈ [30, 31, 32, 33, 34, 35, 36, 37, 38, 39, 40, 41, 42] → i ∈ ids) (h_30_8 : σ.1 30 8 = 4) : Kv l D ids ad ca yX10_emit cX10_emit 2 0 0 [.ref (ad 30), .int p0] σ (fun σ1 => σ1 = (hI (hI σ 41 4 p0) 30 8 5)) := by
  refine Kv.of (by decide) (Nat.le_of_ble_eq_true rfl) 0 (fun Γ C Rt => ?_)
  show AW ids ad ca Γ 0 [some (.ref (ad 30)), some (.int p0)] [] σ
  refine a_aload_n C dX10_emit_0 (i := 0) rfl rfl ?_
  refine a_get C fl_RX10_51 (i := 30) kd_30 (hid 30 (by decide)) (v := .int 4) (congrArg (fun z => some (Value.int z)) h_30_8) dX10_emit_1 ?_
  refine a_aload_n C dX10_emit_4 (i := 0) rfl rfl ?_
  refine a_get C fl_RX10_29 (i := 30) kd_30 (hid 30 (by decide)) (v := .ref (ad 41)) rfl dX10_emit_5 ?_
  refine a_alen C (by rw [kd_41]; decide) (hid 41 (by decide)) (v := 408) (by rw [al_41]; rfl) dX10_emit_8 ?_
  refine a_ic_ge C dX10_emit_9 (tgt := 32) rfl (fun h => absurd h (by decide)) (fun _ => ?_)
  refine a_aload_n C dX10_emit_12 (i := 0) rfl rfl ?_
  refine a_get C fl_RX10_29 (i := 30) kd_30 (hid 30 (by decide)) (v := .ref (ad 41)) rfl dX10_emit_13 ?_
  refine a_aload_n C dX10_emit_16 (i := 0) rfl rfl ?_
  refine a_get C fl_RX10_51 (i := 30) kd_30 (hid 30 (by decide)) (v := .int 4) (congrArg (fun z => some (Value.int z)) h_30_8) dX10_emit_17 ?_
  refine a_iload_n C dX10_emit_20 (i := 1) rfl rfl ?_
  refine a_iast C (i := 41) 4 kd_41 (hid 41 (by decide)) (by decide) rfl (by rw [al_41]; decide) dX10_emit_21 ?_
  refine a_aload_n C dX10_emit_22 (i := 0) rfl rfl ?_
  refine a_dup C dX10_emit_23 rfl ?_
  refine a_get C fl_RX10_51 (i := 30) kd_30 (hid 30 (by decide)) (v := .int 4) (congrArg (fun z => some (Value.int z)) h_30_8) dX10_emit_24 ?_
  refine a_iconst C dX10_emit_27 (v := 1) rfl ?_
  refine a_iadd C dX10_emit_28 ?_
  refine a_put C fp_RX10_51 (i := 30) kd_30 (hid 30 (by decide)) rfl rfl dX10_emit_29 ?_
  exact a_vret Rt dX10_emit_32 (rfl)
set_option maxHeartbeats 4000000 in
set_option maxRecDepth 100000 in
theorem k_emitT_5 {l : Launch} {D : va_G} {ids : List Nat} {ad : Nat → Nat} {ca : Nat → ClassId} {σ : HS} {p0 : Int32} (hid : ∀ i, i ∈ [30, 31, 32, 33, 34, 35, 36, 37, 38, 39, 40, 41, 42] → i ∈ ids) (h_30_8 : σ.1 30 8 = 5) : Kv l D ids ad ca yX10_emit cX10_emit 2 0 0 [.ref (ad 30), .int p0] σ (fun σ1 => σ1 = (hI (hI σ 41 5 p0) 30 8 6)) := by
  refine Kv.of (by decide) (Nat.le_of_ble_eq_true rfl) 0 (fun Γ C Rt => ?_)
  show AW ids ad ca Γ 0 [some (.ref (ad 30)), some (.int p0)] [] σ
  refine a_aload_n C dX10_emit_0 (i := 0) rfl rfl ?_
  refine a_get C fl_RX10_51 (i := 30) kd_30 (hid 30 (by decide)) (v := .int 5) (congrArg (fun z => some (Value.int z)) h_30_8) dX10_emit_1 ?_
  refine a_aload_n C dX10_emit_4 (i := 0) rfl rfl ?_
  refine a_get C fl_RX10_29 (i := 30) kd_30 (hid 30 (by decide)) (v := .ref (ad 41)) rfl dX10_emit_5 ?_
  refine a_alen C (by rw [kd_41]; decide) (hid 41 (by decide)) (v := 408) (by rw [al_41]; rfl) dX10_emit_8 ?_
  refine a_ic_ge C dX10_emit_9 (tgt := 32) rfl (fun h => absurd h (by decide)) (fun _ => ?_)
  refine a_aload_n C dX10_emit_12 (i := 0) rfl rfl ?_
  refine a_get C fl_RX10_29 (i := 30) kd_30 (hid 30 (by decide)) (v := .ref (ad 41)) rfl dX10_emit_13 ?_
  refine a_aload_n C dX10_emit_16 (i := 0) rfl rfl ?_
  refine a_get C fl_RX10_51 (i := 30) kd_30 (hid 30 (by decide)) (v := .int 5) (congrArg (fun z => some (Value.int z)) h_30_8) dX10_emit_17 ?_
  refine a_iload_n C dX10_emit_20 (i := 1) rfl rfl ?_
  refine a_iast C (i := 41) 5 kd_41 (hid 41 (by decide)) (by decide) rfl (by rw [al_41]; decide) dX10_emit_21 ?_
  refine a_aload_n C dX10_emit_22 (i := 0) rfl rfl ?_
  refine a_dup C dX10_emit_23 rfl ?_
  refine a_get C fl_RX10_51 (i := 30) kd_30 (hid 30 (by decide)) (v := .int 5) (congrArg (fun z => some (Value.int z)) h_30_8) dX10_emit_24 ?_
  refine a_iconst C dX10_emit_27 (v := 1) rfl ?_
  refine a_iadd C dX10_emit_28 ?_
  refine a_put C fp_RX10_51 (i := 30) kd_30 (hid 30 (by decide)) rfl rfl dX10_emit_29 ?_
  exact a_vret Rt dX10_emit_32 (rfl)
set_option maxHeartbeats 4000000 in
set_option maxRecDepth 100000 in
theorem k_emitT_6 {l : Launch} {D : va_G} {ids : List Nat} {ad : Nat → Nat} {ca : Nat → ClassId} {σ : HS} {p0 : Int32} (hid : ∀ i, i ∈ [30, 31, 32, 33, 34, 35, 36, 37, 38, 39, 40, 41, 42] → i ∈ ids) (h_30_8 : σ.1 30 8 = 6) : Kv l D ids ad ca yX10_emit cX10_emit 2 0 0 [.ref (ad 30), .int p0] σ (fun σ1 => σ1 = (hI (hI σ 41 6 p0) 30 8 7)) := by
  refine Kv.of (by decide) (Nat.le_of_ble_eq_true rfl) 0 (fun Γ C Rt => ?_)
  show AW ids ad ca Γ 0 [some (.ref (ad 30)), some (.int p0)] [] σ
  refine a_aload_n C dX10_emit_0 (i := 0) rfl rfl ?_
  refine a_get C fl_RX10_51 (i := 30) kd_30 (hid 30 (by decide)) (v := .int 6) (congrArg (fun z => some (Value.int z)) h_30_8) dX10_emit_1 ?_
  refine a_aload_n C dX10_emit_4 (i := 0) rfl rfl ?_
  refine a_get C fl_RX10_29 (i := 30) kd_30 (hid 30 (by decide)) (v := .ref (ad 41)) rfl dX10_emit_5 ?_
  refine a_alen C (by rw [kd_41]; decide) (hid 41 (by decide)) (v := 408) (by rw [al_41]; rfl) dX10_emit_8 ?_
  refine a_ic_ge C dX10_emit_9 (tgt := 32) rfl (fun h => absurd h (by decide)) (fun _ => ?_)
  refine a_aload_n C dX10_emit_12 (i := 0) rfl rfl ?_
  refine a_get C fl_RX10_29 (i := 30) kd_30 (hid 30 (by decide)) (v := .ref (ad 41)) rfl dX10_emit_13 ?_
  refine a_aload_n C dX10_emit_16 (i := 0) rfl rfl ?_
  refine a_get C fl_RX10_51 (i := 30) kd_30 (hid 30 (by decide)) (v := .int 6) (congrArg (fun z => some (Value.int z)) h_30_8) dX10_emit_17 ?_
  refine a_iload_n C dX10_emit_20 (i := 1) rfl rfl ?_
  refine a_iast C (i := 41) 6 kd_41 (hid 41 (by decide)) (by decide) rfl (by rw [al_41]; decide) dX10_emit_21 ?_
  refine a_aload_n C dX10_emit_22 (i := 0) rfl rfl ?_
  refine a_dup C dX10_emit_23 rfl ?_
  refine a_get C fl_RX10_51 (i := 30) kd_30 (hid 30 (by decide)) (v := .int 6) (congrArg (fun z => some (Value.int z)) h_30_8) dX10_emit_24 ?_
  refine a_iconst C dX10_emit_27 (v := 1) rfl ?_
  refine a_iadd C dX10_emit_28 ?_
  refine a_put C fp_RX10_51 (i := 30) kd_30 (hid 30 (by decide)) rfl rfl dX10_emit_29 ?_
  exact a_vret Rt dX10_emit_32 (rfl)
set_option maxHeartbeats 4000000 in
set_option maxRecDepth 100000 in
theorem k_emitT_7 {l : Launch} {D : va_G} {ids : List Nat} {ad : Nat → Nat} {ca : Nat → ClassId} {σ : HS} {p0 : Int32} (hid : ∀ i, i ∈ [30, 31, 32, 33, 34, 35, 36, 37, 38, 39, 40, 41, 42] → i ∈ ids) (h_30_8 : σ.1 30 8 = 7) : Kv l D ids ad ca yX10_emit cX10_emit 2 0 0 [.ref (ad 30), .int p0] σ (fun σ1 => σ1 = (hI (hI σ 41 7 p0) 30 8 8)) := by
  refine Kv.of (by decide) (Nat.le_of_ble_eq_true rfl) 0 (fun Γ C Rt => ?_)
  show AW ids ad ca Γ 0 [some (.ref (ad 30)), some (.int p0)] [] σ
  refine a_aload_n C dX10_emit_0 (i := 0) rfl rfl ?_
  refine a_get C fl_RX10_51 (i := 30) kd_30 (hid 30 (by decide)) (v := .int 7) (congrArg (fun z => some (Value.int z)) h_30_8) dX10_emit_1 ?_
  refine a_aload_n C dX10_emit_4 (i := 0) rfl rfl ?_
  refine a_get C fl_RX10_29 (i := 30) kd_30 (hid 30 (by decide)) (v := .ref (ad 41)) rfl dX10_emit_5 ?_
  refine a_alen C (by rw [kd_41]; decide) (hid 41 (by decide)) (v := 408) (by rw [al_41]; rfl) dX10_emit_8 ?_
  refine a_ic_ge C dX10_emit_9 (tgt := 32) rfl (fun h => absurd h (by decide)) (fun _ => ?_)
  refine a_aload_n C dX10_emit_12 (i := 0) rfl rfl ?_
  refine a_get C fl_RX10_29 (i := 30) kd_30 (hid 30 (by decide)) (v := .ref (ad 41)) rfl dX10_emit_13 ?_
  refine a_aload_n C dX10_emit_16 (i := 0) rfl rfl ?_
  refine a_get C fl_RX10_51 (i := 30) kd_30 (hid 30 (by decide)) (v := .int 7) (congrArg (fun z => some (Value.int z)) h_30_8) dX10_emit_17 ?_
  refine a_iload_n C dX10_emit_20 (i := 1) rfl rfl ?_
  refine a_iast C (i := 41) 7 kd_41 (hid 41 (by decide)) (by decide) rfl (by rw [al_41]; decide) dX10_emit_21 ?_
  refine a_aload_n C dX10_emit_22 (i := 0) rfl rfl ?_
  refine a_dup C dX10_emit_23 rfl ?_
  refine a_get C fl_RX10_51 (i := 30) kd_30 (hid 30 (by decide)) (v := .int 7) (congrArg (fun z => some (Value.int z)) h_30_8) dX10_emit_24 ?_
  refine a_iconst C dX10_emit_27 (v := 1) rfl ?_
  refine a_iadd C dX10_emit_28 ?_
  refine a_put C fp_RX10_51 (i := 30) kd_30 (hid 30 (by decide)) rfl rfl dX10_emit_29 ?_
  exact a_vret Rt dX10_emit_32 (rfl)
set_option maxHeartbeats 4000000 in
set_option maxRecDepth 100000 in
theorem k_clearT {l : Launch} {D : va_G} {ids : List Nat} {ad : Nat → Nat} {ca : Nat → ClassId} {σ : HS} (hid : ∀ i, i ∈ [30, 31, 32, 33, 34, 35, 36, 37, 38, 39, 40, 41, 42] → i ∈ ids) : Kv l D ids ad ca yX10_clear cX10_clear 2 1 21 [.ref (ad 30)] σ (fun σ1 => σ1 = (hI (hI (hI (hI (hI (hI (hI (hI (hI (hI (hI (hI (hI (hI (hI (hI (hI (hI (hI (hI (hI (hI (hI (hI (hI σ 30 0 0) 30 4 0) 30 10 1) 30 11 0) 30 8 0) 42 0 0) 41 0 0) 30 8 1) 41 1 (-6)) 30 8 2) 42 1 2) 41 2 0) 30 8 3) 41 3 (-6)) 30 8 4) 42 2 4) 41 4 (-11)) 30 8 5) 41 5 (-6)) 30 8 6) 42 3 6) 41 6 0) 30 8 7) 41 7 (-6)) 30 8 8)) := by
  refine Kv.of (by decide) (Nat.le_of_ble_eq_true rfl) 1 (fun Γ C Rt => ?_)
  show AW ids ad ca Γ 0 [some (.ref (ad 30)), none] [] σ
  refine a_aload_n C dX10_clear_0 (i := 0) rfl rfl ?_
  refine a_iconst C dX10_clear_1 (v := 0) rfl ?_
  refine a_put C fp_RX10_38 (i := 30) kd_30 (hid 30 (by decide)) rfl rfl dX10_clear_2 ?_
  refine a_aload_n C dX10_clear_5 (i := 0) rfl rfl ?_
  refine a_iconst C dX10_clear_6 (v := 0) rfl ?_
  refine a_put C fp_RX10_42 (i := 30) kd_30 (hid 30 (by decide)) rfl rfl dX10_clear_7 ?_
  refine a_aload_n C dX10_clear_10 (i := 0) rfl rfl ?_
  refine a_iconst C dX10_clear_11 (v := 1) rfl ?_
  refine a_put C fp_RX10_45 (i := 30) kd_30 (hid 30 (by decide)) rfl rfl dX10_clear_12 ?_
  refine a_aload_n C dX10_clear_15 (i := 0) rfl rfl ?_
  refine a_iconst C dX10_clear_16 (v := 0) rfl ?_
  refine a_put C fp_RX10_48 (i := 30) kd_30 (hid 30 (by decide)) rfl rfl dX10_clear_17 ?_
  refine a_aload_n C dX10_clear_20 (i := 0) rfl rfl ?_
  refine a_iconst C dX10_clear_21 (v := 0) rfl ?_
  refine a_put C fp_RX10_51 (i := 30) kd_30 (hid 30 (by decide)) rfl rfl dX10_clear_22 ?_
  refine a_iconst C dX10_clear_25 (v := 0) rfl ?_
  refine a_istore_n C dX10_clear_26 (i := 1) rfl (by decide) rfl (vs1 := [some (.ref (ad 30)), some (.int 0)]) rfl ?_
  refine a_iload_n C dX10_clear_27 (i := 1) rfl rfl ?_
  refine a_iconst C dX10_clear_28 (v := 4) rfl ?_
  refine a_ic_ge C dX10_clear_29 (tgt := 69) rfl (fun h => absurd h (by decide)) (fun _ => ?_)
  refine a_aload_n C dX10_clear_32 (i := 0) rfl rfl ?_
  refine a_get C fl_RX10_32 (i := 30) kd_30 (hid 30 (by decide)) (v := .ref (ad 42)) rfl dX10_clear_33 ?_
  refine a_iload_n C dX10_clear_36 (i := 1) rfl rfl ?_
  refine a_aload_n C dX10_clear_37 (i := 0) rfl rfl ?_
  refine a_get C fl_RX10_51 (i := 30) kd_30 (hid 30 (by decide)) (v := .int 0) rfl dX10_clear_38 ?_
  refine a_iast C (i := 42) 0 kd_42 (hid 42 (by decide)) (by decide) rfl (by rw [al_42]; decide) dX10_clear_41 ?_
  refine a_aload_n C dX10_clear_42 (i := 0) rfl rfl ?_
  refine a_iload_n C dX10_clear_43 (i := 1) rfl rfl ?_
  refine a_iconst C dX10_clear_44 (v := 2) rfl ?_
  refine a_ic_ne C dX10_clear_45 (tgt := 53) rfl (fun _ => ?_) (fun h => absurd h (by decide))
  refine a_iconst C dX10_clear_53 (v := 0) rfl ?_
  refine a_callVv C (i := 30) kd_30 (hid 30 (by decide)) ⟨_, _, rfl⟩ (by decide) (k_emitT_0 hid rfl) mi_X10_emit ml_RX10_54 rfl rfl (Nat.le_of_ble_eq_true rfl) (Nat.le_of_ble_eq_true rfl) (Nat.le_of_ble_eq_true rfl) dX10_clear_54 (fun σ2 q3 => ?_)
  subst q3
  refine a_aload_n C dX10_clear_57 (i := 0) rfl rfl ?_
  refine a_bipush C dX10_clear_58 (v := (-6)) rfl ?_
  refine a_callVv C (i := 30) kd_30 (hid 30 (by decide)) ⟨_, _, rfl⟩ (by decide) (k_emitT_1 hid rfl) mi_X10_emit ml_RX10_54 rfl rfl (Nat.le_of_ble_eq_true rfl) (Nat.le_of_ble_eq_true rfl) (Nat.le_of_ble_eq_true rfl) dX10_clear_60 (fun σ5 q6 => ?_)
  subst q6
  refine a_iinc C dX10_clear_63 rfl (v := 1) rfl (by decide) rfl (vs1 := [some (.ref (ad 30)), some (.int 1)]) rfl ?_
  refine a_goto C dX10_clear_66 (tgt := 27) rfl ?_
  refine a_iload_n C dX10_clear_27 (i := 1) rfl rfl ?_
  refine a_iconst C dX10_clear_28 (v := 4) rfl ?_
  refine a_ic_ge C dX10_clear_29 (tgt := 69) rfl (fun h => absurd h (by decide)) (fun _ => ?_)
  refine a_aload_n C dX10_clear_32 (i := 0) rfl rfl ?_
  refine a_get C fl_RX10_32 (i := 30) kd_30 (hid 30 (by decide)) (v := .ref (ad 42)) rfl dX10_clear_33 ?_
  refine a_iload_n C dX10_clear_36 (i := 1) rfl rfl ?_
  refine a_aload_n C dX10_clear_37 (i := 0) rfl rfl ?_
  refine a_get C fl_RX10_51 (i := 30) kd_30 (hid 30 (by decide)) (v := .int 2) rfl dX10_clear_38 ?_
  refine a_iast C (i := 42) 1 kd_42 (hid 42 (by decide)) (by decide) rfl (by rw [al_42]; decide) dX10_clear_41 ?_
  refine a_aload_n C dX10_clear_42 (i := 0) rfl rfl ?_
  refine a_iload_n C dX10_clear_43 (i := 1) rfl rfl ?_
  refine a_iconst C dX10_clear_44 (v := 2) rfl ?_
  refine a_ic_ne C dX10_clear_45 (tgt := 53) rfl (fun _ => ?_) (fun h => absurd h (by decide))
  refine a_iconst C dX10_clear_53 (v := 0) rfl ?_
  refine a_callVv C (i := 30) kd_30 (hid 30 (by decide)) ⟨_, _, rfl⟩ (by decide) (k_emitT_2 hid rfl) mi_X10_emit ml_RX10_54 rfl rfl (Nat.le_of_ble_eq_true rfl) (Nat.le_of_ble_eq_true rfl) (Nat.le_of_ble_eq_true rfl) dX10_clear_54 (fun σ8 q9 => ?_)
  subst q9
  refine a_aload_n C dX10_clear_57 (i := 0) rfl rfl ?_
  refine a_bipush C dX10_clear_58 (v := (-6)) rfl ?_
  refine a_callVv C (i := 30) kd_30 (hid 30 (by decide)) ⟨_, _, rfl⟩ (by decide) (k_emitT_3 hid rfl) mi_X10_emit ml_RX10_54 rfl rfl (Nat.le_of_ble_eq_true rfl) (Nat.le_of_ble_eq_true rfl) (Nat.le_of_ble_eq_true rfl) dX10_clear_60 (fun σ11 q12 => ?_)
  subst q12
  refine a_iinc C dX10_clear_63 rfl (v := 2) rfl (by decide) rfl (vs1 := [some (.ref (ad 30)), some (.int 2)]) rfl ?_
  refine a_goto C dX10_clear_66 (tgt := 27) rfl ?_
  refine a_iload_n C dX10_clear_27 (i := 1) rfl rfl ?_
  refine a_iconst C dX10_clear_28 (v := 4) rfl ?_
  refine a_ic_ge C dX10_clear_29 (tgt := 69) rfl (fun h => absurd h (by decide)) (fun _ => ?_)
  refine a_aload_n C dX10_clear_32 (i := 0) rfl rfl ?_
  refine a_get C fl_RX10_32 (i := 30) kd_30 (hid 30 (by decide)) (v := .ref (ad 42)) rfl dX10_clear_33 ?_
  refine a_iload_n C dX10_clear_36 (i := 1) rfl rfl ?_
  refine a_aload_n C dX10_clear_37 (i := 0) rfl rfl ?_
  refine a_get C fl_RX10_51 (i := 30) kd_30 (hid 30 (by decide)) (v := .int 4) rfl dX10_clear_38 ?_
  refine a_iast C (i := 42) 2 kd_42 (hid 42 (by decide)) (by decide) rfl (by rw [al_42]; decide) dX10_clear_41 ?_
  refine a_aload_n C dX10_clear_42 (i := 0) rfl rfl ?_
  refine a_iload_n C dX10_clear_43 (i := 1) rfl rfl ?_
  refine a_iconst C dX10_clear_44 (v := 2) rfl ?_
  refine a_ic_ne C dX10_clear_45 (tgt := 53) rfl (fun h => absurd h (by decide)) (fun _ => ?_)
  refine a_bipush C dX10_clear_48 (v := (-11)) rfl ?_
  refine a_goto C dX10_clear_50 (tgt := 54) rfl ?_
  refine a_callVv C (i := 30) kd_30 (hid 30 (by decide)) ⟨_, _, rfl⟩ (by decide) (k_emitT_4 hid rfl) mi_X10_emit ml_RX10_54 rfl rfl (Nat.le_of_ble_eq_true rfl) (Nat.le_of_ble_eq_true rfl) (Nat.le_of_ble_eq_true rfl) dX10_clear_54 (fun σ14 q15 => ?_)
  subst q15
  refine a_aload_n C dX10_clear_57 (i := 0) rfl rfl ?_
  refine a_bipush C dX10_clear_58 (v := (-6)) rfl ?_
  refine a_callVv C (i := 30) kd_30 (hid 30 (by decide)) ⟨_, _, rfl⟩ (by decide) (k_emitT_5 hid rfl) mi_X10_emit ml_RX10_54 rfl rfl (Nat.le_of_ble_eq_true rfl) (Nat.le_of_ble_eq_true rfl) (Nat.le_of_ble_eq_true rfl) dX10_clear_60 (fun σ17 q18 => ?_)
  subst q18
  refine a_iinc C dX10_clear_63 rfl (v := 3) rfl (by decide) rfl (vs1 := [some (.ref (ad 30)), some (.int 3)]) rfl ?_
  refine a_goto C dX10_clear_66 (tgt := 27) rfl ?_
  refine a_iload_n C dX10_clear_27 (i := 1) rfl rfl ?_
  refine a_iconst C dX10_clear_28 (v := 4) rfl ?_
  refine a_ic_ge C dX10_clear_29 (tgt := 69) rfl (fun h => absurd h (by decide)) (fun _ => ?_)
  refine a_aload_n C dX10_clear_32 (i := 0) rfl rfl ?_
  refine a_get C fl_RX10_32 (i := 30) kd_30 (hid 30 (by decide)) (v := .ref (ad 42)) rfl dX10_clear_33 ?_
  refine a_iload_n C dX10_clear_36 (i := 1) rfl rfl ?_
  refine a_aload_n C dX10_clear_37 (i := 0) rfl rfl ?_
  refine a_get C fl_RX10_51 (i := 30) kd_30 (hid 30 (by decide)) (v := .int 6) rfl dX10_clear_38 ?_
  refine a_iast C (i := 42) 3 kd_42 (hid 42 (by decide)) (by decide) rfl (by rw [al_42]; decide) dX10_clear_41 ?_
  refine a_aload_n C dX10_clear_42 (i := 0) rfl rfl ?_
  refine a_iload_n C dX10_clear_43 (i := 1) rfl rfl ?_
  refine a_iconst C dX10_clear_44 (v := 2) rfl ?_
  refine a_ic_ne C dX10_clear_45 (tgt := 53) rfl (fun _ => ?_) (fun h => absurd h (by decide))
  refine a_iconst C dX10_clear_53 (v := 0) rfl ?_
  refine a_callVv C (i := 30) kd_30 (hid 30 (by decide)) ⟨_, _, rfl⟩ (by decide) (k_emitT_6 hid rfl) mi_X10_emit ml_RX10_54 rfl rfl (Nat.le_of_ble_eq_true rfl) (Nat.le_of_ble_eq_true rfl) (Nat.le_of_ble_eq_true rfl) dX10_clear_54 (fun σ20 q21 => ?_)
  subst q21
  refine a_aload_n C dX10_clear_57 (i := 0) rfl rfl ?_
  refine a_bipush C dX10_clear_58 (v := (-6)) rfl ?_
  refine a_callVv C (i := 30) kd_30 (hid 30 (by decide)) ⟨_, _, rfl⟩ (by decide) (k_emitT_7 hid rfl) mi_X10_emit ml_RX10_54 rfl rfl (Nat.le_of_ble_eq_true rfl) (Nat.le_of_ble_eq_true rfl) (Nat.le_of_ble_eq_true rfl) dX10_clear_60 (fun σ23 q24 => ?_)
  subst q24
  refine a_iinc C dX10_clear_63 rfl (v := 4) rfl (by decide) rfl (vs1 := [some (.ref (ad 30)), some (.int 4)]) rfl ?_
  refine a_goto C dX10_clear_66 (tgt := 27) rfl ?_
  refine a_iload_n C dX10_clear_27 (i := 1) rfl rfl ?_
  refine a_iconst C dX10_clear_28 (v := 4) rfl ?_
  refine a_ic_ge C dX10_clear_29 (tgt := 69) rfl (fun _ => ?_) (fun h => absurd h (by decide))
  exact a_vret Rt dX10_clear_69 (rfl)
theorem dX10_init_0 : decode cX10_init 0 = .ok (.aload_n 0, 1) := by decide +kernel
theorem dX10_init_1 : decode cX10_init 1 = .ok (.invokespecial 3, 3) := by decide +kernel
theorem dX10_init_4 : decode cX10_init 4 = .ok (.aload_n 0, 1) := by decide +kernel
theorem dX10_init_5 : decode cX10_init 5 = .ok (.bipush 7, 2) := by decide +kernel
theorem dX10_init_7 : decode cX10_init 7 = .ok (.newarray .int, 2) := by decide +kernel
theorem dX10_init_9 : decode cX10_init 9 = .ok (.putfield 9, 3) := by decide +kernel
theorem dX10_init_12 : decode cX10_init 12 = .ok (.aload_n 0, 1) := by decide +kernel
theorem dX10_init_13 : decode cX10_init 13 = .ok (.bipush 7, 2) := by decide +kernel
theorem dX10_init_15 : decode cX10_init 15 = .ok (.newarray .int, 2) := by decide +kernel
theorem dX10_init_17 : decode cX10_init 17 = .ok (.putfield 15, 3) := by decide +kernel
theorem dX10_init_20 : decode cX10_init 20 = .ok (.aload_n 0, 1) := by decide +kernel
theorem dX10_init_21 : decode cX10_init 21 = .ok (.bipush 7, 2) := by decide +kernel
theorem dX10_init_23 : decode cX10_init 23 = .ok (.newarray .int, 2) := by decide +kernel
theorem dX10_init_25 : decode cX10_init 25 = .ok (.putfield 18, 3) := by decide +kernel
theorem dX10_init_28 : decode cX10_init 28 = .ok (.aload_n 0, 1) := by decide +kernel
theorem dX10_init_29 : decode cX10_init 29 = .ok (.iconst 5, 1) := by decide +kernel
theorem dX10_init_30 : decode cX10_init 30 = .ok (.bipush 8, 2) := by decide +kernel
theorem dX10_init_32 : decode cX10_init 32 = .ok (.multianewarray 21 2, 4) := by decide +kernel
theorem dX10_init_36 : decode cX10_init 36 = .ok (.putfield 23, 3) := by decide +kernel
theorem dX10_init_39 : decode cX10_init 39 = .ok (.aload_n 0, 1) := by decide +kernel
theorem dX10_init_40 : decode cX10_init 40 = .ok (.iconst 5, 1) := by decide +kernel
theorem dX10_init_41 : decode cX10_init 41 = .ok (.newarray .int, 2) := by decide +kernel
theorem dX10_init_43 : decode cX10_init 43 = .ok (.putfield 26, 3) := by decide +kernel
theorem dX10_init_46 : decode cX10_init 46 = .ok (.aload_n 0, 1) := by decide +kernel
theorem dX10_init_47 : decode cX10_init 47 = .ok (.sipush 408, 3) := by decide +kernel
theorem dX10_init_50 : decode cX10_init 50 = .ok (.newarray .int, 2) := by decide +kernel
theorem dX10_init_52 : decode cX10_init 52 = .ok (.putfield 29, 3) := by decide +kernel
theorem dX10_init_55 : decode cX10_init 55 = .ok (.aload_n 0, 1) := by decide +kernel
theorem dX10_init_56 : decode cX10_init 56 = .ok (.iconst 4, 1) := by decide +kernel
theorem dX10_init_57 : decode cX10_init 57 = .ok (.newarray .int, 2) := by decide +kernel
theorem dX10_init_59 : decode cX10_init 59 = .ok (.putfield 32, 3) := by decide +kernel
theorem dX10_init_62 : decode cX10_init 62 = .ok (.aload_n 0, 1) := by decide +kernel
theorem dX10_init_63 : decode cX10_init 63 = .ok (.invokevirtual 35, 3) := by decide +kernel
theorem dX10_init_66 : decode cX10_init 66 = .ok (.return_, 1) := by decide +kernel
set_option maxHeartbeats 4000000 in
set_option maxRecDepth 100000 in
theorem n_9 {l : Launch} {D : va_G} {a : Nat} : KN (S := UU) l D yX10_init cX10_init 1 2 42 12 483 [.ref a] [(a, .inr (9, [.int 0, .null, .null, .null, .int 0, .null, .null, .null, .int 0, .null, .int 0, .int 0]))] [] (fun u => mw [30, 31, 32, 33, 34, 35, 36, 37, 38, 39, 40, 41, 42] u.1 u.2 s0) (fun u => tys [30, 31, 32, 33, 34, 35, 36, 37, 38, 39, 40, 41, 42] u.2) (fun u => u.1 30 = a) := by
  refine KN.of (by decide) (Nat.le_of_ble_eq_true rfl) 0 (fun Γ C hin hG Rt => ?_)
  have hin := hin rfl
  show GW Γ 0 [some (.ref a)] [] [(a, .inr (9, [.int 0, .null, .null, .null, .int 0, .null, .null, .null, .int 0, .null, .int 0, .int 0]))] [] 0 0
  refine g_aload_n C dX10_init_0 (i := 0) rfl rfl ?_
  refine g_objInit C oi_9 oi_w.1 oi_w.2 (by decide) (Nat.le_of_ble_eq_true rfl) dX10_init_1 ?_
  refine g_aload_n C dX10_init_4 (i := 0) rfl rfl ?_
  refine g_bipush C dX10_init_5 (v := 7) rfl ?_
  refine g_newa C (atype := .int) (ty := .int) 7 (7, .inl (fun _ => 0)) aw_int rfl (fun _ => rfl) (by decide) rfl (by decide) (by omega) (by omega) dX10_init_7 (fun q1 c1 => ?_)
  refine g_eq (ws1 := [(a, .inr (9, [.int 0, .null, .null, .null, .int 0, .null, .null, .null, .int 0, .null, .int 0, .int 0])), (q1, .inl (c1, 7, .inl (fun _ => 0)))]) (ts1 := ([] ++ [(c1, .int)])) (kc1 := 1) (ks1 := 7) rfl rfl rfl rfl ?_
  refine g_put C hin (q0 := 0) fw_9_9 rfl rfl rfl (Nat.le_of_ble_eq_true rfl) dX10_init_9 (ws1 := [(a, .inr (9, [.int 0, .ref q1, .null, .null, .int 0, .null, .null, .null, .int 0, .null, .int 0, .int 0])), (q1, .inl (c1, 7, .inl (fun _ => 0)))]) rfl ?_
  refine g_aload_n C dX10_init_12 (i := 0) rfl rfl ?_
  refine g_bipush C dX10_init_13 (v := 7) rfl ?_
  refine g_newa C (atype := .int) (ty := .int) 7 (7, .inl (fun _ => 0)) aw_int rfl (fun _ => rfl) (by decide) rfl (by decide) (by omega) (by omega) dX10_init_15 (fun q2 c2 => ?_)
  refine g_eq (ws1 := [(a, .inr (9, [.int 0, .ref q1, .null, .null, .int 0, .null, .null, .null, .int 0, .null, .int 0, .int 0])), (q1, .inl (c1, 7, .inl (fun _ => 0))), (q2, .inl (c2, 7, .inl (fun _ => 0)))]) (ts1 := (([] ++ [(c1, .int)]) ++ [(c2, .int)])) (kc1 := 2) (ks1 := 14) rfl rfl rfl rfl ?_
  refine g_put C hin (q0 := 0) fw_9_15 rfl rfl rfl (Nat.le_of_ble_eq_true rfl) dX10_init_17 (ws1 := [(a, .inr (9, [.int 0, .ref q1, .ref q2, .null, .int 0, .null, .null, .null, .int 0, .null, .int 0, .int 0])), (q1, .inl (c1, 7, .inl (fun _ => 0))), (q2, .inl (c2, 7, .inl (fun _ => 0)))]) rfl ?_
  refine g_aload_n C dX10_init_20 (i := 0) rfl rfl ?_
  refine g_bipush C dX10_init_21 (v := 7) rfl ?_
  refine g_newa C (atype := .int) (ty := .int) 7 (7, .inl (fun _ => 0)) aw_int rfl (fun _ => rfl) (by decide) rfl (by decide) (by omega) (by omega) dX10_init_23 (fun q3 c3 => ?_)
  refine g_eq (ws1 := [(a, .inr (9, [.int 0, .ref q1, .ref q2, .null, .int 0, .null, .null, .null, .int 0, .null, .int 0, .int 0])), (q1, .inl (c1, 7, .inl (fun _ => 0))), (q2, .inl (c2, 7, .inl (fun _ => 0))), (q3, .inl (c3, 7, .inl (fun _ => 0)))]) (ts1 := ((([] ++ [(c1, .int)]) ++ [(c2, .int)]) ++ [(c3, .int)])) (kc1 := 3) (ks1 := 21) rfl rfl rfl rfl ?_
  refine g_put C hin (q0 := 0) fw_9_18 rfl rfl rfl (Nat.le_of_ble_eq_true rfl) dX10_init_25 (ws1 := [(a, .inr (9, [.int 0, .ref q1, .ref q2, .ref q3, .int 0, .null, .null, .null, .int 0, .null, .int 0, .int 0])), (q1, .inl (c1, 7, .inl (fun _ => 0))), (q2, .inl (c2, 7, .inl (fun _ => 0))), (q3, .inl (c3, 7, .inl (fun _ => 0)))]) rfl ?_
  refine g_aload_n C dX10_init_28 (i := 0) rfl rfl ?_
  refine g_iconst C dX10_init_29 (v := 5) rfl ?_
  refine g_bipush C dX10_init_30 (v := 8) rfl ?_
  refine g_mna C hG (t0 := 0) (c1 := c1) (gw2 49 (by decide +kernel) rfl) aw_int rfl (by omega) (by omega) dX10_init_32 (fun qh rh ch => ?_)
  refine g_eq (ws1 := [(a, .inr (9, [.int 0, .ref q1, .ref q2, .ref q3, .int 0, .null, .null, .null, .int 0, .null, .int 0, .int 0])), (q1, .inl (c1, 7, .inl (fun _ => 0))), (q2, .inl (c2, 7, .inl (fun _ => 0))), (q3, .inl (c3, 7, .inl (fun _ => 0))), (qh, .inl (ch, 5, .inr (.inr (.inr (.inr (fun i => if i < 5 then some (rh i) else none)))))), (rh 0, .inl (c1, 8, .inl (fun _ => 0))), (rh 1, .inl (c1, 8, .inl (fun _ => 0))), (rh 2, .inl (c1, 8, .inl (fun _ => 0))), (rh 3, .inl (c1, 8, .inl (fun _ => 0))), (rh 4, .inl (c1, 8, .inl (fun _ => 0)))]) (ts1 := (((([] ++ [(c1, .int)]) ++ [(c2, .int)]) ++ [(c3, .int)]) ++ [(ch, (.array .int))])) (kc1 := 9) (ks1 := 66) rfl rfl rfl rfl ?_
  refine g_put C hin (q0 := 0) fw_9_23 rfl rfl rfl (Nat.le_of_ble_eq_true rfl) dX10_init_36 (ws1 := [(a, .inr (9, [.int 0, .ref q1, .ref q2, .ref q3, .int 0, .ref qh, .null, .null, .int 0, .null, .int 0, .int 0])), (q1, .inl (c1, 7, .inl (fun _ => 0))), (q2, .inl (c2, 7, .inl (fun _ => 0))), (q3, .inl (c3, 7, .inl (fun _ => 0))), (qh, .inl (ch, 5, .inr (.inr (.inr (.inr (fun i => if i < 5 then some (rh i) else none)))))), (rh 0, .inl (c1, 8, .inl (fun _ => 0))), (rh 1, .inl (c1, 8, .inl (fun _ => 0))), (rh 2, .inl (c1, 8, .inl (fun _ => 0))), (rh 3, .inl (c1, 8, .inl (fun _ => 0))), (rh 4, .inl (c1, 8, .inl (fun _ => 0)))]) rfl ?_
  refine g_aload_n C dX10_init_39 (i := 0) rfl rfl ?_
  refine g_iconst C dX10_init_40 (v := 5) rfl ?_
  refine g_newa C (atype := .int) (ty := .int) 5 (5, .inl (fun _ => 0)) aw_int rfl (fun _ => rfl) (by decide) rfl (by decide) (by omega) (by omega) dX10_init_41 (fun q4 c4 => ?_)
  refine g_eq (ws1 := [(a, .inr (9, [.int 0, .ref q1, .ref q2, .ref q3, .int 0, .ref qh, .null, .null, .int 0, .null, .int 0, .int 0])), (q1, .inl (c1, 7, .inl (fun _ => 0))), (q2, .inl (c2, 7, .inl (fun _ => 0))), (q3, .inl (c3, 7, .inl (fun _ => 0))), (qh, .inl (ch, 5, .inr (.inr (.inr (.inr (fun i => if i < 5 then some (rh i) else none)))))), (rh 0, .inl (c1, 8, .inl (fun _ => 0))), (rh 1, .inl (c1, 8, .inl (fun _ => 0))), (rh 2, .inl (c1, 8, .inl (fun _ => 0))), (rh 3, .inl (c1, 8, .inl (fun _ => 0))), (rh 4, .inl (c1, 8, .inl (fun _ => 0))), (q4, .inl (c4, 5, .inl (fun _ => 0)))]) (ts1 := ((((([] ++ [(c1, .int)]) ++ [(c2, .int)]) ++ [(c3, .int)]) ++ [(ch, (.array .int))]) ++ [(c4, .int)])) (kc1 := 10) (ks1 := 71) rfl rfl rfl rfl ?_
  refine g_put C hin (q0 := 0) fw_9_26 rfl rfl rfl (Nat.le_of_ble_eq_true rfl) dX10_init_43 (ws1 := [(a, .inr (9, [.int 0, .ref q1, .ref q2, .ref q3, .int 0, .ref qh, .ref q4, .null, .int 0, .null, .int 0, .int 0])), (q1, .inl (c1, 7, .inl (fun _ => 0))), (q2, .inl (c2, 7, .inl (fun _ => 0))), (q3, .inl (c3, 7, .inl (fun _ => 0))), (qh, .inl (ch, 5, .inr (.inr (.inr (.inr (fun i => if i < 5 then some (rh i) else none)))))), (rh 0, .inl (c1, 8, .inl (fun _ => 0))), (rh 1, .inl (c1, 8, .inl (fun _ => 0))), (rh 2, .inl (c1, 8, .inl (fun _ => 0))), (rh 3, .inl (c1, 8, .inl (fun _ => 0))), (rh 4, .inl (c1, 8, .inl (fun _ => 0))), (q4, .inl (c4, 5, .inl (fun _ => 0)))]) rfl ?_
  refine g_aload_n C dX10_init_46 (i := 0) rfl rfl ?_
  refine g_sipush C dX10_init_47 (v := 408) rfl ?_
  refine g_newa C (atype := .int) (ty := .int) 408 (408, .inl (fun _ => 0)) aw_int rfl (fun _ => rfl) (by decide) rfl (by decide) (by omega) (by omega) dX10_init_50 (fun q5 c5 => ?_)
  refine g_eq (ws1 := [(a, .inr (9, [.int 0, .ref q1, .ref q2, .ref q3, .int 0, .ref qh, .ref q4, .null, .int 0, .null, .int 0, .int 0])), (q1, .inl (c1, 7, .inl (fun _ => 0))), (q2, .inl (c2, 7, .inl (fun _ => 0))), (q3, .inl (c3, 7, .inl (fun _ => 0))), (qh, .inl (ch, 5, .inr (.inr (.inr (.inr (fun i => if i < 5 then some (rh i) else none)))))), (rh 0, .inl (c1, 8, .inl (fun _ => 0))), (rh 1, .inl (c1, 8, .inl (fun _ => 0))), (rh 2, .inl (c1, 8, .inl (fun _ => 0))), (rh 3, .inl (c1, 8, .inl (fun _ => 0))), (rh 4, .inl (c1, 8, .inl (fun _ => 0))), (q4, .inl (c4, 5, .inl (fun _ => 0))), (q5, .inl (c5, 408, .inl (fun _ => 0)))]) (ts1 := (((((([] ++ [(c1, .int)]) ++ [(c2, .int)]) ++ [(c3, .int)]) ++ [(ch, (.array .int))]) ++ [(c4, .int)]) ++ [(c5, .int)])) (kc1 := 11) (ks1 := 479) rfl rfl rfl rfl ?_
  refine g_put C hin (q0 := 0) fw_9_29 rfl rfl rfl (Nat.le_of_ble_eq_true rfl) dX10_init_52 (ws1 := [(a, .inr (9, [.int 0, .ref q1, .ref q2, .ref q3, .int 0, .ref qh, .ref q4, .ref q5, .int 0, .null, .int 0, .int 0])), (q1, .inl (c1, 7, .inl (fun _ => 0))), (q2, .inl (c2, 7, .inl (fun _ => 0))), (q3, .inl (c3, 7, .inl (fun _ => 0))), (qh, .inl (ch, 5, .inr (.inr (.inr (.inr (fun i => if i < 5 then some (rh i) else none)))))), (rh 0, .inl (c1, 8, .inl (fun _ => 0))), (rh 1, .inl (c1, 8, .inl (fun _ => 0))), (rh 2, .inl (c1, 8, .inl (fun _ => 0))), (rh 3, .inl (c1, 8, .inl (fun _ => 0))), (rh 4, .inl (c1, 8, .inl (fun _ => 0))), (q4, .inl (c4, 5, .inl (fun _ => 0))), (q5, .inl (c5, 408, .inl (fun _ => 0)))]) rfl ?_
  refine g_aload_n C dX10_init_55 (i := 0) rfl rfl ?_
  refine g_iconst C dX10_init_56 (v := 4) rfl ?_
  refine g_newa C (atype := .int) (ty := .int) 4 (4, .inl (fun _ => 0)) aw_int rfl (fun _ => rfl) (by decide) rfl (by decide) (by omega) (by omega) dX10_init_57 (fun q6 c6 => ?_)
  refine g_eq (ws1 := [(a, .inr (9, [.int 0, .ref q1, .ref q2, .ref q3, .int 0, .ref qh, .ref q4, .ref q5, .int 0, .null, .int 0, .int 0])), (q1, .inl (c1, 7, .inl (fun _ => 0))), (q2, .inl (c2, 7, .inl (fun _ => 0))), (q3, .inl (c3, 7, .inl (fun _ => 0))), (qh, .inl (ch, 5, .inr (.inr (.inr (.inr (fun i => if i < 5 then some (rh i) else none)))))), (rh 0, .inl (c1, 8, .inl (fun _ => 0))), (rh 1, .inl (c1, 8, .inl (fun _ => 0))), (rh 2, .inl (c1, 8, .inl (fun _ => 0))), (rh 3, .inl (c1, 8, .inl (fun _ => 0))), (rh 4, .inl (c1, 8, .inl (fun _ => 0))), (q4, .inl (c4, 5, .inl (fun _ => 0))), (q5, .inl (c5, 408, .inl (fun _ => 0))), (q6, .inl (c6, 4, .inl (fun _ => 0)))]) (ts1 := ((((((([] ++ [(c1, .int)]) ++ [(c2, .int)]) ++ [(c3, .int)]) ++ [(ch, (.array .int))]) ++ [(c4, .int)]) ++ [(c5, .int)]) ++ [(c6, .int)])) (kc1 := 12) (ks1 := 483) rfl rfl rfl rfl ?_
  refine g_put C hin (q0 := 0) fw_9_32 rfl rfl rfl (Nat.le_of_ble_eq_true rfl) dX10_init_59 (ws1 := [(a, .inr (9, [.int 0, .ref q1, .ref q2, .ref q3, .int 0, .ref qh, .ref q4, .ref q5, .int 0, .ref q6, .int 0, .int 0])), (q1, .inl (c1, 7, .inl (fun _ => 0))), (q2, .inl (c2, 7, .inl (fun _ => 0))), (q3, .inl (c3, 7, .inl (fun _ => 0))), (qh, .inl (ch, 5, .inr (.inr (.inr (.inr (fun i => if i < 5 then some (rh i) else none)))))), (rh 0, .inl (c1, 8, .inl (fun _ => 0))), (rh 1, .inl (c1, 8, .inl (fun _ => 0))), (rh 2, .inl (c1, 8, .inl (fun _ => 0))), (rh 3, .inl (c1, 8, .inl (fun _ => 0))), (rh 4, .inl (c1, 8, .inl (fun _ => 0))), (q4, .inl (c4, 5, .inl (fun _ => 0))), (q5, .inl (c5, 408, .inl (fun _ => 0))), (q6, .inl (c6, 4, .inl (fun _ => 0)))]) rfl ?_
  have eh : (fun i => if i < 5 then some (rh i) else none) = rfK (fun i => if i = 30 then a else if i = 31 then q1 else if i = 32 then q2 else if i = 33 then q3 else if i = 34 then qh else if i = 35 then rh 0 else if i = 36 then rh 1 else if i = 37 then rh 2 else if i = 38 then rh 3 else if i = 39 then rh 4 else if i = 40 then q4 else if i = 41 then q5 else if i = 42 then q6 else 0) 26 34 := by
    funext i
    show _ = if i < 5 then some ((fun i => if i = 30 then a else if i = 31 then q1 else if i = 32 then q2 else if i = 33 then q3 else if i = 34 then qh else if i = 35 then rh 0 else if i = 36 then rh 1 else if i = 37 then rh 2 else if i = 38 then rh 3 else if i = 39 then rh 4 else if i = 40 then q4 else if i = 41 then q5 else if i = 42 then q6 else 0) (34 + 1 + i)) else none
    by_cases h : i < 5
    · rw [if_pos h, if_pos h]
      rcases (show i = 0 ∨ i = 1 ∨ i = 2 ∨ i = 3 ∨ i = 4 by omega) with rfl | rfl | rfl | rfl | rfl <;> rfl
    · rw [if_neg h, if_neg h]
  rw [eh]
  refine g_aw (ids := [30, 31, 32, 33, 34, 35, 36, 37, 38, 39, 40, 41, 42]) (ad := (fun i => if i = 30 then a else if i = 31 then q1 else if i = 32 then q2 else if i = 33 then q3 else if i = 34 then qh else if i = 35 then rh 0 else if i = 36 then rh 1 else if i = 37 then rh 2 else if i = 38 then rh 3 else if i = 39 then rh 4 else if i = 40 then q4 else if i = 41 then q5 else if i = 42 then q6 else 0)) (ca := (fun i => if i = 31 then c1 else if i = 32 then c2 else if i = 33 then c3 else if i = 34 then ch else if i = 35 then c1 else if i = 36 then c1 else if i = 37 then c1 else if i = 38 then c1 else if i = 39 then c1 else if i = 40 then c4 else if i = 41 then c5 else if i = 42 then c6 else c1)) (σ := (fun _ _ => 0, fun _ _ => 0, fun _ => 0)) C (by omega) (by omega) rfl (fun q hq => by
    have hq : q ∈ ([(c1, .int), (c2, .int), (c3, .int), (ch, .array .int), (c1, .int), (c1, .int), (c1, .int), (c1, .int), (c1, .int), (c4, .int), (c5, .int), (c6, .int)] : List (ClassId × FieldType)) := hq
    simp only [List.mem_cons, List.not_mem_nil, or_false] at hq
    rcases hq with rfl | rfl | rfl | rfl | rfl | rfl | rfl | rfl | rfl | rfl | rfl | rfl <;> simp) (fun C => ?_)
  have Rt := rv_of_rn C Rt (by decide) (by decide) rfl
  have hid : ∀ i, i ∈ ([30, 31, 32, 33, 34, 35, 36, 37, 38, 39, 40, 41, 42] : List Nat) → i ∈ ([30, 31, 32, 33, 34, 35, 36, 37, 38, 39, 40, 41, 42] : List Nat) := fun _ h => h
  show AW [30, 31, 32, 33, 34, 35, 36, 37, 38, 39, 40, 41, 42] (fun i => if i = 30 then a else if i = 31 then q1 else if i = 32 then q2 else if i = 33 then q3 else if i = 34 then qh else if i = 35 then rh 0 else if i = 36 then rh 1 else if i = 37 then rh 2 else if i = 38 then rh 3 else if i = 39 then rh 4 else if i = 40 then q4 else if i = 41 then q5 else if i = 42 then q6 else 0) (fun i => if i = 31 then c1 else if i = 32 then c2 else if i = 33 then c3 else if i = 34 then ch else if i = 35 then c1 else if i = 36 then c1 else if i = 37 then c1 else if i = 38 then c1 else if i = 39 then c1 else if i = 40 then c4 else if i = 41 then c5 else if i = 42 then c6 else c1) _ 62 [some (.ref ((fun i => if i = 30 then a else if i = 31 then q1 else if i = 32 then q2 else if i = 33 then q3 else if i = 34 then qh else if i = 35 then rh 0 else if i = 36 then rh 1 else if i = 37 then rh 2 else if i = 38 then rh 3 else if i = 39 then rh 4 else if i = 40 then q4 else if i = 41 then q5 else if i = 42 then q6 else 0) 30))] [] _
  refine a_aload_n C dX10_init_62 (i := 0) rfl rfl ?_
  refine a_callVv C (i := 30) kd_30 (hid 30 (by decide)) ⟨_, _, rfl⟩ (by decide) (k_clearT hid) mi_X10_clear ml_RX10_35 rfl rfl (Nat.le_of_ble_eq_true rfl) (Nat.le_of_ble_eq_true rfl) (Nat.le_of_ble_eq_true rfl) dX10_init_63 (fun σ2 q3 => ?_)
  subst q3
  exact a_vret Rt dX10_init_66 (by refine ⟨?_, fun h => absurd h (by decide)⟩; decide +kernel)

