set_option maxHeartbeats 4000000 in
set_option maxRecDepth 100000 in
theorem Z_X12_dropsBy {l : Launch} {D : va_G} {ids : List Nat} {ad : Nat → Nat} {ca : Nat → ClassId} {σ : HS} {x1 : Int32} {x2 : Int32} {x3 : Int32} {r0 : Int32} {s0 : HS} (hid : ∀ i, i < 277 → i ∈ ids) (h : f_X12_dropsBy x1 x2 x3 σ = some (r0, s0)) : Ki l D ids ad ca yX12_dropsBy cX12_dropsBy 4 .int 2 53 [.ref (ad 236), .int x1, .int x2, .int x3] σ (fun r σ1 => r = r0 ∧ σ1 = s0) := by
  obtain ⟨R, hR⟩ : ∃ R, (r0, s0) = R := ⟨_, rfl⟩
  replace h := h.trans (congrArg some hR)
  refine Ki.of (by decide) (Nat.le_of_ble_eq_true rfl) 0 (fun Γ C Rt => ?_)
  show AW ids ad ca Γ 0 [some (.ref (ad 236)), some (.int x1), some (.int x2), some (.int x3)] [] σ
  unfold f_X12_dropsBy at h
  refine a_aload_n C dX12_dropsBy_0 (i := 0) rfl rfl ?_
  refine a_iload_n C dX12_dropsBy_1 (i := 1) rfl rfl ?_
  refine a_iload_n C dX12_dropsBy_2 (i := 2) rfl rfl ?_
  refine a_iload_n C dX12_dropsBy_3 (i := 3) rfl rfl ?_
  refine p_callVv C (As := [.int x1, .int x2, .int x3]) (i := 236) kd_236 (hid 236 (by decide)) ⟨_, _, rfl⟩ (by decide) h (fun _ e => Z_X12_looksAt hid e) mi_X12_looksAt ml_RX12_331 rfl rfl (Nat.le_of_ble_eq_true rfl) (Nat.le_of_ble_eq_true rfl) (Nat.le_of_ble_eq_true rfl) dX12_dropsBy_4 (fun σ1 h => ?_)
  refine a_aload_n C dX12_dropsBy_7 (i := 0) rfl rfl ?_
  refine a_iconst C dX12_dropsBy_8 (v := 1) rfl ?_
  refine a_iconst C dX12_dropsBy_9 (v := 0) rfl ?_
  refine p_callVi C (As := [.int 1, .int 0]) (i := 236) kd_236 (hid 236 (by decide)) ⟨_, _, rfl⟩ (by decide) h (fun _ _ e => Z_X12_lawTells hid e) mi_X12_lawTells ml_RX12_335 rfl rfl (Nat.le_of_ble_eq_true rfl) (Nat.le_of_ble_eq_true rfl) (Nat.le_of_ble_eq_true rfl) dX12_dropsBy_10 (fun r4 σ3 h => ?_)
  refine a_iconst C dX12_dropsBy_13 (v := 0) rfl ?_
  refine a_bipush C dX12_dropsBy_14 (v := 100) rfl ?_
  refine p_callSi C (As := [.int r4, .int 0, .int 100]) h (fun _ _ e => Z_X12_held hid e) ms_X12_held ml_RX12_338 rfl rfl (Nat.le_of_ble_eq_true rfl) (Nat.le_of_ble_eq_true rfl) (Nat.le_of_ble_eq_true rfl) dX12_dropsBy_16 (fun r6 σ5 h => ?_)
  exact a_iret Rt dX12_dropsBy_19 rfl (ret_eq (h.trans (congrArg some hR.symm)))
set_option maxHeartbeats 4000000 in
set_option maxRecDepth 100000 in
theorem Z_X12_forceOf {l : Launch} {D : va_G} {ids : List Nat} {ad : Nat → Nat} {ca : Nat → ClassId} {σ : HS} {x1 : Int32} {x2 : Int32} {r0 : Int32} {s0 : HS} (hid : ∀ i, i < 277 → i ∈ ids) (h : f_X12_forceOf x1 x2 σ = some (r0, s0)) : Ki l D ids ad ca yX12_forceOf cX12_forceOf 3 .int 2 53 [.ref (ad 236), .int x1, .int x2] σ (fun r σ1 => r = r0 ∧ σ1 = s0) := by
  obtain ⟨R, hR⟩ : ∃ R, (r0, s0) = R := ⟨_, rfl⟩
  replace h := h.trans (congrArg some hR)
  refine Ki.of (by decide) (Nat.le_of_ble_eq_true rfl) 0 (fun Γ C Rt => ?_)
  show AW ids ad ca Γ 0 [some (.ref (ad 236)), some (.int x1), some (.int x2)] [] σ
  unfold f_X12_forceOf at h
  refine a_aload_n C dX12_forceOf_0 (i := 0) rfl rfl ?_
  refine a_iload_n C dX12_forceOf_1 (i := 1) rfl rfl ?_
  refine a_iconst C dX12_forceOf_2 (v := 0) rfl ?_
  refine a_iload_n C dX12_forceOf_3 (i := 2) rfl rfl ?_
  refine p_callVv C (As := [.int x1, .int 0, .int x2]) (i := 236) kd_236 (hid 236 (by decide)) ⟨_, _, rfl⟩ (by decide) h (fun _ e => Z_X12_looksAt hid e) mi_X12_looksAt ml_RX12_331 rfl rfl (Nat.le_of_ble_eq_true rfl) (Nat.le_of_ble_eq_true rfl) (Nat.le_of_ble_eq_true rfl) dX12_forceOf_4 (fun σ1 h => ?_)
  refine a_aload_n C dX12_forceOf_7 (i := 0) rfl rfl ?_
  refine a_iconst C dX12_forceOf_8 (v := 2) rfl ?_
  refine a_aload_n C dX12_forceOf_9 (i := 0) rfl rfl ?_
  refine a_get C fl_RX12_101 (i := 236) kd_236 (hid 236 (by decide)) (v := .ref (ad 264)) rfl dX12_forceOf_10 ?_
  refine a_iconst C dX12_forceOf_13 (v := 1) rfl ?_
  refine p_ialdc C (i := 264) 1 (show rowOK 264 from ⟨kd_264, by decide⟩) hid (by decide) (by rw [al_264]; decide) dX12_forceOf_14 ?_
  refine p_callVi C (As := [.int 2, .int (σ1.1 264 1)]) (i := 236) kd_236 (hid 236 (by decide)) ⟨_, _, rfl⟩ (by decide) h (fun _ _ e => Z_X12_lawTells hid e) mi_X12_lawTells ml_RX12_335 rfl rfl (Nat.le_of_ble_eq_true rfl) (Nat.le_of_ble_eq_true rfl) (Nat.le_of_ble_eq_true rfl) dX12_forceOf_15 (fun r4 σ3 h => ?_)
  refine a_bipush C dX12_forceOf_18 (v := (-99)) rfl ?_
  refine a_bipush C dX12_forceOf_20 (v := 99) rfl ?_
  refine p_callSi C (As := [.int r4, .int (-99), .int 99]) h (fun _ _ e => Z_X12_held hid e) ms_X12_held ml_RX12_338 rfl rfl (Nat.le_of_ble_eq_true rfl) (Nat.le_of_ble_eq_true rfl) (Nat.le_of_ble_eq_true rfl) dX12_forceOf_22 (fun r6 σ5 h => ?_)
  exact a_iret Rt dX12_forceOf_25 rfl (ret_eq (h.trans (congrArg some hR.symm)))
set_option maxHeartbeats 4000000 in
set_option maxRecDepth 100000 in
theorem Z_X12_paysOf {l : Launch} {D : va_G} {ids : List Nat} {ad : Nat → Nat} {ca : Nat → ClassId} {σ : HS} {x1 : Int32} {x2 : Int32} {r0 : Int32} {s0 : HS} (hid : ∀ i, i < 277 → i ∈ ids) (h : f_X12_paysOf x1 x2 σ = some (r0, s0)) : Ki l D ids ad ca yX12_paysOf cX12_paysOf 3 .int 2 53 [.ref (ad 236), .int x1, .int x2] σ (fun r σ1 => r = r0 ∧ σ1 = s0) := by
  obtain ⟨R, hR⟩ : ∃ R, (r0, s0) = R := ⟨_, rfl⟩
  replace h := h.trans (congrArg some hR)
  refine Ki.of (by decide) (Nat.le_of_ble_eq_true rfl) 0 (fun Γ C Rt => ?_)
  show AW ids ad ca Γ 0 [some (.ref (ad 236)), some (.int x1), some (.int x2)] [] σ
  unfold f_X12_paysOf at h
  refine a_aload_n C dX12_paysOf_0 (i := 0) rfl rfl ?_
  refine a_iload_n C dX12_paysOf_1 (i := 1) rfl rfl ?_
  refine a_iconst C dX12_paysOf_2 (v := 0) rfl ?_
  refine a_iload_n C dX12_paysOf_3 (i := 2) rfl rfl ?_
  refine p_callVv C (As := [.int x1, .int 0, .int x2]) (i := 236) kd_236 (hid 236 (by decide)) ⟨_, _, rfl⟩ (by decide) h (fun _ e => Z_X12_looksAt hid e) mi_X12_looksAt ml_RX12_331 rfl rfl (Nat.le_of_ble_eq_true rfl) (Nat.le_of_ble_eq_true rfl) (Nat.le_of_ble_eq_true rfl) dX12_paysOf_4 (fun σ1 h => ?_)
  refine a_aload_n C dX12_paysOf_7 (i := 0) rfl rfl ?_
  refine a_iconst C dX12_paysOf_8 (v := 3) rfl ?_
  refine a_iconst C dX12_paysOf_9 (v := 0) rfl ?_
  refine p_callVi C (As := [.int 3, .int 0]) (i := 236) kd_236 (hid 236 (by decide)) ⟨_, _, rfl⟩ (by decide) h (fun _ _ e => Z_X12_lawTells hid e) mi_X12_lawTells ml_RX12_335 rfl rfl (Nat.le_of_ble_eq_true rfl) (Nat.le_of_ble_eq_true rfl) (Nat.le_of_ble_eq_true rfl) dX12_paysOf_10 (fun r4 σ3 h => ?_)
  refine a_iconst C dX12_paysOf_13 (v := 0) rfl ?_
  refine a_bipush C dX12_paysOf_14 (v := 99) rfl ?_
  refine p_callSi C (As := [.int r4, .int 0, .int 99]) h (fun _ _ e => Z_X12_held hid e) ms_X12_held ml_RX12_338 rfl rfl (Nat.le_of_ble_eq_true rfl) (Nat.le_of_ble_eq_true rfl) (Nat.le_of_ble_eq_true rfl) dX12_paysOf_16 (fun r6 σ5 h => ?_)
  exact a_iret Rt dX12_paysOf_19 rfl (ret_eq (h.trans (congrArg some hR.symm)))
set_option maxHeartbeats 4000000 in
set_option maxRecDepth 100000 in
theorem Z_X12_dropsOthers {l : Launch} {D : va_G} {ids : List Nat} {ad : Nat → Nat} {ca : Nat → ClassId} {σ : HS} {s0 : HS} (hid : ∀ i, i < 277 → i ∈ ids) (h : f_X12_dropsOthers σ = some s0) : Kv l D ids ad ca yX12_dropsOthers cX12_dropsOthers 2 1 22 [.ref (ad 236)] σ (fun σ1 => σ1 = s0) := by
  obtain ⟨R, hR⟩ : ∃ R, s0 = R := ⟨_, rfl⟩
  replace h := h.trans (congrArg some hR)
  refine Kv.of (by decide) (Nat.le_of_ble_eq_true rfl) 1 (fun Γ C Rt => ?_)
  show AW ids ad ca Γ 0 [some (.ref (ad 236)), none] [] σ
  unfold f_X12_dropsOthers at h
  have j58 : ∀ (k2 : Int32 → HS → Option (HS)) (hk2 : ∀ (y1 : Int32) (σ : HS), k2 y1 σ = some R → AW ids ad ca Γ 2 [some (.ref (ad 236)), some (.int y1)] [] σ) (y1 : Int32) (σ : HS), f_X12_dropsOthers_58 k2 y1 σ = some R → AW ids ad ca Γ 58 [some (.ref (ad 236)), some (.int y1)] [] σ := by
    intro k2 hk2 y1 σ h
    unfold f_X12_dropsOthers_58 at h
    refine p_iinc C (y := (y1 + 1)) (fun z1 => [some (.ref (ad 236)), some (.int z1)]) dX12_dropsOthers_58 rfl rfl (by decide) rfl (fun _ => rfl) h (fun z1 h => ?_)
    refine a_goto C dX12_dropsOthers_61 (tgt := 2) rfl ?_
    exact hk2 _ _ h
  have j2 : ∀ (n : Nat) (y1 : Int32) (σ : HS), f_X12_dropsOthers_2 n y1 σ = some R → AW ids ad ca Γ 2 [some (.ref (ad 236)), some (.int y1)] [] σ := by
    intro n
    induction n with
    | zero => intro y1 σ h; exact nn h
    | succ n ih =>
      intro y1 σ h
      have h : b_X12_dropsOthers_2 (f_X12_dropsOthers_2 n) y1 σ = some R := h
      unfold b_X12_dropsOthers_2 at h
      refine a_iload_n C dX12_dropsOthers_2 (i := 1) rfl rfl ?_
      refine a_aload_n C dX12_dropsOthers_3 (i := 0) rfl rfl ?_
      refine a_get C fl_RX12_43 (i := 236) kd_236 (hid 236 (by decide)) (v := .ref (ad 245)) rfl dX12_dropsOthers_4 ?_
      refine a_aload_n C dX12_dropsOthers_7 (i := 0) rfl rfl ?_
      refine a_get C fl_RX12_221 (i := 236) kd_236 (hid 236 (by decide)) (v := .int (σ.1 236 18)) rfl dX12_dropsOthers_8 ?_
      refine p_iald C (i := 245) (show rowOK 245 from ⟨kd_245, by decide⟩) hid (by rw [al_245]; rfl) dX12_dropsOthers_11 h (fun h => ?_)
      refine p_ic_ge C (X := y1.toInt) (Y := (σ.1 245 (σ.1 236 18).toInt.toNat).toInt) rfl rfl dX12_dropsOthers_12 (tgt := 64) rfl h (fun h => ?_) (fun h => ?_)
      ·
        exact a_vret Rt dX12_dropsOthers_64 (retv_eq (h.trans (congrArg some hR.symm)))
      ·
        refine a_iload_n C dX12_dropsOthers_15 (i := 1) rfl rfl ?_
        refine a_aload_n C dX12_dropsOthers_16 (i := 0) rfl rfl ?_
        refine a_get C fl_RX12_341 (i := 236) kd_236 (hid 236 (by decide)) (v := .int (σ.1 236 51)) rfl dX12_dropsOthers_17 ?_
        refine p_ic_eq C (X := y1.toInt) (Y := (σ.1 236 51).toInt) rfl rfl dX12_dropsOthers_20 (tgt := 58) rfl h (fun h => ?_) (fun h => ?_)
        ·
          exact j58 (f_X12_dropsOthers_2 n) (fun y1 σ h => ih y1 σ h) _ _ h
        ·
          refine a_aload_n C dX12_dropsOthers_23 (i := 0) rfl rfl ?_
          refine a_iload_n C dX12_dropsOthers_24 (i := 1) rfl rfl ?_
          refine a_iconst C dX12_dropsOthers_25 (v := 0) rfl ?_
          refine p_callVi C (As := [.int y1, .int 0]) (i := 236) kd_236 (hid 236 (by decide)) ⟨_, _, rfl⟩ (by decide) h (fun _ _ e => Z_X12_doesLand hid e) mi_X12_doesLand ml_RX12_324 rfl rfl (Nat.le_of_ble_eq_true rfl) (Nat.le_of_ble_eq_true rfl) (Nat.le_of_ble_eq_true rfl) dX12_dropsOthers_26 (fun r2 σ1 h => ?_)
          refine p_if_ne C (X := r2.toInt) rfl dX12_dropsOthers_29 (tgt := 35) rfl h (fun h => ?_) (fun h => ?_)
          ·
            refine a_aload_n C dX12_dropsOthers_35 (i := 0) rfl rfl ?_
            refine a_get C fl_RX12_110 (i := 236) kd_236 (hid 236 (by decide)) (v := .ref (ad 267)) rfl dX12_dropsOthers_36 ?_
            refine a_iload_n C dX12_dropsOthers_39 (i := 1) rfl rfl ?_
            refine a_iconst C dX12_dropsOthers_40 (v := 2) rfl ?_
            refine p_iast C (i := 267) (show rowOK 267 from ⟨kd_267, by decide⟩) hid (by rw [al_267]; rfl) dX12_dropsOthers_41 h (fun σ3 h => ?_)
            refine a_aload_n C dX12_dropsOthers_42 (i := 0) rfl rfl ?_
            refine a_get C fl_RX12_110 (i := 236) kd_236 (hid 236 (by decide)) (v := .ref (ad 267)) rfl dX12_dropsOthers_43 ?_
            refine a_bipush C dX12_dropsOthers_46 (v := 23) rfl ?_
            refine a_dup2 C dX12_dropsOthers_48 rfl rfl ?_
            refine p_ialdc C (i := 267) 23 (show rowOK 267 from ⟨kd_267, by decide⟩) hid (by decide) (by rw [al_267]; decide) dX12_dropsOthers_49 ?_
            refine a_iconst C dX12_dropsOthers_50 (v := 1) rfl ?_
            refine a_iadd C dX12_dropsOthers_51 ?_
            refine p_iastc C (i := 267) 23 (show rowOK 267 from ⟨kd_267, by decide⟩) hid (by decide) (by rw [al_267]; decide) dX12_dropsOthers_52 h (fun σ4 h => ?_)
            refine a_aload_n C dX12_dropsOthers_53 (i := 0) rfl rfl ?_
            refine a_iconst C dX12_dropsOthers_54 (v := 1) rfl ?_
            refine p_put C fp_RX12_344 (i := 236) kd_236 (hid 236 (by decide)) (nar_z (by decide)).1 (nar_z (by decide)).2 dX12_dropsOthers_55 h (fun σ5 h => ?_)
            exact j58 (f_X12_dropsOthers_2 n) (fun y1 σ h => ih y1 σ h) _ _ h
          ·
            refine a_goto C dX12_dropsOthers_32 (tgt := 58) rfl ?_
            exact j58 (f_X12_dropsOthers_2 n) (fun y1 σ h => ih y1 σ h) _ _ h
  refine a_iconst C dX12_dropsOthers_0 (v := 0) rfl ?_
  refine a_istore_n C dX12_dropsOthers_1 (i := 1) rfl (by decide) rfl (vs1 := [some (.ref (ad 236)), some (.int 0)]) rfl ?_
  exact j2 _ _ _ h
set_option maxHeartbeats 4000000 in
set_option maxRecDepth 100000 in
theorem Z_X12_isThrown {l : Launch} {D : va_G} {ids : List Nat} {ad : Nat → Nat} {ca : Nat → ClassId} {σ : HS} {x1 : Int32} {x2 : Int32} {x3 : Int32} {x4 : Int32} {s0 : HS} (hid : ∀ i, i < 277 → i ∈ ids) (h : f_X12_isThrown x1 x2 x3 x4 σ = some s0) : Kv l D ids ad ca yX12_isThrown cX12_isThrown 5 1 22 [.ref (ad 236), .int x1, .int x2, .int x3, .int x4] σ (fun σ1 => σ1 = s0) := by
  obtain ⟨R, hR⟩ : ∃ R, s0 = R := ⟨_, rfl⟩
  replace h := h.trans (congrArg some hR)
  refine Kv.of (by decide) (Nat.le_of_ble_eq_true rfl) 0 (fun Γ C Rt => ?_)
  show AW ids ad ca Γ 0 [some (.ref (ad 236)), some (.int x1), some (.int x2), some (.int x3), some (.int x4)] [] σ
  unfold f_X12_isThrown at h
  have j70 : ∀ (y1 : Int32) (y2 : Int32) (σ : HS), f_X12_isThrown_70 y1 y2 σ = some R → AW ids ad ca Γ 70 [some (.ref (ad 236)), some (.int y1), some (.int y2), none, none] [] σ := by
    intro y1 y2 σ h
    unfold f_X12_isThrown_70 at h
    refine a_aload_n C dX12_isThrown_70 (i := 0) rfl rfl ?_
    refine a_get C fl_RX12_110 (i := 236) kd_236 (hid 236 (by decide)) (v := .ref (ad 267)) rfl dX12_isThrown_71 ?_
    refine a_bipush C dX12_isThrown_74 (v := 7) rfl ?_
    refine a_iload_n C dX12_isThrown_76 (i := 1) rfl rfl ?_
    refine a_iadd C dX12_isThrown_77 ?_
    refine a_iload_n C dX12_isThrown_78 (i := 2) rfl rfl ?_
    refine p_iast C (i := 267) (show rowOK 267 from ⟨kd_267, by decide⟩) hid (by rw [al_267]; rfl) dX12_isThrown_79 h (fun σ1 h => ?_)
    exact a_vret Rt dX12_isThrown_80 (retv_eq (h.trans (congrArg some hR.symm)))
  refine a_aload_n C dX12_isThrown_0 (i := 0) rfl rfl ?_
  refine a_get C fl_RX12_110 (i := 236) kd_236 (hid 236 (by decide)) (v := .ref (ad 267)) rfl dX12_isThrown_1 ?_
  refine a_bipush C dX12_isThrown_4 (v := 25) rfl ?_
  refine a_dup2 C dX12_isThrown_6 rfl rfl ?_
  refine p_ialdc C (i := 267) 25 (show rowOK 267 from ⟨kd_267, by decide⟩) hid (by decide) (by rw [al_267]; decide) dX12_isThrown_7 ?_
  refine a_iload C dX12_isThrown_8 rfl ?_
  refine a_iadd C dX12_isThrown_10 ?_
  refine p_iastc C (i := 267) 25 (show rowOK 267 from ⟨kd_267, by decide⟩) hid (by decide) (by rw [al_267]; decide) dX12_isThrown_11 h (fun σ1 h => ?_)
  refine a_aload_n C dX12_isThrown_12 (i := 0) rfl rfl ?_
  refine a_get C fl_RX12_110 (i := 236) kd_236 (hid 236 (by decide)) (v := .ref (ad 267)) rfl dX12_isThrown_13 ?_
  refine a_bipush C dX12_isThrown_16 (v := 24) rfl ?_
  refine a_dup2 C dX12_isThrown_18 rfl rfl ?_
  refine p_ialdc C (i := 267) 24 (show rowOK 267 from ⟨kd_267, by decide⟩) hid (by decide) (by rw [al_267]; decide) dX12_isThrown_19 ?_
  refine a_iconst C dX12_isThrown_20 (v := 1) rfl ?_
  refine a_iadd C dX12_isThrown_21 ?_
  refine p_iastc C (i := 267) 24 (show rowOK 267 from ⟨kd_267, by decide⟩) hid (by decide) (by rw [al_267]; decide) dX12_isThrown_22 h (fun σ2 h => ?_)
  refine a_aload_n C dX12_isThrown_23 (i := 0) rfl rfl ?_
  refine a_get C fl_RX12_110 (i := 236) kd_236 (hid 236 (by decide)) (v := .ref (ad 267)) rfl dX12_isThrown_24 ?_
  refine a_bipush C dX12_isThrown_27 (v := 14) rfl ?_
  refine a_iload_n C dX12_isThrown_29 (i := 1) rfl rfl ?_
  refine a_iadd C dX12_isThrown_30 ?_
  refine a_dup2 C dX12_isThrown_31 rfl rfl ?_
  refine p_iald C (i := 267) (show rowOK 267 from ⟨kd_267, by decide⟩) hid (by rw [al_267]; rfl) dX12_isThrown_32 h (fun h => ?_)
  refine a_iconst C dX12_isThrown_33 (v := 1) rfl ?_
  refine a_iadd C dX12_isThrown_34 ?_
  refine p_iast C (i := 267) (show rowOK 267 from ⟨kd_267, by decide⟩) hid (by rw [al_267]; rfl) dX12_isThrown_35 h (fun σ3 h => ?_)
  refine a_aload_n C dX12_isThrown_36 (i := 0) rfl rfl ?_
  refine a_get C fl_RX12_110 (i := 236) kd_236 (hid 236 (by decide)) (v := .ref (ad 267)) rfl dX12_isThrown_37 ?_
  refine a_bipush C dX12_isThrown_40 (v := 22) rfl ?_
  refine a_aload_n C dX12_isThrown_42 (i := 0) rfl rfl ?_
  refine a_get C fl_RX12_110 (i := 236) kd_236 (hid 236 (by decide)) (v := .ref (ad 267)) rfl dX12_isThrown_43 ?_
  refine a_bipush C dX12_isThrown_46 (v := 22) rfl ?_
  refine p_ialdc C (i := 267) 22 (show rowOK 267 from ⟨kd_267, by decide⟩) hid (by decide) (by rw [al_267]; decide) dX12_isThrown_48 ?_
  refine a_iload_n C dX12_isThrown_49 (i := 3) rfl rfl ?_
  refine a_iadd C dX12_isThrown_50 ?_
  refine a_iconst C dX12_isThrown_51 (v := 0) rfl ?_
  refine a_sipush C dX12_isThrown_52 (v := 999) rfl ?_
  refine p_callSi C (As := [.int ((σ3.1 267 22) + x3), .int 0, .int 999]) h (fun _ _ e => Z_X12_held hid e) ms_X12_held ml_RX12_338 rfl rfl (Nat.le_of_ble_eq_true rfl) (Nat.le_of_ble_eq_true rfl) (Nat.le_of_ble_eq_true rfl) dX12_isThrown_55 (fun r5 σ4 h => ?_)
  refine p_iastc C (i := 267) 22 (show rowOK 267 from ⟨kd_267, by decide⟩) hid (by decide) (by rw [al_267]; decide) dX12_isThrown_58 h (fun σ6 h => ?_)
  refine a_iload_n C dX12_isThrown_59 (i := 2) rfl rfl ?_
  refine p_if_ne C (X := x2.toInt) rfl dX12_isThrown_60 (tgt := 70) rfl h (fun h => ?_) (fun h => ?_)
  ·
    refine AW.sub (vs' := [some (.ref (ad 236)), some (.int x1), some (.int x2), none, none]) (lsub_of (by simp [lsubB])) ?_
    exact j70 _ _ _ h
  ·
    refine a_aload_n C dX12_isThrown_63 (i := 0) rfl rfl ?_
    refine a_get C fl_RX12_110 (i := 236) kd_236 (hid 236 (by decide)) (v := .ref (ad 267)) rfl dX12_isThrown_64 ?_
    refine a_iload_n C dX12_isThrown_67 (i := 1) rfl rfl ?_
    refine a_iconst C dX12_isThrown_68 (v := 1) rfl ?_
    refine p_iast C (i := 267) (show rowOK 267 from ⟨kd_267, by decide⟩) hid (by rw [al_267]; rfl) dX12_isThrown_69 h (fun σ7 h => ?_)
    refine AW.sub (vs' := [some (.ref (ad 236)), some (.int x1), some (.int x2), none, none]) (lsub_of (by simp [lsubB])) ?_
    exact j70 _ _ _ h
set_option maxHeartbeats 4000000 in
set_option maxRecDepth 100000 in
theorem Z_X12_catches {l : Launch} {D : va_G} {ids : List Nat} {ad : Nat → Nat} {ca : Nat → ClassId} {σ : HS} {x1 : Int32} {s0 : HS} (hid : ∀ i, i < 277 → i ∈ ids) (h : f_X12_catches x1 σ = some s0) : Kv l D ids ad ca yX12_catches cX12_catches 6 3 76 [.ref (ad 236), .int x1] σ (fun σ1 => σ1 = s0) := by
  obtain ⟨R, hR⟩ : ∃ R, s0 = R := ⟨_, rfl⟩
  replace h := h.trans (congrArg some hR)
  refine Kv.of (by decide) (Nat.le_of_ble_eq_true rfl) 4 (fun Γ C Rt => ?_)
  show AW ids ad ca Γ 0 [some (.ref (ad 236)), some (.int x1), none, none, none, none] [] σ
  unfold f_X12_catches at h
  have j81 : ∀ (y1 : Int32) (y2 : Int32) (y4 : Int32) (y5 : Int32) (σ : HS), f_X12_catches_81 y1 y2 y4 y5 σ = some R → AW ids ad ca Γ 81 [some (.ref (ad 236)), some (.int y1), some (.int y2), none, some (.int y4), some (.int y5)] [] σ := by
    intro y1 y2 y4 y5 σ h
    unfold f_X12_catches_81 at h
    refine a_aload_n C dX12_catches_81 (i := 0) rfl rfl ?_
    refine a_iload_n C dX12_catches_82 (i := 1) rfl rfl ?_
    refine a_iload_n C dX12_catches_83 (i := 2) rfl rfl ?_
    refine a_iload C dX12_catches_84 rfl ?_
    refine a_iload C dX12_catches_86 rfl ?_
    refine p_callVv C (As := [.int y1, .int y2, .int y4, .int y5]) (i := 236) kd_236 (hid 236 (by decide)) ⟨_, _, rfl⟩ (by decide) h (fun _ e => Z_X12_isThrown hid e) mi_X12_isThrown ml_RX12_374 rfl rfl (Nat.le_of_ble_eq_true rfl) (Nat.le_of_ble_eq_true rfl) (Nat.le_of_ble_eq_true rfl) dX12_catches_88 (fun σ1 h => ?_)
    exact a_vret Rt dX12_catches_91 (retv_eq (h.trans (congrArg some hR.symm)))
  refine a_aload_n C dX12_catches_0 (i := 0) rfl rfl ?_
  refine p_callVi C (As := []) (i := 236) kd_236 (hid 236 (by decide)) ⟨_, _, rfl⟩ (by decide) h (fun _ _ e => Z_X12_heightNow hid e) mi_X12_heightNow ml_RX12_347 rfl rfl (Nat.le_of_ble_eq_true rfl) (Nat.le_of_ble_eq_true rfl) (Nat.le_of_ble_eq_true rfl) dX12_catches_1 (fun r2 σ1 h => ?_)
  refine a_istore_n C dX12_catches_4 (i := 2) rfl (by decide) rfl (vs1 := [some (.ref (ad 236)), some (.int x1), some (.int r2), none, none, none]) rfl ?_
  refine a_aload_n C dX12_catches_5 (i := 0) rfl rfl ?_
  refine a_iconst C dX12_catches_6 (v := 0) rfl ?_
  refine p_callVi C (As := [.int 0]) (i := 236) kd_236 (hid 236 (by decide)) ⟨_, _, rfl⟩ (by decide) h (fun _ _ e => Z_X12_thingsSo hid e) mi_X12_thingsSo ml_RX12_350 rfl rfl (Nat.le_of_ble_eq_true rfl) (Nat.le_of_ble_eq_true rfl) (Nat.le_of_ble_eq_true rfl) dX12_catches_7 (fun r4 σ3 h => ?_)
  refine p_callSi C (As := [.int r4]) h (fun _ _ e => Z_X12_bits hid e) ms_X12_bits ml_RX12_353 rfl rfl (Nat.le_of_ble_eq_true rfl) (Nat.le_of_ble_eq_true rfl) (Nat.le_of_ble_eq_true rfl) dX12_catches_10 (fun r6 σ5 h => ?_)
  refine a_istore_n C dX12_catches_13 (i := 3) rfl (by decide) rfl (vs1 := [some (.ref (ad 236)), some (.int x1), some (.int r2), some (.int r6), none, none]) rfl ?_
  refine a_aload_n C dX12_catches_14 (i := 0) rfl rfl ?_
  refine a_iload_n C dX12_catches_15 (i := 1) rfl rfl ?_
  refine a_iload_n C dX12_catches_16 (i := 2) rfl rfl ?_
  refine a_iload_n C dX12_catches_17 (i := 3) rfl rfl ?_
  refine p_callVi C (As := [.int x1, .int r2, .int r6]) (i := 236) kd_236 (hid 236 (by decide)) ⟨_, _, rfl⟩ (by decide) h (fun _ _ e => Z_X12_tiresBy hid e) mi_X12_tiresBy ml_RX12_356 rfl rfl (Nat.le_of_ble_eq_true rfl) (Nat.le_of_ble_eq_true rfl) (Nat.le_of_ble_eq_true rfl) dX12_catches_18 (fun r8 σ7 h => ?_)
  refine a_istore C dX12_catches_21 (by decide) rfl (vs1 := [some (.ref (ad 236)), some (.int x1), some (.int r2), some (.int r6), some (.int r8), none]) rfl ?_
  refine a_aload_n C dX12_catches_23 (i := 0) rfl rfl ?_
  refine a_iload_n C dX12_catches_24 (i := 1) rfl rfl ?_
  refine a_iload_n C dX12_catches_25 (i := 3) rfl rfl ?_
  refine p_callVi C (As := [.int x1, .int r6]) (i := 236) kd_236 (hid 236 (by decide)) ⟨_, _, rfl⟩ (by decide) h (fun _ _ e => Z_X12_paysOf hid e) mi_X12_paysOf ml_RX12_359 rfl rfl (Nat.le_of_ble_eq_true rfl) (Nat.le_of_ble_eq_true rfl) (Nat.le_of_ble_eq_true rfl) dX12_catches_26 (fun r10 σ9 h => ?_)
  refine a_istore C dX12_catches_29 (by decide) rfl (vs1 := [some (.ref (ad 236)), some (.int x1), some (.int r2), some (.int r6), some (.int r8), some (.int r10)]) rfl ?_
  refine a_aload_n C dX12_catches_31 (i := 0) rfl rfl ?_
  refine a_aload_n C dX12_catches_32 (i := 0) rfl rfl ?_
  refine a_iload_n C dX12_catches_33 (i := 1) rfl rfl ?_
  refine a_iload_n C dX12_catches_34 (i := 3) rfl rfl ?_
  refine p_callVi C (As := [.int x1, .int r6]) (i := 236) kd_236 (hid 236 (by decide)) ⟨_, _, rfl⟩ (by decide) h (fun _ _ e => Z_X12_forceOf hid e) mi_X12_forceOf ml_RX12_362 rfl rfl (Nat.le_of_ble_eq_true rfl) (Nat.le_of_ble_eq_true rfl) (Nat.le_of_ble_eq_true rfl) dX12_catches_35 (fun r12 σ11 h => ?_)
  refine p_put C fp_RX12_365 (i := 236) kd_236 (hid 236 (by decide)) rfl rfl dX12_catches_38 h (fun σ13 h => ?_)
  refine a_aload_n C dX12_catches_41 (i := 0) rfl rfl ?_
  refine a_get C fl_RX12_308 (i := 236) kd_236 (hid 236 (by decide)) (v := .int (σ13.1 236 50)) rfl dX12_catches_42 ?_
  refine p_if_ne C (X := (σ13.1 236 50).toInt) rfl dX12_catches_45 (tgt := 81) rfl h (fun h => ?_) (fun h => ?_)
  ·
    refine AW.sub (vs' := [some (.ref (ad 236)), some (.int x1), some (.int r2), none, some (.int r8), some (.int r10)]) (lsub_of (by simp [lsubB])) ?_
    exact j81 _ _ _ _ _ h
  ·
    refine a_aload_n C dX12_catches_48 (i := 0) rfl rfl ?_
    refine p_callVi C (As := []) (i := 236) kd_236 (hid 236 (by decide)) ⟨_, _, rfl⟩ (by decide) h (fun _ _ e => Z_X12_lotNow hid e) mi_X12_lotNow ml_RX12_368 rfl rfl (Nat.le_of_ble_eq_true rfl) (Nat.le_of_ble_eq_true rfl) (Nat.le_of_ble_eq_true rfl) dX12_catches_49 (fun r15 σ14 h => ?_)
    refine a_aload_n C dX12_catches_52 (i := 0) rfl rfl ?_
    refine a_iload_n C dX12_catches_53 (i := 1) rfl rfl ?_
    refine a_iload_n C dX12_catches_54 (i := 2) rfl rfl ?_
    refine a_iload_n C dX12_catches_55 (i := 3) rfl rfl ?_
    refine p_callVi C (As := [.int x1, .int r2, .int r6]) (i := 236) kd_236 (hid 236 (by decide)) ⟨_, _, rfl⟩ (by decide) h (fun _ _ e => Z_X12_dropsBy hid e) mi_X12_dropsBy ml_RX12_371 rfl rfl (Nat.le_of_ble_eq_true rfl) (Nat.le_of_ble_eq_true rfl) (Nat.le_of_ble_eq_true rfl) dX12_catches_56 (fun r17 σ16 h => ?_)
    refine p_ic_ge C (X := r15.toInt) (Y := r17.toInt) rfl rfl dX12_catches_59 (tgt := 81) rfl h (fun h => ?_) (fun h => ?_)
    ·
      refine AW.sub (vs' := [some (.ref (ad 236)), some (.int x1), some (.int r2), none, some (.int r8), some (.int r10)]) (lsub_of (by simp [lsubB])) ?_
      exact j81 _ _ _ _ _ h
    ·
      refine a_aload_n C dX12_catches_62 (i := 0) rfl rfl ?_
      refine a_get C fl_RX12_110 (i := 236) kd_236 (hid 236 (by decide)) (v := .ref (ad 267)) rfl dX12_catches_63 ?_
      refine a_iload_n C dX12_catches_66 (i := 1) rfl rfl ?_
      refine a_iconst C dX12_catches_67 (v := 2) rfl ?_
      refine p_iast C (i := 267) (show rowOK 267 from ⟨kd_267, by decide⟩) hid (by rw [al_267]; rfl) dX12_catches_68 h (fun σ18 h => ?_)
      refine a_aload_n C dX12_catches_69 (i := 0) rfl rfl ?_
      refine a_get C fl_RX12_110 (i := 236) kd_236 (hid 236 (by decide)) (v := .ref (ad 267)) rfl dX12_catches_70 ?_
      refine a_bipush C dX12_catches_73 (v := 23) rfl ?_
      refine a_dup2 C dX12_catches_75 rfl rfl ?_
      refine p_ialdc C (i := 267) 23 (show rowOK 267 from ⟨kd_267, by decide⟩) hid (by decide) (by rw [al_267]; decide) dX12_catches_76 ?_
      refine a_iconst C dX12_catches_77 (v := 1) rfl ?_
      refine a_iadd C dX12_catches_78 ?_
      refine p_iastc C (i := 267) 23 (show rowOK 267 from ⟨kd_267, by decide⟩) hid (by decide) (by rw [al_267]; decide) dX12_catches_79 h (fun σ19 h => ?_)
      exact a_vret Rt dX12_catches_80 (retv_eq (h.trans (congrArg some hR.symm)))
set_option maxHeartbeats 4000000 in
set_option maxRecDepth 100000 in
theorem Z_X12_beatGoes {l : Launch} {D : va_G} {ids : List Nat} {ad : Nat → Nat} {ca : Nat → ClassId} {σ : HS} {s0 : HS} (hid : ∀ i, i < 277 → i ∈ ids) (h : f_X12_beatGoes σ = some s0) : Kv l D ids ad ca yX12_beatGoes cX12_beatGoes 2 4 101 [.ref (ad 236)] σ (fun σ1 => σ1 = s0) := by
  obtain ⟨R, hR⟩ : ∃ R, s0 = R := ⟨_, rfl⟩
  replace h := h.trans (congrArg some hR)
  refine Kv.of (by decide) (Nat.le_of_ble_eq_true rfl) 1 (fun Γ C Rt => ?_)
  show AW ids ad ca Γ 0 [some (.ref (ad 236)), none] [] σ
  unfold f_X12_beatGoes at h
  have j108 : ∀ (k73 : Int32 → HS → Option (HS)) (hk73 : ∀ (y1 : Int32) (σ : HS), k73 y1 σ = some R → AW ids ad ca Γ 73 [some (.ref (ad 236)), some (.int y1)] [] σ) (y1 : Int32) (σ : HS), f_X12_beatGoes_108 k73 y1 σ = some R → AW ids ad ca Γ 108 [some (.ref (ad 236)), some (.int y1)] [] σ := by
    intro k73 hk73 y1 σ h
    unfold f_X12_beatGoes_108 at h
    refine p_iinc C (y := (y1 + 1)) (fun z1 => [some (.ref (ad 236)), some (.int z1)]) dX12_beatGoes_108 rfl rfl (by decide) rfl (fun _ => rfl) h (fun z1 h => ?_)
    refine a_goto C dX12_beatGoes_111 (tgt := 73) rfl ?_
    exact hk73 _ _ h
  have j73 : ∀ (n : Nat) (y1 : Int32) (σ : HS), f_X12_beatGoes_73 n y1 σ = some R → AW ids ad ca Γ 73 [some (.ref (ad 236)), some (.int y1)] [] σ := by
    intro n
    induction n with
    | zero => intro y1 σ h; exact nn h
    | succ n ih =>
      intro y1 σ h
      have h : b_X12_beatGoes_73 (f_X12_beatGoes_73 n) y1 σ = some R := h
      unfold b_X12_beatGoes_73 at h
      refine a_iload_n C dX12_beatGoes_73 (i := 1) rfl rfl ?_
      refine a_aload_n C dX12_beatGoes_74 (i := 0) rfl rfl ?_
      refine a_get C fl_RX12_43 (i := 236) kd_236 (hid 236 (by decide)) (v := .ref (ad 245)) rfl dX12_beatGoes_75 ?_
      refine a_aload_n C dX12_beatGoes_78 (i := 0) rfl rfl ?_
      refine a_get C fl_RX12_221 (i := 236) kd_236 (hid 236 (by decide)) (v := .int (σ.1 236 18)) rfl dX12_beatGoes_79 ?_
      refine p_iald C (i := 245) (show rowOK 245 from ⟨kd_245, by decide⟩) hid (by rw [al_245]; rfl) dX12_beatGoes_82 h (fun h => ?_)
      refine p_ic_ge C (X := y1.toInt) (Y := (σ.1 245 (σ.1 236 18).toInt.toNat).toInt) rfl rfl dX12_beatGoes_83 (tgt := 114) rfl h (fun h => ?_) (fun h => ?_)
      ·
        refine a_aload_n C dX12_beatGoes_114 (i := 0) rfl rfl ?_
        refine a_get C fl_RX12_110 (i := 236) kd_236 (hid 236 (by decide)) (v := .ref (ad 267)) rfl dX12_beatGoes_115 ?_
        refine a_bipush C dX12_beatGoes_118 (v := 21) rfl ?_
        refine a_dup2 C dX12_beatGoes_120 rfl rfl ?_
        refine p_ialdc C (i := 267) 21 (show rowOK 267 from ⟨kd_267, by decide⟩) hid (by decide) (by rw [al_267]; decide) dX12_beatGoes_121 ?_
        refine a_iconst C dX12_beatGoes_122 (v := 1) rfl ?_
        refine a_iadd C dX12_beatGoes_123 ?_
        refine p_iastc C (i := 267) 21 (show rowOK 267 from ⟨kd_267, by decide⟩) hid (by decide) (by rw [al_267]; decide) dX12_beatGoes_124 h (fun σ1 h => ?_)
        refine a_aload_n C dX12_beatGoes_125 (i := 0) rfl rfl ?_
        refine a_get C fl_RX12_110 (i := 236) kd_236 (hid 236 (by decide)) (v := .ref (ad 267)) rfl dX12_beatGoes_126 ?_
        refine a_bipush C dX12_beatGoes_129 (v := 28) rfl ?_
        refine a_iconst C dX12_beatGoes_131 (v := (-1)) rfl ?_
        refine p_iastc C (i := 267) 28 (show rowOK 267 from ⟨kd_267, by decide⟩) hid (by decide) (by rw [al_267]; decide) dX12_beatGoes_132 h (fun σ2 h => ?_)
        exact a_vret Rt dX12_beatGoes_133 (retv_eq (h.trans (congrArg some hR.symm)))
      ·
        refine a_aload_n C dX12_beatGoes_86 (i := 0) rfl rfl ?_
        refine a_get C fl_RX12_110 (i := 236) kd_236 (hid 236 (by decide)) (v := .ref (ad 267)) rfl dX12_beatGoes_87 ?_
        refine a_iload_n C dX12_beatGoes_90 (i := 1) rfl rfl ?_
        refine p_iald C (i := 267) (show rowOK 267 from ⟨kd_267, by decide⟩) hid (by rw [al_267]; rfl) dX12_beatGoes_91 h (fun h => ?_)
        refine p_if_ne C (X := (σ.1 267 y1.toInt.toNat).toInt) rfl dX12_beatGoes_92 (tgt := 108) rfl h (fun h => ?_) (fun h => ?_)
        ·
          exact j108 (f_X12_beatGoes_73 n) (fun y1 σ h => ih y1 σ h) _ _ h
        ·
          refine a_aload_n C dX12_beatGoes_95 (i := 0) rfl rfl ?_
          refine a_get C fl_RX12_110 (i := 236) kd_236 (hid 236 (by decide)) (v := .ref (ad 267)) rfl dX12_beatGoes_96 ?_
          refine a_bipush C dX12_beatGoes_99 (v := 7) rfl ?_
          refine a_iload_n C dX12_beatGoes_101 (i := 1) rfl rfl ?_
          refine a_iadd C dX12_beatGoes_102 ?_
          refine a_dup2 C dX12_beatGoes_103 rfl rfl ?_
          refine p_iald C (i := 267) (show rowOK 267 from ⟨kd_267, by decide⟩) hid (by rw [al_267]; rfl) dX12_beatGoes_104 h (fun h => ?_)
          refine a_iconst C dX12_beatGoes_105 (v := 1) rfl ?_
          refine a_isub C dX12_beatGoes_106 ?_
          refine p_iast C (i := 267) (show rowOK 267 from ⟨kd_267, by decide⟩) hid (by rw [al_267]; rfl) dX12_beatGoes_107 h (fun σ3 h => ?_)
          exact j108 (f_X12_beatGoes_73 n) (fun y1 σ h => ih y1 σ h) _ _ h
  have j71 : ∀ (σ : HS), f_X12_beatGoes_71 σ = some R → AW ids ad ca Γ 71 [some (.ref (ad 236)), none] [] σ := by
    intro σ h
    unfold f_X12_beatGoes_71 at h
    refine a_iconst C dX12_beatGoes_71 (v := 0) rfl ?_
    refine a_istore_n C dX12_beatGoes_72 (i := 1) rfl (by decide) rfl (vs1 := [some (.ref (ad 236)), some (.int 0)]) rfl ?_
    exact j73 _ _ _ h
  refine a_aload_n C dX12_beatGoes_0 (i := 0) rfl rfl ?_
  refine a_aload_n C dX12_beatGoes_1 (i := 0) rfl rfl ?_
  refine p_callVi C (As := []) (i := 236) kd_236 (hid 236 (by decide)) ⟨_, _, rfl⟩ (by decide) h (fun _ _ e => Z_X12_catchesNow hid e) mi_X12_catchesNow ml_RX12_378 rfl rfl (Nat.le_of_ble_eq_true rfl) (Nat.le_of_ble_eq_true rfl) (Nat.le_of_ble_eq_true rfl) dX12_beatGoes_2 (fun r2 σ1 h => ?_)
  refine p_put C fp_RX12_341 (i := 236) kd_236 (hid 236 (by decide)) rfl rfl dX12_beatGoes_5 h (fun σ3 h => ?_)
  refine a_aload_n C dX12_beatGoes_8 (i := 0) rfl rfl ?_
  refine a_iconst C dX12_beatGoes_9 (v := 0) rfl ?_
  refine p_put C fp_RX12_344 (i := 236) kd_236 (hid 236 (by decide)) (nar_z (by decide)).1 (nar_z (by decide)).2 dX12_beatGoes_10 h (fun σ4 h => ?_)
  refine a_aload_n C dX12_beatGoes_13 (i := 0) rfl rfl ?_
  refine a_iconst C dX12_beatGoes_14 (v := 0) rfl ?_
  refine p_put C fp_RX12_365 (i := 236) kd_236 (hid 236 (by decide)) rfl rfl dX12_beatGoes_15 h (fun σ5 h => ?_)
  refine a_aload_n C dX12_beatGoes_18 (i := 0) rfl rfl ?_
  refine a_get C fl_RX12_341 (i := 236) kd_236 (hid 236 (by decide)) (v := .int (σ5.1 236 51)) rfl dX12_beatGoes_19 ?_
  refine p_if_ge C (X := (σ5.1 236 51).toInt) rfl dX12_beatGoes_22 (tgt := 59) rfl h (fun h => ?_) (fun h => ?_)
  ·
    refine a_aload_n C dX12_beatGoes_59 (i := 0) rfl rfl ?_
    refine p_callVv C (As := []) (i := 236) kd_236 (hid 236 (by decide)) ⟨_, _, rfl⟩ (by decide) h (fun _ e => Z_X12_dropsOthers hid e) mi_X12_dropsOthers ml_RX12_381 rfl rfl (Nat.le_of_ble_eq_true rfl) (Nat.le_of_ble_eq_true rfl) (Nat.le_of_ble_eq_true rfl) dX12_beatGoes_60 (fun σ6 h => ?_)
    refine a_aload_n C dX12_beatGoes_63 (i := 0) rfl rfl ?_
    refine a_aload_n C dX12_beatGoes_64 (i := 0) rfl rfl ?_
    refine a_get C fl_RX12_341 (i := 236) kd_236 (hid 236 (by decide)) (v := .int (σ6.1 236 51)) rfl dX12_beatGoes_65 ?_
    refine p_callVv C (As := [.int (σ6.1 236 51)]) (i := 236) kd_236 (hid 236 (by decide)) ⟨_, _, rfl⟩ (by decide) h (fun _ e => Z_X12_catches hid e) mi_X12_catches ml_RX12_384 rfl rfl (Nat.le_of_ble_eq_true rfl) (Nat.le_of_ble_eq_true rfl) (Nat.le_of_ble_eq_true rfl) dX12_beatGoes_68 (fun σ8 h => ?_)
    exact j71 _ h
  ·
    refine a_aload_n C dX12_beatGoes_25 (i := 0) rfl rfl ?_
    refine a_get C fl_RX12_110 (i := 236) kd_236 (hid 236 (by decide)) (v := .ref (ad 267)) rfl dX12_beatGoes_26 ?_
    refine a_bipush C dX12_beatGoes_29 (v := 22) rfl ?_
    refine a_aload_n C dX12_beatGoes_31 (i := 0) rfl rfl ?_
    refine a_get C fl_RX12_110 (i := 236) kd_236 (hid 236 (by decide)) (v := .ref (ad 267)) rfl dX12_beatGoes_32 ?_
    refine a_bipush C dX12_beatGoes_35 (v := 22) rfl ?_
    refine p_ialdc C (i := 267) 22 (show rowOK 267 from ⟨kd_267, by decide⟩) hid (by decide) (by rw [al_267]; decide) dX12_beatGoes_37 ?_
    refine a_aload_n C dX12_beatGoes_38 (i := 0) rfl rfl ?_
    refine a_get C fl_RX12_64 (i := 236) kd_236 (hid 236 (by decide)) (v := .ref (ad 252)) rfl dX12_beatGoes_39 ?_
    refine a_aload_n C dX12_beatGoes_42 (i := 0) rfl rfl ?_
    refine a_get C fl_RX12_221 (i := 236) kd_236 (hid 236 (by decide)) (v := .int (σ5.1 236 18)) rfl dX12_beatGoes_43 ?_
    refine p_iald C (i := 252) (show rowOK 252 from ⟨kd_252, by decide⟩) hid (by rw [al_252]; rfl) dX12_beatGoes_46 h (fun h => ?_)
    refine a_isub C dX12_beatGoes_47 ?_
    refine a_iconst C dX12_beatGoes_48 (v := 0) rfl ?_
    refine a_sipush C dX12_beatGoes_49 (v := 999) rfl ?_
    refine p_callSi C (As := [.int ((σ5.1 267 22) - (σ5.1 252 (σ5.1 236 18).toInt.toNat)), .int 0, .int 999]) h (fun _ _ e => Z_X12_held hid e) ms_X12_held ml_RX12_338 rfl rfl (Nat.le_of_ble_eq_true rfl) (Nat.le_of_ble_eq_true rfl) (Nat.le_of_ble_eq_true rfl) dX12_beatGoes_52 (fun r11 σ10 h => ?_)
    refine p_iastc C (i := 267) 22 (show rowOK 267 from ⟨kd_267, by decide⟩) hid (by decide) (by rw [al_267]; decide) dX12_beatGoes_55 h (fun σ12 h => ?_)
    refine a_goto C dX12_beatGoes_56 (tgt := 71) rfl ?_
    exact j71 _ h
set_option maxHeartbeats 4000000 in
set_option maxRecDepth 100000 in
theorem Z_X12_goes {l : Launch} {D : va_G} {ids : List Nat} {ad : Nat → Nat} {ca : Nat → ClassId} {σ : HS} {x1 : Int32} {s0 : HS} (hid : ∀ i, i < 277 → i ∈ ids) (h : f_X12_goes x1 σ = some s0) : Kv l D ids ad ca yX12_goes cX12_goes 3 5 122 [.ref (ad 236), .int x1] σ (fun σ1 => σ1 = s0) := by
  obtain ⟨R, hR⟩ : ∃ R, s0 = R := ⟨_, rfl⟩
  replace h := h.trans (congrArg some hR)
  refine Kv.of (by decide) (Nat.le_of_ble_eq_true rfl) 1 (fun Γ C Rt => ?_)
  show AW ids ad ca Γ 0 [some (.ref (ad 236)), some (.int x1), none] [] σ
  unfold f_X12_goes at h
  have j2 : ∀ (n : Nat) (y1 : Int32) (y2 : Int32) (σ : HS), f_X12_goes_2 n y1 y2 σ = some R → AW ids ad ca Γ 2 [some (.ref (ad 236)), some (.int y1), some (.int y2)] [] σ := by
    intro n
    induction n with
    | zero => intro y1 y2 σ h; exact nn h
    | succ n ih =>
      intro y1 y2 σ h
      have h : b_X12_goes_2 (f_X12_goes_2 n) y1 y2 σ = some R := h
      unfold b_X12_goes_2 at h
      refine a_iload_n C dX12_goes_2 (i := 2) rfl rfl ?_
      refine a_iload_n C dX12_goes_3 (i := 1) rfl rfl ?_
      refine p_ic_ge C (X := y2.toInt) (Y := y1.toInt) rfl rfl dX12_goes_4 (tgt := 17) rfl h (fun h => ?_) (fun h => ?_)
      ·
        exact a_vret Rt dX12_goes_17 (retv_eq (h.trans (congrArg some hR.symm)))
      ·
        refine a_aload_n C dX12_goes_7 (i := 0) rfl rfl ?_
        refine p_callVv C (As := []) (i := 236) kd_236 (hid 236 (by decide)) ⟨_, _, rfl⟩ (by decide) h (fun _ e => Z_X12_beatGoes hid e) mi_X12_beatGoes ml_RX12_387 rfl rfl (Nat.le_of_ble_eq_true rfl) (Nat.le_of_ble_eq_true rfl) (Nat.le_of_ble_eq_true rfl) dX12_goes_8 (fun σ1 h => ?_)
        refine p_iinc C (y := (y2 + 1)) (fun z3 => [some (.ref (ad 236)), some (.int y1), some (.int z3)]) dX12_goes_11 rfl rfl (by decide) rfl (fun _ => rfl) h (fun z3 h => ?_)
        refine a_goto C dX12_goes_14 (tgt := 2) rfl ?_
        exact ih _ _ _ h
  refine a_iconst C dX12_goes_0 (v := 0) rfl ?_
  refine a_istore_n C dX12_goes_1 (i := 2) rfl (by decide) rfl (vs1 := [some (.ref (ad 236)), some (.int x1), some (.int 0)]) rfl ?_
  exact j2 _ _ _ _ h
set_option maxHeartbeats 4000000 in
set_option maxRecDepth 100000 in
theorem Z_X12_thing {l : Launch} {D : va_G} {ids : List Nat} {ad : Nat → Nat} {ca : Nat → ClassId} {σ : HS} {x1 : Int32} {x2 : Int32} {r0 : Int32} {s0 : HS} (hid : ∀ i, i < 277 → i ∈ ids) (h : f_X12_thing x1 x2 σ = some (r0, s0)) : Ki l D ids ad ca yX12_thing cX12_thing 3 .int 2 43 [.ref (ad 236), .int x1, .int x2] σ (fun r σ1 => r = r0 ∧ σ1 = s0) := by
  obtain ⟨R, hR⟩ : ∃ R, (r0, s0) = R := ⟨_, rfl⟩
  replace h := h.trans (congrArg some hR)
  refine Ki.of (by decide) (Nat.le_of_ble_eq_true rfl) 0 (fun Γ C Rt => ?_)
  show AW ids ad ca Γ 0 [some (.ref (ad 236)), some (.int x1), some (.int x2)] [] σ
  unfold f_X12_thing at h
  refine a_aload_n C dX12_thing_0 (i := 0) rfl rfl ?_
  refine a_iload_n C dX12_thing_1 (i := 1) rfl rfl ?_
  refine p_callVi C (As := [.int x1]) (i := 236) kd_236 (hid 236 (by decide)) ⟨_, _, rfl⟩ (by decide) h (fun _ _ e => Z_X12_isThing hid e) mi_X12_isThing ml_RX12_390 rfl rfl (Nat.le_of_ble_eq_true rfl) (Nat.le_of_ble_eq_true rfl) (Nat.le_of_ble_eq_true rfl) dX12_thing_2 (fun r2 σ1 h => ?_)
  refine p_if_ne C (X := r2.toInt) rfl dX12_thing_5 (tgt := 10) rfl h (fun h => ?_) (fun h => ?_)
  ·
    refine a_iload_n C dX12_thing_10 (i := 2) rfl rfl ?_
    refine ite_k h (fun c1 h => ?_) (fun c1 h => ?_)
    ·
      refine a_tableIn C dX12_thing_11 (by omega) (by omega) (by rw [c1]; rfl) (tgt := 44) rfl ?_
      refine a_aload_n C dX12_thing_44 (i := 0) rfl rfl ?_
      refine a_get C fl_RX12_46 (i := 236) kd_236 (hid 236 (by decide)) (v := .ref (ad 246)) rfl dX12_thing_45 ?_
      refine a_bipush C dX12_thing_48 (v := 7) rfl ?_
      refine a_aload_n C dX12_thing_50 (i := 0) rfl rfl ?_
      refine a_get C fl_RX12_221 (i := 236) kd_236 (hid 236 (by decide)) (v := .int (σ1.1 236 18)) rfl dX12_thing_51 ?_
      refine a_imul C dX12_thing_54 ?_
      refine a_iload_n C dX12_thing_55 (i := 1) rfl rfl ?_
      refine a_iadd C dX12_thing_56 ?_
      refine p_iald C (i := 246) (show rowOK 246 from ⟨kd_246, by decide⟩) hid (by rw [al_246]; rfl) dX12_thing_57 h (fun h => ?_)
      exact a_iret Rt dX12_thing_58 rfl (ret_eq (h.trans (congrArg some hR.symm)))
    ·
      refine ite_k h (fun c2 h => ?_) (fun c2 h => ?_)
      ·
        refine a_tableIn C dX12_thing_11 (by omega) (by omega) (by rw [c2]; rfl) (tgt := 59) rfl ?_
        refine a_aload_n C dX12_thing_59 (i := 0) rfl rfl ?_
        refine a_get C fl_RX12_49 (i := 236) kd_236 (hid 236 (by decide)) (v := .ref (ad 247)) rfl dX12_thing_60 ?_
        refine a_bipush C dX12_thing_63 (v := 7) rfl ?_
        refine a_aload_n C dX12_thing_65 (i := 0) rfl rfl ?_
        refine a_get C fl_RX12_221 (i := 236) kd_236 (hid 236 (by decide)) (v := .int (σ1.1 236 18)) rfl dX12_thing_66 ?_
        refine a_imul C dX12_thing_69 ?_
        refine a_iload_n C dX12_thing_70 (i := 1) rfl rfl ?_
        refine a_iadd C dX12_thing_71 ?_
        refine p_iald C (i := 247) (show rowOK 247 from ⟨kd_247, by decide⟩) hid (by rw [al_247]; rfl) dX12_thing_72 h (fun h => ?_)
        exact a_iret Rt dX12_thing_73 rfl (ret_eq (h.trans (congrArg some hR.symm)))
      ·
        refine ite_k h (fun c3 h => ?_) (fun c3 h => ?_)
        ·
          refine a_tableIn C dX12_thing_11 (by omega) (by omega) (by rw [c3]; rfl) (tgt := 74) rfl ?_
          refine a_aload_n C dX12_thing_74 (i := 0) rfl rfl ?_
          refine a_get C fl_RX12_107 (i := 236) kd_236 (hid 236 (by decide)) (v := .ref (ad 266)) rfl dX12_thing_75 ?_
          refine a_iload_n C dX12_thing_78 (i := 1) rfl rfl ?_
          refine p_iald C (i := 266) (show rowOK 266 from ⟨kd_266, by decide⟩) hid (by rw [al_266]; rfl) dX12_thing_79 h (fun h => ?_)
          exact a_iret Rt dX12_thing_80 rfl (ret_eq (h.trans (congrArg some hR.symm)))
        ·
          refine ite_k h (fun c4 h => ?_) (fun c4 h => ?_)
          ·
            refine a_tableIn C dX12_thing_11 (by omega) (by omega) (by rw [c4]; rfl) (tgt := 81) rfl ?_
            refine a_aload_n C dX12_thing_81 (i := 0) rfl rfl ?_
            refine a_get C fl_RX12_107 (i := 236) kd_236 (hid 236 (by decide)) (v := .ref (ad 266)) rfl dX12_thing_82 ?_
            refine a_iload_n C dX12_thing_85 (i := 1) rfl rfl ?_
            refine p_iald C (i := 266) (show rowOK 266 from ⟨kd_266, by decide⟩) hid (by rw [al_266]; rfl) dX12_thing_86 h (fun h => ?_)
            refine p_if_ne C (X := (σ1.1 266 x1.toInt.toNat).toInt) rfl dX12_thing_87 (tgt := 102) rfl h (fun h => ?_) (fun h => ?_)
            ·
              refine a_bipush C dX12_thing_102 (v := (-2)) rfl ?_
              exact a_iret Rt dX12_thing_104 rfl (ret_eq (h.trans (congrArg some hR.symm)))
            ·
              refine a_aload_n C dX12_thing_90 (i := 0) rfl rfl ?_
              refine a_get C fl_RX12_107 (i := 236) kd_236 (hid 236 (by decide)) (v := .ref (ad 266)) rfl dX12_thing_91 ?_
              refine a_bipush C dX12_thing_94 (v := 7) rfl ?_
              refine a_iload_n C dX12_thing_96 (i := 1) rfl rfl ?_
              refine a_iadd C dX12_thing_97 ?_
              refine p_iald C (i := 266) (show rowOK 266 from ⟨kd_266, by decide⟩) hid (by rw [al_266]; rfl) dX12_thing_98 h (fun h => ?_)
              refine a_goto C dX12_thing_99 (tgt := 104) rfl ?_
              exact a_iret Rt dX12_thing_104 rfl (ret_eq (h.trans (congrArg some hR.symm)))
          ·
            refine ite_k h (fun c5 h => ?_) (fun c5 h => ?_)
            ·
              refine a_tableIn C dX12_thing_11 (by omega) (by omega) (by rw [c5]; rfl) (tgt := 105) rfl ?_
              refine a_aload_n C dX12_thing_105 (i := 0) rfl rfl ?_
              refine a_get C fl_RX12_107 (i := 236) kd_236 (hid 236 (by decide)) (v := .ref (ad 266)) rfl dX12_thing_106 ?_
              refine a_bipush C dX12_thing_109 (v := 14) rfl ?_
              refine a_iload_n C dX12_thing_111 (i := 1) rfl rfl ?_
              refine a_iadd C dX12_thing_112 ?_
              refine p_iald C (i := 266) (show rowOK 266 from ⟨kd_266, by decide⟩) hid (by rw [al_266]; rfl) dX12_thing_113 h (fun h => ?_)
              exact a_iret Rt dX12_thing_114 rfl (ret_eq (h.trans (congrArg some hR.symm)))
            ·
              refine a_tableOut C dX12_thing_11 (by omega) (tgt := 115) rfl ?_
              refine a_iconst C dX12_thing_115 (v := (-1)) rfl ?_
              exact a_iret Rt dX12_thing_116 rfl (ret_eq (h.trans (congrArg some hR.symm)))
  ·
    refine a_iconst C dX12_thing_8 (v := (-1)) rfl ?_
    exact a_iret Rt dX12_thing_9 rfl (ret_eq (h.trans (congrArg some hR.symm)))
set_option maxHeartbeats 4000000 in
set_option maxRecDepth 100000 in
theorem Z_X12_pattern {l : Launch} {D : va_G} {ids : List Nat} {ad : Nat → Nat} {ca : Nat → ClassId} {σ : HS} {x1 : Int32} {x2 : Int32} {r0 : Int32} {s0 : HS} (hid : ∀ i, i < 277 → i ∈ ids) (h : f_X12_pattern x1 x2 σ = some (r0, s0)) : Ki l D ids ad ca yX12_pattern cX12_pattern 3 .int 2 43 [.ref (ad 236), .int x1, .int x2] σ (fun r σ1 => r = r0 ∧ σ1 = s0) := by
  obtain ⟨R, hR⟩ : ∃ R, (r0, s0) = R := ⟨_, rfl⟩
  replace h := h.trans (congrArg some hR)
  refine Ki.of (by decide) (Nat.le_of_ble_eq_true rfl) 0 (fun Γ C Rt => ?_)
  show AW ids ad ca Γ 0 [some (.ref (ad 236)), some (.int x1), some (.int x2)] [] σ
  unfold f_X12_pattern at h
  refine a_aload_n C dX12_pattern_0 (i := 0) rfl rfl ?_
  refine a_iload_n C dX12_pattern_1 (i := 1) rfl rfl ?_
  refine p_callVi C (As := [.int x1]) (i := 236) kd_236 (hid 236 (by decide)) ⟨_, _, rfl⟩ (by decide) h (fun _ _ e => Z_X12_isPattern hid e) mi_X12_isPattern ml_RX12_393 rfl rfl (Nat.le_of_ble_eq_true rfl) (Nat.le_of_ble_eq_true rfl) (Nat.le_of_ble_eq_true rfl) dX12_pattern_2 (fun r2 σ1 h => ?_)
  refine p_if_eq C (X := r2.toInt) rfl dX12_pattern_5 (tgt := 23) rfl h (fun h => ?_) (fun h => ?_)
  ·
    refine a_iconst C dX12_pattern_23 (v := (-1)) rfl ?_
    exact a_iret Rt dX12_pattern_24 rfl (ret_eq (h.trans (congrArg some hR.symm)))
  ·
    refine a_iload_n C dX12_pattern_8 (i := 2) rfl rfl ?_
    refine a_iconst C dX12_pattern_9 (v := (-1)) rfl ?_
    refine a_aload_n C dX12_pattern_10 (i := 0) rfl rfl ?_
    refine a_iload_n C dX12_pattern_11 (i := 1) rfl rfl ?_
    refine p_callVi C (As := [.int x1]) (i := 236) kd_236 (hid 236 (by decide)) ⟨_, _, rfl⟩ (by decide) h (fun _ _ e => Z_X12_lengthOf hid e) mi_X12_lengthOf ml_RX12_318 rfl rfl (Nat.le_of_ble_eq_true rfl) (Nat.le_of_ble_eq_true rfl) (Nat.le_of_ble_eq_true rfl) dX12_pattern_12 (fun r4 σ3 h => ?_)
    refine a_iconst C dX12_pattern_15 (v := 1) rfl ?_
    refine a_isub C dX12_pattern_16 ?_
    refine p_callSi C (As := [.int x2, .int (-1), .int (r4 - (1 : Int32))]) h (fun _ _ e => Z_X12_in hid e) ms_X12_in ml_RX12_301 rfl rfl (Nat.le_of_ble_eq_true rfl) (Nat.le_of_ble_eq_true rfl) (Nat.le_of_ble_eq_true rfl) dX12_pattern_17 (fun r6 σ5 h => ?_)
    refine p_if_ne C (X := r6.toInt) rfl dX12_pattern_20 (tgt := 25) rfl h (fun h => ?_) (fun h => ?_)
    ·
      refine a_iload_n C dX12_pattern_25 (i := 2) rfl rfl ?_
      refine a_iconst C dX12_pattern_26 (v := (-1)) rfl ?_
      refine p_ic_ne C (X := x2.toInt) (Y := (-1)) rfl (by decide) dX12_pattern_27 (tgt := 38) rfl h (fun h => ?_) (fun h => ?_)
      ·
        refine a_aload_n C dX12_pattern_38 (i := 0) rfl rfl ?_
        refine a_iload_n C dX12_pattern_39 (i := 1) rfl rfl ?_
        refine a_iload_n C dX12_pattern_40 (i := 2) rfl rfl ?_
        refine p_callVi C (As := [.int x1, .int x2]) (i := 236) kd_236 (hid 236 (by decide)) ⟨_, _, rfl⟩ (by decide) h (fun _ _ e => Z_X12_heightAt hid e) mi_X12_heightAt ml_RX12_321 rfl rfl (Nat.le_of_ble_eq_true rfl) (Nat.le_of_ble_eq_true rfl) (Nat.le_of_ble_eq_true rfl) dX12_pattern_41 (fun r8 σ7 h => ?_)
        exact a_iret Rt dX12_pattern_44 rfl (ret_eq (h.trans (congrArg some hR.symm)))
      ·
        refine a_aload_n C dX12_pattern_30 (i := 0) rfl rfl ?_
        refine a_iload_n C dX12_pattern_31 (i := 1) rfl rfl ?_
        refine p_callVi C (As := [.int x1]) (i := 236) kd_236 (hid 236 (by decide)) ⟨_, _, rfl⟩ (by decide) h (fun _ _ e => Z_X12_lengthOf hid e) mi_X12_lengthOf ml_RX12_318 rfl rfl (Nat.le_of_ble_eq_true rfl) (Nat.le_of_ble_eq_true rfl) (Nat.le_of_ble_eq_true rfl) dX12_pattern_32 (fun r10 σ9 h => ?_)
        refine a_goto C dX12_pattern_35 (tgt := 44) rfl ?_
        exact a_iret Rt dX12_pattern_44 rfl (ret_eq (h.trans (congrArg some hR.symm)))
    ·
      refine a_iconst C dX12_pattern_23 (v := (-1)) rfl ?_
      exact a_iret Rt dX12_pattern_24 rfl (ret_eq (h.trans (congrArg some hR.symm)))
set_option maxHeartbeats 4000000 in
set_option maxRecDepth 100000 in
theorem Z_X12_tells {l : Launch} {D : va_G} {ids : List Nat} {ad : Nat → Nat} {ca : Nat → ClassId} {σ : HS} {x1 : Int32} {x2 : Int32} {x3 : Int32} {r0 : Int32} {s0 : HS} (hid : ∀ i, i < 277 → i ∈ ids) (h : f_X12_tells x1 x2 x3 σ = some (r0, s0)) : Ki l D ids ad ca yX12_tells cX12_tells 5 .int 3 76 [.ref (ad 236), .int x1, .int x2, .int x3] σ (fun r σ1 => r = r0 ∧ σ1 = s0) := by
  obtain ⟨R, hR⟩ : ∃ R, (r0, s0) = R := ⟨_, rfl⟩
  replace h := h.trans (congrArg some hR)
  refine Ki.of (by decide) (Nat.le_of_ble_eq_true rfl) 1 (fun Γ C Rt => ?_)
  show AW ids ad ca Γ 0 [some (.ref (ad 236)), some (.int x1), some (.int x2), some (.int x3), none] [] σ
  unfold f_X12_tells at h
  have j35 : ∀ (y1 : Int32) (y2 : Int32) (y3 : Int32) (σ : HS), f_X12_tells_35 y1 y2 y3 σ = some R → AW ids ad ca Γ 35 [some (.ref (ad 236)), some (.int y1), some (.int y2), some (.int y3), none] [] σ := by
    intro y1 y2 y3 σ h
    unfold f_X12_tells_35 at h
    refine a_aload_n C dX12_tells_35 (i := 0) rfl rfl ?_
    refine p_callVv C (As := []) (i := 236) kd_236 (hid 236 (by decide)) ⟨_, _, rfl⟩ (by decide) h (fun _ e => Z_X12_copies hid e) mi_X12_copies ml_RX12_311 rfl rfl (Nat.le_of_ble_eq_true rfl) (Nat.le_of_ble_eq_true rfl) (Nat.le_of_ble_eq_true rfl) dX12_tells_36 (fun σ1 h => ?_)
    refine a_aload_n C dX12_tells_39 (i := 0) rfl rfl ?_
    refine a_iconst C dX12_tells_40 (v := 0) rfl ?_
    refine p_callVi C (As := [.int 0]) (i := 236) kd_236 (hid 236 (by decide)) ⟨_, _, rfl⟩ (by decide) h (fun _ _ e => Z_X12_thingsSo hid e) mi_X12_thingsSo ml_RX12_350 rfl rfl (Nat.le_of_ble_eq_true rfl) (Nat.le_of_ble_eq_true rfl) (Nat.le_of_ble_eq_true rfl) dX12_tells_41 (fun r4 σ3 h => ?_)
    refine p_callSi C (As := [.int r4]) h (fun _ _ e => Z_X12_bits hid e) ms_X12_bits ml_RX12_353 rfl rfl (Nat.le_of_ble_eq_true rfl) (Nat.le_of_ble_eq_true rfl) (Nat.le_of_ble_eq_true rfl) dX12_tells_44 (fun r6 σ5 h => ?_)
    refine a_istore C dX12_tells_47 (by decide) rfl (vs1 := [some (.ref (ad 236)), some (.int y1), some (.int y2), some (.int y3), some (.int r6)]) rfl ?_
    refine a_iload_n C dX12_tells_49 (i := 3) rfl rfl ?_
    refine p_if_ne C (X := y3.toInt) rfl dX12_tells_50 (tgt := 64) rfl h (fun h => ?_) (fun h => ?_)
    ·
      refine a_iload_n C dX12_tells_64 (i := 3) rfl rfl ?_
      refine a_iconst C dX12_tells_65 (v := 1) rfl ?_
      refine p_ic_ne C (X := y3.toInt) (Y := 1) rfl (by decide) dX12_tells_66 (tgt := 80) rfl h (fun h => ?_) (fun h => ?_)
      ·
        refine a_iload_n C dX12_tells_80 (i := 3) rfl rfl ?_
        refine a_iconst C dX12_tells_81 (v := 2) rfl ?_
        refine p_ic_ne C (X := y3.toInt) (Y := 2) rfl (by decide) dX12_tells_82 (tgt := 95) rfl h (fun h => ?_) (fun h => ?_)
        ·
          refine a_aload_n C dX12_tells_95 (i := 0) rfl rfl ?_
          refine a_iload_n C dX12_tells_96 (i := 1) rfl rfl ?_
          refine a_iload C dX12_tells_97 rfl ?_
          refine p_callVi C (As := [.int y1, .int r6]) (i := 236) kd_236 (hid 236 (by decide)) ⟨_, _, rfl⟩ (by decide) h (fun _ _ e => Z_X12_paysOf hid e) mi_X12_paysOf ml_RX12_359 rfl rfl (Nat.le_of_ble_eq_true rfl) (Nat.le_of_ble_eq_true rfl) (Nat.le_of_ble_eq_true rfl) dX12_tells_99 (fun r8 σ7 h => ?_)
          exact a_iret Rt dX12_tells_102 rfl (ret_eq (h.trans (congrArg some hR.symm)))
        ·
          refine a_aload_n C dX12_tells_85 (i := 0) rfl rfl ?_
          refine a_iload_n C dX12_tells_86 (i := 1) rfl rfl ?_
          refine a_iload C dX12_tells_87 rfl ?_
          refine p_callVi C (As := [.int y1, .int r6]) (i := 236) kd_236 (hid 236 (by decide)) ⟨_, _, rfl⟩ (by decide) h (fun _ _ e => Z_X12_forceOf hid e) mi_X12_forceOf ml_RX12_362 rfl rfl (Nat.le_of_ble_eq_true rfl) (Nat.le_of_ble_eq_true rfl) (Nat.le_of_ble_eq_true rfl) dX12_tells_89 (fun r10 σ9 h => ?_)
          refine a_goto C dX12_tells_92 (tgt := 102) rfl ?_
          exact a_iret Rt dX12_tells_102 rfl (ret_eq (h.trans (congrArg some hR.symm)))
      ·
        refine a_aload_n C dX12_tells_69 (i := 0) rfl rfl ?_
        refine a_iload_n C dX12_tells_70 (i := 1) rfl rfl ?_
        refine a_iload_n C dX12_tells_71 (i := 2) rfl rfl ?_
        refine a_iload C dX12_tells_72 rfl ?_
        refine p_callVi C (As := [.int y1, .int y2, .int r6]) (i := 236) kd_236 (hid 236 (by decide)) ⟨_, _, rfl⟩ (by decide) h (fun _ _ e => Z_X12_dropsBy hid e) mi_X12_dropsBy ml_RX12_371 rfl rfl (Nat.le_of_ble_eq_true rfl) (Nat.le_of_ble_eq_true rfl) (Nat.le_of_ble_eq_true rfl) dX12_tells_74 (fun r12 σ11 h => ?_)
        refine a_goto C dX12_tells_77 (tgt := 102) rfl ?_
        exact a_iret Rt dX12_tells_102 rfl (ret_eq (h.trans (congrArg some hR.symm)))
    ·
      refine a_aload_n C dX12_tells_53 (i := 0) rfl rfl ?_
      refine a_iload_n C dX12_tells_54 (i := 1) rfl rfl ?_
      refine a_iload_n C dX12_tells_55 (i := 2) rfl rfl ?_
      refine a_iload C dX12_tells_56 rfl ?_
      refine p_callVi C (As := [.int y1, .int y2, .int r6]) (i := 236) kd_236 (hid 236 (by decide)) ⟨_, _, rfl⟩ (by decide) h (fun _ _ e => Z_X12_tiresBy hid e) mi_X12_tiresBy ml_RX12_356 rfl rfl (Nat.le_of_ble_eq_true rfl) (Nat.le_of_ble_eq_true rfl) (Nat.le_of_ble_eq_true rfl) dX12_tells_58 (fun r14 σ13 h => ?_)
      refine a_goto C dX12_tells_61 (tgt := 102) rfl ?_
      exact a_iret Rt dX12_tells_102 rfl (ret_eq (h.trans (congrArg some hR.symm)))
  refine a_aload_n C dX12_tells_0 (i := 0) rfl rfl ?_
  refine a_iload_n C dX12_tells_1 (i := 1) rfl rfl ?_
  refine p_callVi C (As := [.int x1]) (i := 236) kd_236 (hid 236 (by decide)) ⟨_, _, rfl⟩ (by decide) h (fun _ _ e => Z_X12_isThing hid e) mi_X12_isThing ml_RX12_390 rfl rfl (Nat.le_of_ble_eq_true rfl) (Nat.le_of_ble_eq_true rfl) (Nat.le_of_ble_eq_true rfl) dX12_tells_2 (fun r2 σ1 h => ?_)
  refine p_if_eq C (X := r2.toInt) rfl dX12_tells_5 (tgt := 32) rfl h (fun h => ?_) (fun h => ?_)
  ·
    refine a_bipush C dX12_tells_32 (v := (-100)) rfl ?_
    exact a_iret Rt dX12_tells_34 rfl (ret_eq (h.trans (congrArg some hR.symm)))
  ·
    refine a_iload_n C dX12_tells_8 (i := 3) rfl rfl ?_
    refine a_iconst C dX12_tells_9 (v := 0) rfl ?_
    refine a_iconst C dX12_tells_10 (v := 3) rfl ?_
    refine p_callSi C (As := [.int x3, .int 0, .int 3]) h (fun _ _ e => Z_X12_in hid e) ms_X12_in ml_RX12_301 rfl rfl (Nat.le_of_ble_eq_true rfl) (Nat.le_of_ble_eq_true rfl) (Nat.le_of_ble_eq_true rfl) dX12_tells_11 (fun r4 σ3 h => ?_)
    refine p_if_eq C (X := r4.toInt) rfl dX12_tells_14 (tgt := 32) rfl h (fun h => ?_) (fun h => ?_)
    ·
      refine a_bipush C dX12_tells_32 (v := (-100)) rfl ?_
      exact a_iret Rt dX12_tells_34 rfl (ret_eq (h.trans (congrArg some hR.symm)))
    ·
      refine a_iload_n C dX12_tells_17 (i := 3) rfl rfl ?_
      refine a_iconst C dX12_tells_18 (v := 2) rfl ?_
      refine p_ic_ge C (X := x3.toInt) (Y := 2) rfl (by decide) dX12_tells_19 (tgt := 35) rfl h (fun h => ?_) (fun h => ?_)
      ·
        exact j35 _ _ _ _ h
      ·
        refine a_iload_n C dX12_tells_22 (i := 2) rfl rfl ?_
        refine a_iconst C dX12_tells_23 (v := 0) rfl ?_
        refine a_bipush C dX12_tells_24 (v := 9) rfl ?_
        refine p_callSi C (As := [.int x2, .int 0, .int 9]) h (fun _ _ e => Z_X12_in hid e) ms_X12_in ml_RX12_301 rfl rfl (Nat.le_of_ble_eq_true rfl) (Nat.le_of_ble_eq_true rfl) (Nat.le_of_ble_eq_true rfl) dX12_tells_26 (fun r6 σ5 h => ?_)
        refine p_if_ne C (X := r6.toInt) rfl dX12_tells_29 (tgt := 35) rfl h (fun h => ?_) (fun h => ?_)
        ·
          exact j35 _ _ _ _ h
        ·
          refine a_bipush C dX12_tells_32 (v := (-100)) rfl ?_
          exact a_iret Rt dX12_tells_34 rfl (ret_eq (h.trans (congrArg some hR.symm)))
set_option maxHeartbeats 4000000 in
set_option maxRecDepth 100000 in
theorem Z_X12_records {l : Launch} {D : va_G} {ids : List Nat} {ad : Nat → Nat} {ca : Nat → ClassId} {σ : HS} {s0 : HS} (hid : ∀ i, i < 277 → i ∈ ids) (h : f_X12_records σ = some s0) : Kv l D ids ad ca yX12_records cX12_records 2 1 21 [.ref (ad 236)] σ (fun σ1 => σ1 = s0) := by
  obtain ⟨R, hR⟩ : ∃ R, s0 = R := ⟨_, rfl⟩
  replace h := h.trans (congrArg some hR)
  refine Kv.of (by decide) (Nat.le_of_ble_eq_true rfl) 1 (fun Γ C Rt => ?_)
  show AW ids ad ca Γ 0 [some (.ref (ad 236)), none] [] σ
  unfold f_X12_records at h
  have j51 : ∀ (n : Nat) (y1 : Int32) (σ : HS), f_X12_records_51 n y1 σ = some R → AW ids ad ca Γ 51 [some (.ref (ad 236)), some (.int y1)] [] σ := by
    intro n
    induction n with
    | zero => intro y1 σ h; exact nn h
    | succ n ih =>
      intro y1 σ h
      have h : b_X12_records_51 (f_X12_records_51 n) y1 σ = some R := h
      unfold b_X12_records_51 at h
      refine a_iload_n C dX12_records_51 (i := 1) rfl rfl ?_
      refine a_bipush C dX12_records_52 (v := 29) rfl ?_
      refine p_ic_ge C (X := y1.toInt) (Y := 29) rfl (by decide) dX12_records_54 (tgt := 83) rfl h (fun h => ?_) (fun h => ?_)
      ·
        refine a_aload_n C dX12_records_83 (i := 0) rfl rfl ?_
        refine a_dup C dX12_records_84 rfl ?_
        refine a_get C fl_RX12_239 (i := 236) kd_236 (hid 236 (by decide)) (v := .int (σ.1 236 54)) rfl dX12_records_85 ?_
        refine a_iconst C dX12_records_88 (v := 1) rfl ?_
        refine a_iadd C dX12_records_89 ?_
        refine p_put C fp_RX12_239 (i := 236) kd_236 (hid 236 (by decide)) rfl rfl dX12_records_90 h (fun σ1 h => ?_)
        refine a_aload_n C dX12_records_93 (i := 0) rfl rfl ?_
        refine p_callVv C (As := []) (i := 236) kd_236 (hid 236 (by decide)) ⟨_, _, rfl⟩ (by decide) h (fun _ e => Z_X12_keepsRow hid e) mi_X12_keepsRow ml_RX12_151 rfl rfl (Nat.le_of_ble_eq_true rfl) (Nat.le_of_ble_eq_true rfl) (Nat.le_of_ble_eq_true rfl) dX12_records_94 (fun σ2 h => ?_)
        exact a_vret Rt dX12_records_97 (retv_eq (h.trans (congrArg some hR.symm)))
      ·
        refine a_aload_n C dX12_records_57 (i := 0) rfl rfl ?_
        refine a_get C fl_RX12_113 (i := 236) kd_236 (hid 236 (by decide)) (v := .ref (ad 268)) rfl dX12_records_58 ?_
        refine a_bipush C dX12_records_61 (v := 29) rfl ?_
        refine a_aload_n C dX12_records_63 (i := 0) rfl rfl ?_
        refine a_get C fl_RX12_239 (i := 236) kd_236 (hid 236 (by decide)) (v := .int (σ.1 236 54)) rfl dX12_records_64 ?_
        refine a_imul C dX12_records_67 ?_
        refine a_iload_n C dX12_records_68 (i := 1) rfl rfl ?_
        refine a_iadd C dX12_records_69 ?_
        refine a_aload_n C dX12_records_70 (i := 0) rfl rfl ?_
        refine a_get C fl_RX12_107 (i := 236) kd_236 (hid 236 (by decide)) (v := .ref (ad 266)) rfl dX12_records_71 ?_
        refine a_iload_n C dX12_records_74 (i := 1) rfl rfl ?_
        refine p_iald C (i := 266) (show rowOK 266 from ⟨kd_266, by decide⟩) hid (by rw [al_266]; rfl) dX12_records_75 h (fun h => ?_)
        refine p_iast C (i := 268) (show rowOK 268 from ⟨kd_268, by decide⟩) hid (by rw [al_268]; rfl) dX12_records_76 h (fun σ4 h => ?_)
        refine p_iinc C (y := (y1 + 1)) (fun z5 => [some (.ref (ad 236)), some (.int z5)]) dX12_records_77 rfl rfl (by decide) rfl (fun _ => rfl) h (fun z5 h => ?_)
        refine a_goto C dX12_records_80 (tgt := 51) rfl ?_
        exact ih _ _ h
  have j49 : ∀ (σ : HS), f_X12_records_49 σ = some R → AW ids ad ca Γ 49 [some (.ref (ad 236)), none] [] σ := by
    intro σ h
    unfold f_X12_records_49 at h
    refine a_iconst C dX12_records_49 (v := 0) rfl ?_
    refine a_istore_n C dX12_records_50 (i := 1) rfl (by decide) rfl (vs1 := [some (.ref (ad 236)), some (.int 0)]) rfl ?_
    exact j51 _ _ _ h
  have j11 : ∀ (n : Nat) (y1 : Int32) (σ : HS), f_X12_records_11 n y1 σ = some R → AW ids ad ca Γ 11 [some (.ref (ad 236)), some (.int y1)] [] σ := by
    intro n
    induction n with
    | zero => intro y1 σ h; exact nn h
    | succ n ih =>
      intro y1 σ h
      have h : b_X12_records_11 (f_X12_records_11 n) y1 σ = some R := h
      unfold b_X12_records_11 at h
      refine a_iload_n C dX12_records_11 (i := 1) rfl rfl ?_
      refine a_sipush C dX12_records_12 (v := 1131) rfl ?_
      refine p_ic_ge C (X := y1.toInt) (Y := 1131) rfl (by decide) dX12_records_15 (tgt := 39) rfl h (fun h => ?_) (fun h => ?_)
      ·
        refine a_aload_n C dX12_records_39 (i := 0) rfl rfl ?_
        refine a_dup C dX12_records_40 rfl ?_
        refine a_get C fl_RX12_239 (i := 236) kd_236 (hid 236 (by decide)) (v := .int (σ.1 236 54)) rfl dX12_records_41 ?_
        refine a_iconst C dX12_records_44 (v := 1) rfl ?_
        refine a_isub C dX12_records_45 ?_
        refine p_put C fp_RX12_239 (i := 236) kd_236 (hid 236 (by decide)) rfl rfl dX12_records_46 h (fun σ1 h => ?_)
        refine AW.sub (vs' := [some (.ref (ad 236)), none]) (lsub_of (by simp [lsubB])) ?_
        exact j49 _ h
      ·
        refine a_aload_n C dX12_records_18 (i := 0) rfl rfl ?_
        refine a_get C fl_RX12_113 (i := 236) kd_236 (hid 236 (by decide)) (v := .ref (ad 268)) rfl dX12_records_19 ?_
        refine a_iload_n C dX12_records_22 (i := 1) rfl rfl ?_
        refine a_aload_n C dX12_records_23 (i := 0) rfl rfl ?_
        refine a_get C fl_RX12_113 (i := 236) kd_236 (hid 236 (by decide)) (v := .ref (ad 268)) rfl dX12_records_24 ?_
        refine a_iload_n C dX12_records_27 (i := 1) rfl rfl ?_
        refine a_bipush C dX12_records_28 (v := 29) rfl ?_
        refine a_iadd C dX12_records_30 ?_
        refine p_iald C (i := 268) (show rowOK 268 from ⟨kd_268, by decide⟩) hid (by rw [al_268]; rfl) dX12_records_31 h (fun h => ?_)
        refine p_iast C (i := 268) (show rowOK 268 from ⟨kd_268, by decide⟩) hid (by rw [al_268]; rfl) dX12_records_32 h (fun σ2 h => ?_)
        refine p_iinc C (y := (y1 + 1)) (fun z3 => [some (.ref (ad 236)), some (.int z3)]) dX12_records_33 rfl rfl (by decide) rfl (fun _ => rfl) h (fun z3 h => ?_)
        refine a_goto C dX12_records_36 (tgt := 11) rfl ?_
        exact ih _ _ h
  refine a_aload_n C dX12_records_0 (i := 0) rfl rfl ?_
  refine a_get C fl_RX12_239 (i := 236) kd_236 (hid 236 (by decide)) (v := .int (σ.1 236 54)) rfl dX12_records_1 ?_
  refine a_bipush C dX12_records_4 (v := 40) rfl ?_
  refine p_ic_ne C (X := (σ.1 236 54).toInt) (Y := 40) rfl (by decide) dX12_records_6 (tgt := 49) rfl h (fun h => ?_) (fun h => ?_)
  ·
    exact j49 _ h
  ·
    refine a_iconst C dX12_records_9 (v := 0) rfl ?_
    refine a_istore_n C dX12_records_10 (i := 1) rfl (by decide) rfl (vs1 := [some (.ref (ad 236)), some (.int 0)]) rfl ?_
    exact j11 _ _ _ h
set_option maxHeartbeats 4000000 in
set_option maxRecDepth 100000 in
theorem Z_X12_throwIn {l : Launch} {D : va_G} {ids : List Nat} {ad : Nat → Nat} {ca : Nat → ClassId} {σ : HS} {x1 : Int32} {x2 : Int32} {r0 : Int32} {s0 : HS} (hid : ∀ i, i < 277 → i ∈ ids) (h : f_X12_throwIn x1 x2 σ = some (r0, s0)) : Ki l D ids ad ca yX12_throwIn cX12_throwIn 3 .boolean 2 43 [.ref (ad 236), .int x1, .int x2] σ (fun r σ1 => r = r0 ∧ σ1 = s0) := by
  obtain ⟨R, hR⟩ : ∃ R, (r0, s0) = R := ⟨_, rfl⟩
  replace h := h.trans (congrArg some hR)
  refine Ki.of (by decide) (Nat.le_of_ble_eq_true rfl) 0 (fun Γ C Rt => ?_)
  show AW ids ad ca Γ 0 [some (.ref (ad 236)), some (.int x1), some (.int x2)] [] σ
  unfold f_X12_throwIn at h
  refine a_aload_n C dX12_throwIn_0 (i := 0) rfl rfl ?_
  refine a_iload_n C dX12_throwIn_1 (i := 1) rfl rfl ?_
  refine p_callVi C (As := [.int x1]) (i := 236) kd_236 (hid 236 (by decide)) ⟨_, _, rfl⟩ (by decide) h (fun _ _ e => Z_X12_isThing hid e) mi_X12_isThing ml_RX12_390 rfl rfl (Nat.le_of_ble_eq_true rfl) (Nat.le_of_ble_eq_true rfl) (Nat.le_of_ble_eq_true rfl) dX12_throwIn_2 (fun r2 σ1 h => ?_)
  refine p_if_eq C (X := r2.toInt) rfl dX12_throwIn_5 (tgt := 27) rfl h (fun h => ?_) (fun h => ?_)
  ·
    refine a_iconst C dX12_throwIn_27 (v := 0) rfl ?_
    exact a_iret Rt dX12_throwIn_28 (nar_z (by decide)).1 (ret_eq (h.trans (congrArg some hR.symm)))
  ·
    refine a_aload_n C dX12_throwIn_8 (i := 0) rfl rfl ?_
    refine a_get C fl_RX12_107 (i := 236) kd_236 (hid 236 (by decide)) (v := .ref (ad 266)) rfl dX12_throwIn_9 ?_
    refine a_iload_n C dX12_throwIn_12 (i := 1) rfl rfl ?_
    refine p_iald C (i := 266) (show rowOK 266 from ⟨kd_266, by decide⟩) hid (by rw [al_266]; rfl) dX12_throwIn_13 h (fun h => ?_)
    refine p_if_eq C (X := (σ1.1 266 x1.toInt.toNat).toInt) rfl dX12_throwIn_14 (tgt := 27) rfl h (fun h => ?_) (fun h => ?_)
    ·
      refine a_iconst C dX12_throwIn_27 (v := 0) rfl ?_
      exact a_iret Rt dX12_throwIn_28 (nar_z (by decide)).1 (ret_eq (h.trans (congrArg some hR.symm)))
    ·
      refine a_iload_n C dX12_throwIn_17 (i := 2) rfl rfl ?_
      refine a_iconst C dX12_throwIn_18 (v := 0) rfl ?_
      refine a_bipush C dX12_throwIn_19 (v := 9) rfl ?_
      refine p_callSi C (As := [.int x2, .int 0, .int 9]) h (fun _ _ e => Z_X12_in hid e) ms_X12_in ml_RX12_301 rfl rfl (Nat.le_of_ble_eq_true rfl) (Nat.le_of_ble_eq_true rfl) (Nat.le_of_ble_eq_true rfl) dX12_throwIn_21 (fun r4 σ3 h => ?_)
      refine p_if_ne C (X := r4.toInt) rfl dX12_throwIn_24 (tgt := 29) rfl h (fun h => ?_) (fun h => ?_)
      ·
        refine a_aload_n C dX12_throwIn_29 (i := 0) rfl rfl ?_
        refine p_callVv C (As := []) (i := 236) kd_236 (hid 236 (by decide)) ⟨_, _, rfl⟩ (by decide) h (fun _ e => Z_X12_copies hid e) mi_X12_copies ml_RX12_311 rfl rfl (Nat.le_of_ble_eq_true rfl) (Nat.le_of_ble_eq_true rfl) (Nat.le_of_ble_eq_true rfl) dX12_throwIn_30 (fun σ5 h => ?_)
        refine a_aload_n C dX12_throwIn_33 (i := 0) rfl rfl ?_
        refine a_get C fl_RX12_110 (i := 236) kd_236 (hid 236 (by decide)) (v := .ref (ad 267)) rfl dX12_throwIn_34 ?_
        refine a_iload_n C dX12_throwIn_37 (i := 1) rfl rfl ?_
        refine a_iconst C dX12_throwIn_38 (v := 0) rfl ?_
        refine p_iast C (i := 267) (show rowOK 267 from ⟨kd_267, by decide⟩) hid (by rw [al_267]; rfl) dX12_throwIn_39 h (fun σ7 h => ?_)
        refine a_aload_n C dX12_throwIn_40 (i := 0) rfl rfl ?_
        refine a_get C fl_RX12_110 (i := 236) kd_236 (hid 236 (by decide)) (v := .ref (ad 267)) rfl dX12_throwIn_41 ?_
        refine a_bipush C dX12_throwIn_44 (v := 7) rfl ?_
        refine a_iload_n C dX12_throwIn_46 (i := 1) rfl rfl ?_
        refine a_iadd C dX12_throwIn_47 ?_
        refine a_iload_n C dX12_throwIn_48 (i := 2) rfl rfl ?_
        refine p_iast C (i := 267) (show rowOK 267 from ⟨kd_267, by decide⟩) hid (by rw [al_267]; rfl) dX12_throwIn_49 h (fun σ8 h => ?_)
        refine a_aload_n C dX12_throwIn_50 (i := 0) rfl rfl ?_
        refine p_callVv C (As := []) (i := 236) kd_236 (hid 236 (by decide)) ⟨_, _, rfl⟩ (by decide) h (fun _ e => Z_X12_records hid e) mi_X12_records ml_RX12_396 rfl rfl (Nat.le_of_ble_eq_true rfl) (Nat.le_of_ble_eq_true rfl) (Nat.le_of_ble_eq_true rfl) dX12_throwIn_51 (fun σ9 h => ?_)
        refine a_iconst C dX12_throwIn_54 (v := 1) rfl ?_
        exact a_iret Rt dX12_throwIn_55 (nar_z (by decide)).1 (ret_eq (h.trans (congrArg some hR.symm)))
      ·
        refine a_iconst C dX12_throwIn_27 (v := 0) rfl ?_
        exact a_iret Rt dX12_throwIn_28 (nar_z (by decide)).1 (ret_eq (h.trans (congrArg some hR.symm)))
set_option maxHeartbeats 4000000 in
set_option maxRecDepth 100000 in
theorem Z_X12_uses {l : Launch} {D : va_G} {ids : List Nat} {ad : Nat → Nat} {ca : Nat → ClassId} {σ : HS} {x1 : Int32} {s0 : HS} (hid : ∀ i, i < 277 → i ∈ ids) (h : f_X12_uses x1 σ = some s0) : Kv l D ids ad ca yX12_uses cX12_uses 2 0 0 [.ref (ad 236), .int x1] σ (fun σ1 => σ1 = s0) := by
  obtain ⟨R, hR⟩ : ∃ R, s0 = R := ⟨_, rfl⟩
  replace h := h.trans (congrArg some hR)
  refine Kv.of (by decide) (Nat.le_of_ble_eq_true rfl) 0 (fun Γ C Rt => ?_)
  show AW ids ad ca Γ 0 [some (.ref (ad 236)), some (.int x1)] [] σ
  unfold f_X12_uses at h
  refine a_aload_n C dX12_uses_0 (i := 0) rfl rfl ?_
  refine a_get C fl_RX12_110 (i := 236) kd_236 (hid 236 (by decide)) (v := .ref (ad 267)) rfl dX12_uses_1 ?_
  refine a_bipush C dX12_uses_4 (v := 26) rfl ?_
  refine a_iload_n C dX12_uses_6 (i := 1) rfl rfl ?_
  refine p_iastc C (i := 267) 26 (show rowOK 267 from ⟨kd_267, by decide⟩) hid (by decide) (by rw [al_267]; decide) dX12_uses_7 h (fun σ1 h => ?_)
  refine a_aload_n C dX12_uses_8 (i := 0) rfl rfl ?_
  refine a_get C fl_RX12_110 (i := 236) kd_236 (hid 236 (by decide)) (v := .ref (ad 267)) rfl dX12_uses_9 ?_
  refine a_bipush C dX12_uses_12 (v := 27) rfl ?_
  refine a_aload_n C dX12_uses_14 (i := 0) rfl rfl ?_
  refine a_get C fl_RX12_110 (i := 236) kd_236 (hid 236 (by decide)) (v := .ref (ad 267)) rfl dX12_uses_15 ?_
  refine a_bipush C dX12_uses_18 (v := 21) rfl ?_
  refine p_ialdc C (i := 267) 21 (show rowOK 267 from ⟨kd_267, by decide⟩) hid (by decide) (by rw [al_267]; decide) dX12_uses_20 ?_
  refine p_iastc C (i := 267) 27 (show rowOK 267 from ⟨kd_267, by decide⟩) hid (by decide) (by rw [al_267]; decide) dX12_uses_21 h (fun σ2 h => ?_)
  exact a_vret Rt dX12_uses_22 (retv_eq (h.trans (congrArg some hR.symm)))
set_option maxHeartbeats 4000000 in
set_option maxRecDepth 100000 in
theorem Z_X12_use {l : Launch} {D : va_G} {ids : List Nat} {ad : Nat → Nat} {ca : Nat → ClassId} {σ : HS} {x1 : Int32} {r0 : Int32} {s0 : HS} (hid : ∀ i, i < 277 → i ∈ ids) (h : f_X12_use x1 σ = some (r0, s0)) : Ki l D ids ad ca yX12_use cX12_use 2 .boolean 2 43 [.ref (ad 236), .int x1] σ (fun r σ1 => r = r0 ∧ σ1 = s0) := by
  obtain ⟨R, hR⟩ : ∃ R, (r0, s0) = R := ⟨_, rfl⟩
  replace h := h.trans (congrArg some hR)
  refine Ki.of (by decide) (Nat.le_of_ble_eq_true rfl) 0 (fun Γ C Rt => ?_)
  show AW ids ad ca Γ 0 [some (.ref (ad 236)), some (.int x1)] [] σ
  unfold f_X12_use at h
  refine a_aload_n C dX12_use_0 (i := 0) rfl rfl ?_
  refine a_iload_n C dX12_use_1 (i := 1) rfl rfl ?_
  refine p_callVi C (As := [.int x1]) (i := 236) kd_236 (hid 236 (by decide)) ⟨_, _, rfl⟩ (by decide) h (fun _ _ e => Z_X12_isPattern hid e) mi_X12_isPattern ml_RX12_393 rfl rfl (Nat.le_of_ble_eq_true rfl) (Nat.le_of_ble_eq_true rfl) (Nat.le_of_ble_eq_true rfl) dX12_use_2 (fun r2 σ1 h => ?_)
  refine p_if_ne C (X := r2.toInt) rfl dX12_use_5 (tgt := 10) rfl h (fun h => ?_) (fun h => ?_)
  ·
    refine a_aload_n C dX12_use_10 (i := 0) rfl rfl ?_
    refine p_callVv C (As := []) (i := 236) kd_236 (hid 236 (by decide)) ⟨_, _, rfl⟩ (by decide) h (fun _ e => Z_X12_copies hid e) mi_X12_copies ml_RX12_311 rfl rfl (Nat.le_of_ble_eq_true rfl) (Nat.le_of_ble_eq_true rfl) (Nat.le_of_ble_eq_true rfl) dX12_use_11 (fun σ3 h => ?_)
    refine a_aload_n C dX12_use_14 (i := 0) rfl rfl ?_
    refine a_iload_n C dX12_use_15 (i := 1) rfl rfl ?_
    refine p_callVv C (As := [.int x1]) (i := 236) kd_236 (hid 236 (by decide)) ⟨_, _, rfl⟩ (by decide) h (fun _ e => Z_X12_uses hid e) mi_X12_uses ml_RX12_399 rfl rfl (Nat.le_of_ble_eq_true rfl) (Nat.le_of_ble_eq_true rfl) (Nat.le_of_ble_eq_true rfl) dX12_use_16 (fun σ5 h => ?_)
    refine a_aload_n C dX12_use_19 (i := 0) rfl rfl ?_
    refine p_callVv C (As := []) (i := 236) kd_236 (hid 236 (by decide)) ⟨_, _, rfl⟩ (by decide) h (fun _ e => Z_X12_records hid e) mi_X12_records ml_RX12_396 rfl rfl (Nat.le_of_ble_eq_true rfl) (Nat.le_of_ble_eq_true rfl) (Nat.le_of_ble_eq_true rfl) dX12_use_20 (fun σ7 h => ?_)
    refine a_iconst C dX12_use_23 (v := 1) rfl ?_
    exact a_iret Rt dX12_use_24 (nar_z (by decide)).1 (ret_eq (h.trans (congrArg some hR.symm)))
  ·
    refine a_iconst C dX12_use_8 (v := 0) rfl ?_
    exact a_iret Rt dX12_use_9 (nar_z (by decide)).1 (ret_eq (h.trans (congrArg some hR.symm)))
set_option maxHeartbeats 4000000 in
set_option maxRecDepth 100000 in
theorem Z_X12_set {l : Launch} {D : va_G} {ids : List Nat} {ad : Nat → Nat} {ca : Nat → ClassId} {σ : HS} {x1 : Int32} {r0 : Int32} {s0 : HS} (hid : ∀ i, i < 277 → i ∈ ids) (h : f_X12_set x1 σ = some (r0, s0)) : Ki l D ids ad ca yX12_set cX12_set 2 .boolean 2 42 [.ref (ad 236), .int x1] σ (fun r σ1 => r = r0 ∧ σ1 = s0) := by
  obtain ⟨R, hR⟩ : ∃ R, (r0, s0) = R := ⟨_, rfl⟩
  replace h := h.trans (congrArg some hR)
  refine Ki.of (by decide) (Nat.le_of_ble_eq_true rfl) 0 (fun Γ C Rt => ?_)
  show AW ids ad ca Γ 0 [some (.ref (ad 236)), some (.int x1)] [] σ
  unfold f_X12_set at h
  refine a_iload_n C dX12_set_0 (i := 1) rfl rfl ?_
  refine a_iconst C dX12_set_1 (v := 0) rfl ?_
  refine a_bipush C dX12_set_2 (v := 9) rfl ?_
  refine p_callSi C (As := [.int x1, .int 0, .int 9]) h (fun _ _ e => Z_X12_in hid e) ms_X12_in ml_RX12_301 rfl rfl (Nat.le_of_ble_eq_true rfl) (Nat.le_of_ble_eq_true rfl) (Nat.le_of_ble_eq_true rfl) dX12_set_4 (fun r2 σ1 h => ?_)
  refine p_if_eq C (X := r2.toInt) rfl dX12_set_7 (tgt := 21) rfl h (fun h => ?_) (fun h => ?_)
  ·
    refine a_iconst C dX12_set_21 (v := 0) rfl ?_
    exact a_iret Rt dX12_set_22 (nar_z (by decide)).1 (ret_eq (h.trans (congrArg some hR.symm)))
  ·
    refine a_aload_n C dX12_set_10 (i := 0) rfl rfl ?_
    refine a_get C fl_RX12_107 (i := 236) kd_236 (hid 236 (by decide)) (v := .ref (ad 266)) rfl dX12_set_11 ?_
    refine a_bipush C dX12_set_14 (v := 28) rfl ?_
    refine p_ialdc C (i := 266) 28 (show rowOK 266 from ⟨kd_266, by decide⟩) hid (by decide) (by rw [al_266]; decide) dX12_set_16 ?_
    refine a_iload_n C dX12_set_17 (i := 1) rfl rfl ?_
    refine p_ic_ne C (X := (σ1.1 266 28).toInt) (Y := x1.toInt) rfl rfl dX12_set_18 (tgt := 23) rfl h (fun h => ?_) (fun h => ?_)
    ·
      refine a_aload_n C dX12_set_23 (i := 0) rfl rfl ?_
      refine p_callVv C (As := []) (i := 236) kd_236 (hid 236 (by decide)) ⟨_, _, rfl⟩ (by decide) h (fun _ e => Z_X12_copies hid e) mi_X12_copies ml_RX12_311 rfl rfl (Nat.le_of_ble_eq_true rfl) (Nat.le_of_ble_eq_true rfl) (Nat.le_of_ble_eq_true rfl) dX12_set_24 (fun σ3 h => ?_)
      refine a_aload_n C dX12_set_27 (i := 0) rfl rfl ?_
      refine a_get C fl_RX12_110 (i := 236) kd_236 (hid 236 (by decide)) (v := .ref (ad 267)) rfl dX12_set_28 ?_
      refine a_bipush C dX12_set_31 (v := 28) rfl ?_
      refine a_iload_n C dX12_set_33 (i := 1) rfl rfl ?_
      refine p_iastc C (i := 267) 28 (show rowOK 267 from ⟨kd_267, by decide⟩) hid (by decide) (by rw [al_267]; decide) dX12_set_34 h (fun σ5 h => ?_)
      refine a_aload_n C dX12_set_35 (i := 0) rfl rfl ?_
      refine p_callVv C (As := []) (i := 236) kd_236 (hid 236 (by decide)) ⟨_, _, rfl⟩ (by decide) h (fun _ e => Z_X12_records hid e) mi_X12_records ml_RX12_396 rfl rfl (Nat.le_of_ble_eq_true rfl) (Nat.le_of_ble_eq_true rfl) (Nat.le_of_ble_eq_true rfl) dX12_set_36 (fun σ6 h => ?_)
      refine a_iconst C dX12_set_39 (v := 1) rfl ?_
      exact a_iret Rt dX12_set_40 (nar_z (by decide)).1 (ret_eq (h.trans (congrArg some hR.symm)))
    ·
      refine a_iconst C dX12_set_21 (v := 0) rfl ?_
      exact a_iret Rt dX12_set_22 (nar_z (by decide)).1 (ret_eq (h.trans (congrArg some hR.symm)))
set_option maxHeartbeats 4000000 in
set_option maxRecDepth 100000 in
theorem Z_X12_isLong {l : Launch} {D : va_G} {ids : List Nat} {ad : Nat → Nat} {ca : Nat → ClassId} {σ : HS} {x1 : Int32} {r0 : Int32} {s0 : HS} (hid : ∀ i, i < 277 → i ∈ ids) (h : f_X12_isLong x1 σ = some (r0, s0)) : Ki l D ids ad ca yX12_isLong cX12_isLong 1 .boolean 1 22 [.int x1] σ (fun r σ1 => r = r0 ∧ σ1 = s0) := by
  obtain ⟨R, hR⟩ : ∃ R, (r0, s0) = R := ⟨_, rfl⟩
  replace h := h.trans (congrArg some hR)
  refine Ki.of (by decide) (Nat.le_of_ble_eq_true rfl) 0 (fun Γ C Rt => ?_)
  show AW ids ad ca Γ 0 [some (.int x1)] [] σ
  unfold f_X12_isLong at h
  refine a_iload_n C dX12_isLong_0 (i := 0) rfl rfl ?_
  refine a_iconst C dX12_isLong_1 (v := 0) rfl ?_
  refine a_bipush C dX12_isLong_2 (v := 60) rfl ?_
  refine p_callSi C (As := [.int x1, .int 0, .int 60]) h (fun _ _ e => Z_X12_in hid e) ms_X12_in ml_RX12_301 rfl rfl (Nat.le_of_ble_eq_true rfl) (Nat.le_of_ble_eq_true rfl) (Nat.le_of_ble_eq_true rfl) dX12_isLong_4 (fun r2 σ1 h => ?_)
  refine ite_n h (fun c h => ?_)
  exact a_iret Rt dX12_isLong_7 (nar_z c).1 (ret_eq (h.trans (congrArg some hR.symm)))
set_option maxHeartbeats 4000000 in
set_option maxRecDepth 100000 in
theorem Z_X12_beats {l : Launch} {D : va_G} {ids : List Nat} {ad : Nat → Nat} {ca : Nat → ClassId} {σ : HS} {x1 : Int32} {r0 : Int32} {s0 : HS} (hid : ∀ i, i < 277 → i ∈ ids) (h : f_X12_beats x1 σ = some (r0, s0)) : Ki l D ids ad ca yX12_beats cX12_beats 2 .int 6 144 [.ref (ad 236), .int x1] σ (fun r σ1 => r = r0 ∧ σ1 = s0) := by
  obtain ⟨R, hR⟩ : ∃ R, (r0, s0) = R := ⟨_, rfl⟩
  replace h := h.trans (congrArg some hR)
  refine Ki.of (by decide) (Nat.le_of_ble_eq_true rfl) 0 (fun Γ C Rt => ?_)
  show AW ids ad ca Γ 0 [some (.ref (ad 236)), some (.int x1)] [] σ
  unfold f_X12_beats at h
  refine a_iload_n C dX12_beats_0 (i := 1) rfl rfl ?_
  refine p_callSi C (As := [.int x1]) h (fun _ _ e => Z_X12_isLong hid e) ms_X12_isLong ml_RX12_402 rfl rfl (Nat.le_of_ble_eq_true rfl) (Nat.le_of_ble_eq_true rfl) (Nat.le_of_ble_eq_true rfl) dX12_beats_1 (fun r2 σ1 h => ?_)
  refine p_if_ne C (X := r2.toInt) rfl dX12_beats_4 (tgt := 9) rfl h (fun h => ?_) (fun h => ?_)
  ·
    refine a_iload_n C dX12_beats_9 (i := 1) rfl rfl ?_
    refine p_if_ne C (X := x1.toInt) rfl dX12_beats_10 (tgt := 21) rfl h (fun h => ?_) (fun h => ?_)
    ·
      refine a_aload_n C dX12_beats_21 (i := 0) rfl rfl ?_
      refine p_callVv C (As := []) (i := 236) kd_236 (hid 236 (by decide)) ⟨_, _, rfl⟩ (by decide) h (fun _ e => Z_X12_copies hid e) mi_X12_copies ml_RX12_311 rfl rfl (Nat.le_of_ble_eq_true rfl) (Nat.le_of_ble_eq_true rfl) (Nat.le_of_ble_eq_true rfl) dX12_beats_22 (fun σ3 h => ?_)
      refine a_aload_n C dX12_beats_25 (i := 0) rfl rfl ?_
      refine a_iload_n C dX12_beats_26 (i := 1) rfl rfl ?_
      refine p_callVv C (As := [.int x1]) (i := 236) kd_236 (hid 236 (by decide)) ⟨_, _, rfl⟩ (by decide) h (fun _ e => Z_X12_goes hid e) mi_X12_goes ml_RX12_405 rfl rfl (Nat.le_of_ble_eq_true rfl) (Nat.le_of_ble_eq_true rfl) (Nat.le_of_ble_eq_true rfl) dX12_beats_27 (fun σ5 h => ?_)
      refine a_aload_n C dX12_beats_30 (i := 0) rfl rfl ?_
      refine p_callVv C (As := []) (i := 236) kd_236 (hid 236 (by decide)) ⟨_, _, rfl⟩ (by decide) h (fun _ e => Z_X12_records hid e) mi_X12_records ml_RX12_396 rfl rfl (Nat.le_of_ble_eq_true rfl) (Nat.le_of_ble_eq_true rfl) (Nat.le_of_ble_eq_true rfl) dX12_beats_31 (fun σ7 h => ?_)
      refine a_aload_n C dX12_beats_34 (i := 0) rfl rfl ?_
      refine a_get C fl_RX12_107 (i := 236) kd_236 (hid 236 (by decide)) (v := .ref (ad 266)) rfl dX12_beats_35 ?_
      refine a_bipush C dX12_beats_38 (v := 21) rfl ?_
      refine p_ialdc C (i := 266) 21 (show rowOK 266 from ⟨kd_266, by decide⟩) hid (by decide) (by rw [al_266]; decide) dX12_beats_40 ?_
      exact a_iret Rt dX12_beats_41 rfl (ret_eq (h.trans (congrArg some hR.symm)))
    ·
      refine a_aload_n C dX12_beats_13 (i := 0) rfl rfl ?_
      refine a_get C fl_RX12_107 (i := 236) kd_236 (hid 236 (by decide)) (v := .ref (ad 266)) rfl dX12_beats_14 ?_
      refine a_bipush C dX12_beats_17 (v := 21) rfl ?_
      refine p_ialdc C (i := 266) 21 (show rowOK 266 from ⟨kd_266, by decide⟩) hid (by decide) (by rw [al_266]; decide) dX12_beats_19 ?_
      exact a_iret Rt dX12_beats_20 rfl (ret_eq (h.trans (congrArg some hR.symm)))
  ·
    refine a_iconst C dX12_beats_7 (v := (-1)) rfl ?_
    exact a_iret Rt dX12_beats_8 rfl (ret_eq (h.trans (congrArg some hR.symm)))
set_option maxHeartbeats 4000000 in
set_option maxRecDepth 100000 in
theorem Z_X12_undo {l : Launch} {D : va_G} {ids : List Nat} {ad : Nat → Nat} {ca : Nat → ClassId} {σ : HS} {r0 : Int32} {s0 : HS} (hid : ∀ i, i < 277 → i ∈ ids) (h : f_X12_undo σ = some (r0, s0)) : Ki l D ids ad ca yX12_undo cX12_undo 2 .boolean 0 0 [.ref (ad 236)] σ (fun r σ1 => r = r0 ∧ σ1 = s0) := by
  obtain ⟨R, hR⟩ : ∃ R, (r0, s0) = R := ⟨_, rfl⟩
  replace h := h.trans (congrArg some hR)
  refine Ki.of (by decide) (Nat.le_of_ble_eq_true rfl) 1 (fun Γ C Rt => ?_)
  show AW ids ad ca Γ 0 [some (.ref (ad 236)), none] [] σ
  unfold f_X12_undo at h
  have j21 : ∀ (n : Nat) (y1 : Int32) (σ : HS), f_X12_undo_21 n y1 σ = some R → AW ids ad ca Γ 21 [some (.ref (ad 236)), some (.int y1)] [] σ := by
    intro n
    induction n with
    | zero => intro y1 σ h; exact nn h
    | succ n ih =>
      intro y1 σ h
      have h : b_X12_undo_21 (f_X12_undo_21 n) y1 σ = some R := h
      unfold b_X12_undo_21 at h
      refine a_iload_n C dX12_undo_21 (i := 1) rfl rfl ?_
      refine a_bipush C dX12_undo_22 (v := 29) rfl ?_
      refine p_ic_ge C (X := y1.toInt) (Y := 29) rfl (by decide) dX12_undo_24 (tgt := 53) rfl h (fun h => ?_) (fun h => ?_)
      ·
        refine a_iconst C dX12_undo_53 (v := 1) rfl ?_
        exact a_iret Rt dX12_undo_54 (nar_z (by decide)).1 (ret_eq (h.trans (congrArg some hR.symm)))
      ·
        refine a_aload_n C dX12_undo_27 (i := 0) rfl rfl ?_
        refine a_get C fl_RX12_107 (i := 236) kd_236 (hid 236 (by decide)) (v := .ref (ad 266)) rfl dX12_undo_28 ?_
        refine a_iload_n C dX12_undo_31 (i := 1) rfl rfl ?_
        refine a_aload_n C dX12_undo_32 (i := 0) rfl rfl ?_
        refine a_get C fl_RX12_113 (i := 236) kd_236 (hid 236 (by decide)) (v := .ref (ad 268)) rfl dX12_undo_33 ?_
        refine a_bipush C dX12_undo_36 (v := 29) rfl ?_
        refine a_aload_n C dX12_undo_38 (i := 0) rfl rfl ?_
        refine a_get C fl_RX12_239 (i := 236) kd_236 (hid 236 (by decide)) (v := .int (σ.1 236 54)) rfl dX12_undo_39 ?_
        refine a_imul C dX12_undo_42 ?_
        refine a_iload_n C dX12_undo_43 (i := 1) rfl rfl ?_
        refine a_iadd C dX12_undo_44 ?_
        refine p_iald C (i := 268) (show rowOK 268 from ⟨kd_268, by decide⟩) hid (by rw [al_268]; rfl) dX12_undo_45 h (fun h => ?_)
        refine p_iast C (i := 266) (show rowOK 266 from ⟨kd_266, by decide⟩) hid (by rw [al_266]; rfl) dX12_undo_46 h (fun σ1 h => ?_)
        refine p_iinc C (y := (y1 + 1)) (fun z2 => [some (.ref (ad 236)), some (.int z2)]) dX12_undo_47 rfl rfl (by decide) rfl (fun _ => rfl) h (fun z2 h => ?_)
        refine a_goto C dX12_undo_50 (tgt := 21) rfl ?_
        exact ih _ _ h
  refine a_aload_n C dX12_undo_0 (i := 0) rfl rfl ?_
  refine a_get C fl_RX12_239 (i := 236) kd_236 (hid 236 (by decide)) (v := .int (σ.1 236 54)) rfl dX12_undo_1 ?_
  refine p_if_ne C (X := (σ.1 236 54).toInt) rfl dX12_undo_4 (tgt := 9) rfl h (fun h => ?_) (fun h => ?_)
  ·
    refine a_aload_n C dX12_undo_9 (i := 0) rfl rfl ?_
    refine a_dup C dX12_undo_10 rfl ?_
    refine a_get C fl_RX12_239 (i := 236) kd_236 (hid 236 (by decide)) (v := .int (σ.1 236 54)) rfl dX12_undo_11 ?_
    refine a_iconst C dX12_undo_14 (v := 1) rfl ?_
    refine a_isub C dX12_undo_15 ?_
    refine p_put C fp_RX12_239 (i := 236) kd_236 (hid 236 (by decide)) rfl rfl dX12_undo_16 h (fun σ1 h => ?_)
    refine a_iconst C dX12_undo_19 (v := 0) rfl ?_
    refine a_istore_n C dX12_undo_20 (i := 1) rfl (by decide) rfl (vs1 := [some (.ref (ad 236)), some (.int 0)]) rfl ?_
    exact j21 _ _ _ h
  ·
    refine a_iconst C dX12_undo_7 (v := 0) rfl ?_
    exact a_iret Rt dX12_undo_8 (nar_z (by decide)).1 (ret_eq (h.trans (congrArg some hR.symm)))
set_option maxHeartbeats 4000000 in
set_option maxRecDepth 100000 in
theorem Z_X12_takesPattern {l : Launch} {D : va_G} {ids : List Nat} {ad : Nat → Nat} {ca : Nat → ClassId} {σ : HS} {x1 : Int32} {x2 : Int32} {s0 : HS} (hid : ∀ i, i < 277 → i ∈ ids) (h : f_X12_takesPattern x1 x2 σ = some s0) : Kv l D ids ad ca yX12_takesPattern cX12_takesPattern 4 2 43 [.ref (ad 236), .int x1, .int x2] σ (fun σ1 => σ1 = s0) := by
  obtain ⟨R, hR⟩ : ∃ R, s0 = R := ⟨_, rfl⟩
  replace h := h.trans (congrArg some hR)
  refine Kv.of (by decide) (Nat.le_of_ble_eq_true rfl) 1 (fun Γ C Rt => ?_)
  show AW ids ad ca Γ 0 [some (.ref (ad 236)), some (.int x1), some (.int x2), none] [] σ
  unfold f_X12_takesPattern at h
  have j2 : ∀ (n : Nat) (y1 : Int32) (y2 : Int32) (y3 : Int32) (σ : HS), f_X12_takesPattern_2 n y1 y2 y3 σ = some R → AW ids ad ca Γ 2 [some (.ref (ad 236)), some (.int y1), some (.int y2), some (.int y3)] [] σ := by
    intro n
    induction n with
    | zero => intro y1 y2 y3 σ h; exact nn h
    | succ n ih =>
      intro y1 y2 y3 σ h
      have h : b_X12_takesPattern_2 (f_X12_takesPattern_2 n) y1 y2 y3 σ = some R := h
      unfold b_X12_takesPattern_2 at h
      refine a_iload_n C dX12_takesPattern_2 (i := 3) rfl rfl ?_
      refine a_aload_n C dX12_takesPattern_3 (i := 0) rfl rfl ?_
      refine a_iload_n C dX12_takesPattern_4 (i := 1) rfl rfl ?_
      refine p_callVi C (As := [.int y1]) (i := 236) kd_236 (hid 236 (by decide)) ⟨_, _, rfl⟩ (by decide) h (fun _ _ e => Z_X12_lengthOf hid e) mi_X12_lengthOf ml_RX12_318 rfl rfl (Nat.le_of_ble_eq_true rfl) (Nat.le_of_ble_eq_true rfl) (Nat.le_of_ble_eq_true rfl) dX12_takesPattern_5 (fun r2 σ1 h => ?_)
      refine p_ic_ge C (X := y3.toInt) (Y := r2.toInt) rfl rfl dX12_takesPattern_8 (tgt := 31) rfl h (fun h => ?_) (fun h => ?_)
      ·
        refine a_aload_n C dX12_takesPattern_31 (i := 0) rfl rfl ?_
        refine a_iload_n C dX12_takesPattern_32 (i := 2) rfl rfl ?_
        refine a_aload_n C dX12_takesPattern_33 (i := 0) rfl rfl ?_
        refine a_iload_n C dX12_takesPattern_34 (i := 1) rfl rfl ?_
        refine p_callVi C (As := [.int y1]) (i := 236) kd_236 (hid 236 (by decide)) ⟨_, _, rfl⟩ (by decide) h (fun _ _ e => Z_X12_lengthOf hid e) mi_X12_lengthOf ml_RX12_318 rfl rfl (Nat.le_of_ble_eq_true rfl) (Nat.le_of_ble_eq_true rfl) (Nat.le_of_ble_eq_true rfl) dX12_takesPattern_35 (fun r4 σ3 h => ?_)
        refine a_iadd C dX12_takesPattern_38 ?_
        refine p_put C fp_RX12_408 (i := 236) kd_236 (hid 236 (by decide)) rfl rfl dX12_takesPattern_39 h (fun σ5 h => ?_)
        exact a_vret Rt dX12_takesPattern_42 (retv_eq (h.trans (congrArg some hR.symm)))
      ·
        refine a_aload_n C dX12_takesPattern_11 (i := 0) rfl rfl ?_
        refine a_get C fl_RX12_116 (i := 236) kd_236 (hid 236 (by decide)) (v := .ref (ad 269)) rfl dX12_takesPattern_12 ?_
        refine a_iload_n C dX12_takesPattern_15 (i := 2) rfl rfl ?_
        refine a_iload_n C dX12_takesPattern_16 (i := 3) rfl rfl ?_
        refine a_iadd C dX12_takesPattern_17 ?_
        refine a_aload_n C dX12_takesPattern_18 (i := 0) rfl rfl ?_
        refine a_iload_n C dX12_takesPattern_19 (i := 1) rfl rfl ?_
        refine a_iload_n C dX12_takesPattern_20 (i := 3) rfl rfl ?_
        refine p_callVi C (As := [.int y1, .int y3]) (i := 236) kd_236 (hid 236 (by decide)) ⟨_, _, rfl⟩ (by decide) h (fun _ _ e => Z_X12_heightAt hid e) mi_X12_heightAt ml_RX12_321 rfl rfl (Nat.le_of_ble_eq_true rfl) (Nat.le_of_ble_eq_true rfl) (Nat.le_of_ble_eq_true rfl) dX12_takesPattern_21 (fun r7 σ6 h => ?_)
        refine p_iast C (i := 269) (show rowOK 269 from ⟨kd_269, by decide⟩) hid (by rw [al_269]; rfl) dX12_takesPattern_24 h (fun σ8 h => ?_)
        refine p_iinc C (y := (y3 + 1)) (fun z9 => [some (.ref (ad 236)), some (.int y1), some (.int y2), some (.int z9)]) dX12_takesPattern_25 rfl rfl (by decide) rfl (fun _ => rfl) h (fun z9 h => ?_)
        refine a_goto C dX12_takesPattern_28 (tgt := 2) rfl ?_
        exact ih _ _ _ _ h
  refine a_iconst C dX12_takesPattern_0 (v := 0) rfl ?_
  refine a_istore_n C dX12_takesPattern_1 (i := 3) rfl (by decide) rfl (vs1 := [some (.ref (ad 236)), some (.int x1), some (.int x2), some (.int 0)]) rfl ?_
  exact j2 _ _ _ _ _ h

set_option maxHeartbeats 4000000 in
set_option maxRecDepth 100000 in
theorem Z_X12_keeps {l : Launch} {D : va_G} {ids : List Nat} {ad : Nat → Nat} {ca : Nat → ClassId} {σ : HS} {r0 : Int32} {s0 : HS} (hid : ∀ i, i < 277 → i ∈ ids) (h : f_X12_keeps σ = some (r0, s0)) : Ki l D ids ad ca yX12_keeps cX12_keeps 5 .int 0 0 [.ref (ad 236)] σ (fun r σ1 => r = r0 ∧ σ1 = s0) := by
  obtain ⟨R, hR⟩ : ∃ R, (r0, s0) = R := ⟨_, rfl⟩
  replace h := h.trans (congrArg some hR)
  refine Ki.of (by decide) (Nat.le_of_ble_eq_true rfl) 4 (fun Γ C Rt => ?_)
  show AW ids ad ca Γ 0 [some (.ref (ad 236)), none, none, none, none] [] σ
  unfold f_X12_keeps at h
  have j6 : ∀ (n : Nat) (y1 : Int32) (y2 : Int32) (y3 : Int32) (σ : HS), f_X12_keeps_6 n y1 y2 y3 σ = some R → AW ids ad ca Γ 6 [some (.ref (ad 236)), some (.int y1), some (.int y2), some (.int y3), none] [] σ := by
    intro n
    induction n with
    | zero => intro y1 y2 y3 σ h; exact nn h
    | succ n ih =>
      intro y1 y2 y3 σ h
      have h : b_X12_keeps_6 (f_X12_keeps_6 n) y1 y2 y3 σ = some R := h
      unfold b_X12_keeps_6 at h
      refine a_iload_n C dX12_keeps_6 (i := 3) rfl rfl ?_
      refine a_aload_n C dX12_keeps_7 (i := 0) rfl rfl ?_
      refine a_get C fl_RX12_408 (i := 236) kd_236 (hid 236 (by decide)) (v := .int (σ.1 236 57)) rfl dX12_keeps_8 ?_
      refine p_ic_ge C (X := y3.toInt) (Y := (σ.1 236 57).toInt) rfl rfl dX12_keeps_11 (tgt := 64) rfl h (fun h => ?_) (fun h => ?_)
      ·
        refine a_iload_n C dX12_keeps_64 (i := 2) rfl rfl ?_
        refine a_aload_n C dX12_keeps_65 (i := 0) rfl rfl ?_
        refine a_get C fl_RX12_408 (i := 236) kd_236 (hid 236 (by decide)) (v := .int (σ.1 236 57)) rfl dX12_keeps_66 ?_
        refine p_idiv C rfl dX12_keeps_69 h (fun h => ?_)
        exact a_iret Rt dX12_keeps_70 rfl (ret_eq (h.trans (congrArg some hR.symm)))
      ·
        refine a_iload_n C dX12_keeps_14 (i := 3) rfl rfl ?_
        refine a_aload_n C dX12_keeps_15 (i := 0) rfl rfl ?_
        refine a_get C fl_RX12_116 (i := 236) kd_236 (hid 236 (by decide)) (v := .ref (ad 269)) rfl dX12_keeps_16 ?_
        refine a_iload_n C dX12_keeps_19 (i := 3) rfl rfl ?_
        refine p_iald C (i := 269) (show rowOK 269 from ⟨kd_269, by decide⟩) hid (by rw [al_269]; rfl) dX12_keeps_20 h (fun h => ?_)
        refine a_iadd C dX12_keeps_21 ?_
        refine a_aload_n C dX12_keeps_22 (i := 0) rfl rfl ?_
        refine a_get C fl_RX12_408 (i := 236) kd_236 (hid 236 (by decide)) (v := .int (σ.1 236 57)) rfl dX12_keeps_23 ?_
        refine p_irem C rfl dX12_keeps_26 h (fun h => ?_)
        refine p_istore C (fun z1 => [some (.ref (ad 236)), some (.int y1), some (.int y2), some (.int y3), some (.int z1)]) dX12_keeps_27 (by decide) rfl (fun _ => rfl) h (fun z1 h => ?_)
        refine a_iload_n C dX12_keeps_29 (i := 1) rfl rfl ?_
        refine a_iload C dX12_keeps_30 rfl ?_
        refine a_ishr C dX12_keeps_32 ?_
        refine a_iconst C dX12_keeps_33 (v := 1) rfl ?_
        refine a_iand C dX12_keeps_34 ?_
        refine a_iconst C dX12_keeps_35 (v := 1) rfl ?_
        refine p_ic_ne C (X := ((y1 >>> (z1 &&& 31)) &&& (1 : Int32)).toInt) (Y := 1) rfl (by decide) dX12_keeps_36 (tgt := 42) rfl h (fun h => ?_) (fun h => ?_)
        ·
          refine a_iload_n C dX12_keeps_42 (i := 1) rfl rfl ?_
          refine a_iconst C dX12_keeps_43 (v := 1) rfl ?_
          refine a_iload C dX12_keeps_44 rfl ?_
          refine a_ishl C dX12_keeps_46 ?_
          refine a_ior C dX12_keeps_47 ?_
          refine p_istore_n C (fun z2 => [some (.ref (ad 236)), some (.int z2), some (.int y2), some (.int y3), some (.int z1)]) dX12_keeps_48 (i := 1) rfl (by decide) rfl (fun _ => rfl) h (fun z2 h => ?_)
          refine a_iload_n C dX12_keeps_49 (i := 2) rfl rfl ?_
          refine a_aload_n C dX12_keeps_50 (i := 0) rfl rfl ?_
          refine a_get C fl_RX12_116 (i := 236) kd_236 (hid 236 (by decide)) (v := .ref (ad 269)) rfl dX12_keeps_51 ?_
          refine a_iload_n C dX12_keeps_54 (i := 3) rfl rfl ?_
          refine p_iald C (i := 269) (show rowOK 269 from ⟨kd_269, by decide⟩) hid (by rw [al_269]; rfl) dX12_keeps_55 h (fun h => ?_)
          refine a_iadd C dX12_keeps_56 ?_
          refine p_istore_n C (fun z3 => [some (.ref (ad 236)), some (.int z2), some (.int z3), some (.int y3), some (.int z1)]) dX12_keeps_57 (i := 2) rfl (by decide) rfl (fun _ => rfl) h (fun z3 h => ?_)
          refine p_iinc C (y := (y3 + 1)) (fun z4 => [some (.ref (ad 236)), some (.int z2), some (.int z3), some (.int z4), some (.int z1)]) dX12_keeps_58 rfl rfl (by decide) rfl (fun _ => rfl) h (fun z4 h => ?_)
          refine a_goto C dX12_keeps_61 (tgt := 6) rfl ?_
          refine AW.sub (vs' := [some (.ref (ad 236)), some (.int z2), some (.int z3), some (.int z4), none]) (lsub_of (by simp [lsubB])) ?_
          exact ih _ _ _ _ h
        ·
          refine a_bipush C dX12_keeps_39 (v := (-2)) rfl ?_
          exact a_iret Rt dX12_keeps_41 rfl (ret_eq (h.trans (congrArg some hR.symm)))
  refine a_iconst C dX12_keeps_0 (v := 0) rfl ?_
  refine a_istore_n C dX12_keeps_1 (i := 1) rfl (by decide) rfl (vs1 := [some (.ref (ad 236)), some (.int 0), none, none, none]) rfl ?_
  refine a_iconst C dX12_keeps_2 (v := 0) rfl ?_
  refine a_istore_n C dX12_keeps_3 (i := 2) rfl (by decide) rfl (vs1 := [some (.ref (ad 236)), some (.int 0), some (.int 0), none, none]) rfl ?_
  refine a_iconst C dX12_keeps_4 (v := 0) rfl ?_
  refine a_istore_n C dX12_keeps_5 (i := 3) rfl (by decide) rfl (vs1 := [some (.ref (ad 236)), some (.int 0), some (.int 0), some (.int 0), none]) rfl ?_
  exact j6 _ _ _ _ _ h
set_option maxHeartbeats 4000000 in
set_option maxRecDepth 100000 in
theorem Z_X12_keepsOf {l : Launch} {D : va_G} {ids : List Nat} {ad : Nat → Nat} {ca : Nat → ClassId} {σ : HS} {x1 : Int32} {r0 : Int32} {s0 : HS} (hid : ∀ i, i < 277 → i ∈ ids) (h : f_X12_keepsOf x1 σ = some (r0, s0)) : Ki l D ids ad ca yX12_keepsOf cX12_keepsOf 2 .int 3 66 [.ref (ad 236), .int x1] σ (fun r σ1 => r = r0 ∧ σ1 = s0) := by
  obtain ⟨R, hR⟩ : ∃ R, (r0, s0) = R := ⟨_, rfl⟩
  replace h := h.trans (congrArg some hR)
  refine Ki.of (by decide) (Nat.le_of_ble_eq_true rfl) 0 (fun Γ C Rt => ?_)
  show AW ids ad ca Γ 0 [some (.ref (ad 236)), some (.int x1)] [] σ
  unfold f_X12_keepsOf at h
  refine a_aload_n C dX12_keepsOf_0 (i := 0) rfl rfl ?_
  refine a_iload_n C dX12_keepsOf_1 (i := 1) rfl rfl ?_
  refine a_iconst C dX12_keepsOf_2 (v := 0) rfl ?_
  refine p_callVv C (As := [.int x1, .int 0]) (i := 236) kd_236 (hid 236 (by decide)) ⟨_, _, rfl⟩ (by decide) h (fun _ e => Z_X12_takesPattern hid e) mi_X12_takesPattern ml_RX12_411 rfl rfl (Nat.le_of_ble_eq_true rfl) (Nat.le_of_ble_eq_true rfl) (Nat.le_of_ble_eq_true rfl) dX12_keepsOf_3 (fun σ1 h => ?_)
  refine a_aload_n C dX12_keepsOf_6 (i := 0) rfl rfl ?_
  refine p_callVi C (As := []) (i := 236) kd_236 (hid 236 (by decide)) ⟨_, _, rfl⟩ (by decide) h (fun _ _ e => Z_X12_keeps hid e) mi_X12_keeps ml_RX12_414 rfl rfl (Nat.le_of_ble_eq_true rfl) (Nat.le_of_ble_eq_true rfl) (Nat.le_of_ble_eq_true rfl) dX12_keepsOf_7 (fun r4 σ3 h => ?_)
  exact a_iret Rt dX12_keepsOf_10 rfl (ret_eq (h.trans (congrArg some hR.symm)))
set_option maxHeartbeats 4000000 in
set_option maxRecDepth 100000 in
theorem Z_X12_told {l : Launch} {D : va_G} {ids : List Nat} {ad : Nat → Nat} {ca : Nat → ClassId} {σ : HS} {x1 : Int32} {x2 : Int32} {r0 : Int32} {s0 : HS} (hid : ∀ i, i < 277 → i ∈ ids) (h : f_X12_told x1 x2 σ = some (r0, s0)) : Ki l D ids ad ca yX12_told cX12_told 2 .int 0 0 [.int x1, .int x2] σ (fun r σ1 => r = r0 ∧ σ1 = s0) := by
  obtain ⟨R, hR⟩ : ∃ R, (r0, s0) = R := ⟨_, rfl⟩
  replace h := h.trans (congrArg some hR)
  refine Ki.of (by decide) (Nat.le_of_ble_eq_true rfl) 0 (fun Γ C Rt => ?_)
  show AW ids ad ca Γ 0 [some (.int x1), some (.int x2)] [] σ
  unfold f_X12_told at h
  refine a_iload_n C dX12_told_0 (i := 1) rfl rfl ?_
  refine a_iconst C dX12_told_1 (v := 1) rfl ?_
  refine p_ic_ne C (X := x2.toInt) (Y := 1) rfl (by decide) dX12_told_2 (tgt := 9) rfl h (fun h => ?_) (fun h => ?_)
  ·
    refine a_iload_n C dX12_told_9 (i := 0) rfl rfl ?_
    refine p_if_ge C (X := x1.toInt) rfl dX12_told_10 (tgt := 17) rfl h (fun h => ?_) (fun h => ?_)
    ·
      refine a_iconst C dX12_told_17 (v := 1) rfl ?_
      exact a_iret Rt dX12_told_18 rfl (ret_eq (h.trans (congrArg some hR.symm)))
    ·
      refine a_iconst C dX12_told_13 (v := 0) rfl ?_
      refine a_goto C dX12_told_14 (tgt := 18) rfl ?_
      exact a_iret Rt dX12_told_18 rfl (ret_eq (h.trans (congrArg some hR.symm)))
  ·
    refine a_iload_n C dX12_told_5 (i := 0) rfl rfl ?_
    refine a_goto C dX12_told_6 (tgt := 18) rfl ?_
    exact a_iret Rt dX12_told_18 rfl (ret_eq (h.trans (congrArg some hR.symm)))
set_option maxHeartbeats 4000000 in
set_option maxRecDepth 100000 in
theorem Z_X12_closes {l : Launch} {D : va_G} {ids : List Nat} {ad : Nat → Nat} {ca : Nat → ClassId} {σ : HS} {x1 : Int32} {x2 : Int32} {r0 : Int32} {s0 : HS} (hid : ∀ i, i < 277 → i ∈ ids) (h : f_X12_closes x1 x2 σ = some (r0, s0)) : Ki l D ids ad ca yX12_closes cX12_closes 3 .int 4 87 [.ref (ad 236), .int x1, .int x2] σ (fun r σ1 => r = r0 ∧ σ1 = s0) := by
  obtain ⟨R, hR⟩ : ∃ R, (r0, s0) = R := ⟨_, rfl⟩
  replace h := h.trans (congrArg some hR)
  refine Ki.of (by decide) (Nat.le_of_ble_eq_true rfl) 0 (fun Γ C Rt => ?_)
  show AW ids ad ca Γ 0 [some (.ref (ad 236)), some (.int x1), some (.int x2)] [] σ
  unfold f_X12_closes at h
  refine a_aload_n C dX12_closes_0 (i := 0) rfl rfl ?_
  refine a_iload_n C dX12_closes_1 (i := 1) rfl rfl ?_
  refine p_callVi C (As := [.int x1]) (i := 236) kd_236 (hid 236 (by decide)) ⟨_, _, rfl⟩ (by decide) h (fun _ _ e => Z_X12_isPattern hid e) mi_X12_isPattern ml_RX12_393 rfl rfl (Nat.le_of_ble_eq_true rfl) (Nat.le_of_ble_eq_true rfl) (Nat.le_of_ble_eq_true rfl) dX12_closes_2 (fun r2 σ1 h => ?_)
  refine p_if_eq C (X := r2.toInt) rfl dX12_closes_5 (tgt := 29) rfl h (fun h => ?_) (fun h => ?_)
  ·
    refine a_iconst C dX12_closes_29 (v := (-1)) rfl ?_
    exact a_iret Rt dX12_closes_30 rfl (ret_eq (h.trans (congrArg some hR.symm)))
  ·
    refine a_iload_n C dX12_closes_8 (i := 2) rfl rfl ?_
    refine a_iconst C dX12_closes_9 (v := 0) rfl ?_
    refine a_iconst C dX12_closes_10 (v := 1) rfl ?_
    refine p_callSi C (As := [.int x2, .int 0, .int 1]) h (fun _ _ e => Z_X12_in hid e) ms_X12_in ml_RX12_301 rfl rfl (Nat.le_of_ble_eq_true rfl) (Nat.le_of_ble_eq_true rfl) (Nat.le_of_ble_eq_true rfl) dX12_closes_11 (fun r4 σ3 h => ?_)
    refine p_if_eq C (X := r4.toInt) rfl dX12_closes_14 (tgt := 29) rfl h (fun h => ?_) (fun h => ?_)
    ·
      refine a_iconst C dX12_closes_29 (v := (-1)) rfl ?_
      exact a_iret Rt dX12_closes_30 rfl (ret_eq (h.trans (congrArg some hR.symm)))
    ·
      refine a_aload_n C dX12_closes_17 (i := 0) rfl rfl ?_
      refine a_iload_n C dX12_closes_18 (i := 1) rfl rfl ?_
      refine p_callVi C (As := [.int x1]) (i := 236) kd_236 (hid 236 (by decide)) ⟨_, _, rfl⟩ (by decide) h (fun _ _ e => Z_X12_keepsOf hid e) mi_X12_keepsOf ml_RX12_417 rfl rfl (Nat.le_of_ble_eq_true rfl) (Nat.le_of_ble_eq_true rfl) (Nat.le_of_ble_eq_true rfl) dX12_closes_19 (fun r6 σ5 h => ?_)
      refine a_iload_n C dX12_closes_22 (i := 2) rfl rfl ?_
      refine p_callSi C (As := [.int r6, .int x2]) h (fun _ _ e => Z_X12_told hid e) ms_X12_told ml_RX12_420 rfl rfl (Nat.le_of_ble_eq_true rfl) (Nat.le_of_ble_eq_true rfl) (Nat.le_of_ble_eq_true rfl) dX12_closes_23 (fun r8 σ7 h => ?_)
      refine a_goto C dX12_closes_26 (tgt := 30) rfl ?_
      exact a_iret Rt dX12_closes_30 rfl (ret_eq (h.trans (congrArg some hR.symm)))
set_option maxHeartbeats 4000000 in
set_option maxRecDepth 100000 in
theorem Z_X12_joined {l : Launch} {D : va_G} {ids : List Nat} {ad : Nat → Nat} {ca : Nat → ClassId} {σ : HS} {x1 : Int32} {x2 : Int32} {x3 : Int32} {r0 : Int32} {s0 : HS} (hid : ∀ i, i < 277 → i ∈ ids) (h : f_X12_joined x1 x2 x3 σ = some (r0, s0)) : Ki l D ids ad ca yX12_joined cX12_joined 4 .int 3 66 [.ref (ad 236), .int x1, .int x2, .int x3] σ (fun r σ1 => r = r0 ∧ σ1 = s0) := by
  obtain ⟨R, hR⟩ : ∃ R, (r0, s0) = R := ⟨_, rfl⟩
  replace h := h.trans (congrArg some hR)
  refine Ki.of (by decide) (Nat.le_of_ble_eq_true rfl) 0 (fun Γ C Rt => ?_)
  show AW ids ad ca Γ 0 [some (.ref (ad 236)), some (.int x1), some (.int x2), some (.int x3)] [] σ
  unfold f_X12_joined at h
  refine a_aload_n C dX12_joined_0 (i := 0) rfl rfl ?_
  refine a_iload_n C dX12_joined_1 (i := 1) rfl rfl ?_
  refine p_callVi C (As := [.int x1]) (i := 236) kd_236 (hid 236 (by decide)) ⟨_, _, rfl⟩ (by decide) h (fun _ _ e => Z_X12_isPattern hid e) mi_X12_isPattern ml_RX12_393 rfl rfl (Nat.le_of_ble_eq_true rfl) (Nat.le_of_ble_eq_true rfl) (Nat.le_of_ble_eq_true rfl) dX12_joined_2 (fun r2 σ1 h => ?_)
  refine p_if_eq C (X := r2.toInt) rfl dX12_joined_5 (tgt := 25) rfl h (fun h => ?_) (fun h => ?_)
  ·
    refine a_iconst C dX12_joined_25 (v := (-1)) rfl ?_
    exact a_iret Rt dX12_joined_26 rfl (ret_eq (h.trans (congrArg some hR.symm)))
  ·
    refine a_aload_n C dX12_joined_8 (i := 0) rfl rfl ?_
    refine a_iload_n C dX12_joined_9 (i := 2) rfl rfl ?_
    refine p_callVi C (As := [.int x2]) (i := 236) kd_236 (hid 236 (by decide)) ⟨_, _, rfl⟩ (by decide) h (fun _ _ e => Z_X12_isPattern hid e) mi_X12_isPattern ml_RX12_393 rfl rfl (Nat.le_of_ble_eq_true rfl) (Nat.le_of_ble_eq_true rfl) (Nat.le_of_ble_eq_true rfl) dX12_joined_10 (fun r4 σ3 h => ?_)
    refine p_if_eq C (X := r4.toInt) rfl dX12_joined_13 (tgt := 25) rfl h (fun h => ?_) (fun h => ?_)
    ·
      refine a_iconst C dX12_joined_25 (v := (-1)) rfl ?_
      exact a_iret Rt dX12_joined_26 rfl (ret_eq (h.trans (congrArg some hR.symm)))
    ·
      refine a_iload_n C dX12_joined_16 (i := 3) rfl rfl ?_
      refine a_iconst C dX12_joined_17 (v := 0) rfl ?_
      refine a_iconst C dX12_joined_18 (v := 1) rfl ?_
      refine p_callSi C (As := [.int x3, .int 0, .int 1]) h (fun _ _ e => Z_X12_in hid e) ms_X12_in ml_RX12_301 rfl rfl (Nat.le_of_ble_eq_true rfl) (Nat.le_of_ble_eq_true rfl) (Nat.le_of_ble_eq_true rfl) dX12_joined_19 (fun r6 σ5 h => ?_)
      refine p_if_ne C (X := r6.toInt) rfl dX12_joined_22 (tgt := 27) rfl h (fun h => ?_) (fun h => ?_)
      ·
        refine a_aload_n C dX12_joined_27 (i := 0) rfl rfl ?_
        refine a_iload_n C dX12_joined_28 (i := 1) rfl rfl ?_
        refine a_iconst C dX12_joined_29 (v := 0) rfl ?_
        refine p_callVv C (As := [.int x1, .int 0]) (i := 236) kd_236 (hid 236 (by decide)) ⟨_, _, rfl⟩ (by decide) h (fun _ e => Z_X12_takesPattern hid e) mi_X12_takesPattern ml_RX12_411 rfl rfl (Nat.le_of_ble_eq_true rfl) (Nat.le_of_ble_eq_true rfl) (Nat.le_of_ble_eq_true rfl) dX12_joined_30 (fun σ7 h => ?_)
        refine a_aload_n C dX12_joined_33 (i := 0) rfl rfl ?_
        refine a_iload_n C dX12_joined_34 (i := 2) rfl rfl ?_
        refine a_aload_n C dX12_joined_35 (i := 0) rfl rfl ?_
        refine a_iload_n C dX12_joined_36 (i := 1) rfl rfl ?_
        refine p_callVi C (As := [.int x1]) (i := 236) kd_236 (hid 236 (by decide)) ⟨_, _, rfl⟩ (by decide) h (fun _ _ e => Z_X12_lengthOf hid e) mi_X12_lengthOf ml_RX12_318 rfl rfl (Nat.le_of_ble_eq_true rfl) (Nat.le_of_ble_eq_true rfl) (Nat.le_of_ble_eq_true rfl) dX12_joined_37 (fun r10 σ9 h => ?_)
        refine p_callVv C (As := [.int x2, .int r10]) (i := 236) kd_236 (hid 236 (by decide)) ⟨_, _, rfl⟩ (by decide) h (fun _ e => Z_X12_takesPattern hid e) mi_X12_takesPattern ml_RX12_411 rfl rfl (Nat.le_of_ble_eq_true rfl) (Nat.le_of_ble_eq_true rfl) (Nat.le_of_ble_eq_true rfl) dX12_joined_40 (fun σ11 h => ?_)
        refine a_aload_n C dX12_joined_43 (i := 0) rfl rfl ?_
        refine p_callVi C (As := []) (i := 236) kd_236 (hid 236 (by decide)) ⟨_, _, rfl⟩ (by decide) h (fun _ _ e => Z_X12_keeps hid e) mi_X12_keeps ml_RX12_414 rfl rfl (Nat.le_of_ble_eq_true rfl) (Nat.le_of_ble_eq_true rfl) (Nat.le_of_ble_eq_true rfl) dX12_joined_44 (fun r14 σ13 h => ?_)
        refine a_iload_n C dX12_joined_47 (i := 3) rfl rfl ?_
        refine p_callSi C (As := [.int r14, .int x3]) h (fun _ _ e => Z_X12_told hid e) ms_X12_told ml_RX12_420 rfl rfl (Nat.le_of_ble_eq_true rfl) (Nat.le_of_ble_eq_true rfl) (Nat.le_of_ble_eq_true rfl) dX12_joined_48 (fun r16 σ15 h => ?_)
        exact a_iret Rt dX12_joined_51 rfl (ret_eq (h.trans (congrArg some hR.symm)))
      ·
        refine a_iconst C dX12_joined_25 (v := (-1)) rfl ?_
        exact a_iret Rt dX12_joined_26 rfl (ret_eq (h.trans (congrArg some hR.symm)))
set_option maxHeartbeats 4000000 in
set_option maxRecDepth 100000 in
theorem Z_X12_isTurned {l : Launch} {D : va_G} {ids : List Nat} {ad : Nat → Nat} {ca : Nat → ClassId} {σ : HS} {x1 : Int32} {x2 : Int32} {x3 : Int32} {r0 : Int32} {s0 : HS} (hid : ∀ i, i < 277 → i ∈ ids) (h : f_X12_isTurned x1 x2 x3 σ = some (r0, s0)) : Ki l D ids ad ca yX12_isTurned cX12_isTurned 5 .boolean 2 43 [.ref (ad 236), .int x1, .int x2, .int x3] σ (fun r σ1 => r = r0 ∧ σ1 = s0) := by
  obtain ⟨R, hR⟩ : ∃ R, (r0, s0) = R := ⟨_, rfl⟩
  replace h := h.trans (congrArg some hR)
  refine Ki.of (by decide) (Nat.le_of_ble_eq_true rfl) 1 (fun Γ C Rt => ?_)
  show AW ids ad ca Γ 0 [some (.ref (ad 236)), some (.int x1), some (.int x2), some (.int x3), none] [] σ
  unfold f_X12_isTurned at h
  have j3 : ∀ (n : Nat) (y1 : Int32) (y2 : Int32) (y3 : Int32) (y4 : Int32) (σ : HS), f_X12_isTurned_3 n y1 y2 y3 y4 σ = some R → AW ids ad ca Γ 3 [some (.ref (ad 236)), some (.int y1), some (.int y2), some (.int y3), some (.int y4)] [] σ := by
    intro n
    induction n with
    | zero => intro y1 y2 y3 y4 σ h; exact nn h
    | succ n ih =>
      intro y1 y2 y3 y4 σ h
      have h : b_X12_isTurned_3 (f_X12_isTurned_3 n) y1 y2 y3 y4 σ = some R := h
      unfold b_X12_isTurned_3 at h
      refine a_iload C dX12_isTurned_3 rfl ?_
      refine a_aload_n C dX12_isTurned_5 (i := 0) rfl rfl ?_
      refine a_iload_n C dX12_isTurned_6 (i := 1) rfl rfl ?_
      refine p_callVi C (As := [.int y1]) (i := 236) kd_236 (hid 236 (by decide)) ⟨_, _, rfl⟩ (by decide) h (fun _ _ e => Z_X12_lengthOf hid e) mi_X12_lengthOf ml_RX12_318 rfl rfl (Nat.le_of_ble_eq_true rfl) (Nat.le_of_ble_eq_true rfl) (Nat.le_of_ble_eq_true rfl) dX12_isTurned_7 (fun r2 σ1 h => ?_)
      refine p_ic_ge C (X := y4.toInt) (Y := r2.toInt) rfl rfl dX12_isTurned_10 (tgt := 40) rfl h (fun h => ?_) (fun h => ?_)
      ·
        refine a_iconst C dX12_isTurned_40 (v := 1) rfl ?_
        exact a_iret Rt dX12_isTurned_41 (nar_z (by decide)).1 (ret_eq (h.trans (congrArg some hR.symm)))
      ·
        refine a_aload_n C dX12_isTurned_13 (i := 0) rfl rfl ?_
        refine a_iload_n C dX12_isTurned_14 (i := 1) rfl rfl ?_
        refine a_iload C dX12_isTurned_15 rfl ?_
        refine a_iload_n C dX12_isTurned_17 (i := 3) rfl rfl ?_
        refine a_iadd C dX12_isTurned_18 ?_
        refine p_callVi C (As := [.int y1, .int (y4 + y3)]) (i := 236) kd_236 (hid 236 (by decide)) ⟨_, _, rfl⟩ (by decide) h (fun _ _ e => Z_X12_heightAt hid e) mi_X12_heightAt ml_RX12_321 rfl rfl (Nat.le_of_ble_eq_true rfl) (Nat.le_of_ble_eq_true rfl) (Nat.le_of_ble_eq_true rfl) dX12_isTurned_19 (fun r4 σ3 h => ?_)
        refine a_aload_n C dX12_isTurned_22 (i := 0) rfl rfl ?_
        refine a_iload_n C dX12_isTurned_23 (i := 2) rfl rfl ?_
        refine a_iload C dX12_isTurned_24 rfl ?_
        refine p_callVi C (As := [.int y2, .int y4]) (i := 236) kd_236 (hid 236 (by decide)) ⟨_, _, rfl⟩ (by decide) h (fun _ _ e => Z_X12_heightAt hid e) mi_X12_heightAt ml_RX12_321 rfl rfl (Nat.le_of_ble_eq_true rfl) (Nat.le_of_ble_eq_true rfl) (Nat.le_of_ble_eq_true rfl) dX12_isTurned_26 (fun r6 σ5 h => ?_)
        refine p_ic_eq C (X := r4.toInt) (Y := r6.toInt) rfl rfl dX12_isTurned_29 (tgt := 34) rfl h (fun h => ?_) (fun h => ?_)
        ·
          refine p_iinc C (y := (y4 + 1)) (fun z7 => [some (.ref (ad 236)), some (.int y1), some (.int y2), some (.int y3), some (.int z7)]) dX12_isTurned_34 rfl rfl (by decide) rfl (fun _ => rfl) h (fun z7 h => ?_)
          refine a_goto C dX12_isTurned_37 (tgt := 3) rfl ?_
          exact ih _ _ _ _ _ h
        ·
          refine a_iconst C dX12_isTurned_32 (v := 0) rfl ?_
          exact a_iret Rt dX12_isTurned_33 (nar_z (by decide)).1 (ret_eq (h.trans (congrArg some hR.symm)))
  refine a_iconst C dX12_isTurned_0 (v := 0) rfl ?_
  refine a_istore C dX12_isTurned_1 (by decide) rfl (vs1 := [some (.ref (ad 236)), some (.int x1), some (.int x2), some (.int x3), some (.int 0)]) rfl ?_
  exact j3 _ _ _ _ _ _ h
set_option maxHeartbeats 4000000 in
set_option maxRecDepth 100000 in
theorem Z_X12_turned {l : Launch} {D : va_G} {ids : List Nat} {ad : Nat → Nat} {ca : Nat → ClassId} {σ : HS} {x1 : Int32} {x2 : Int32} {r0 : Int32} {s0 : HS} (hid : ∀ i, i < 277 → i ∈ ids) (h : f_X12_turned x1 x2 σ = some (r0, s0)) : Ki l D ids ad ca yX12_turned cX12_turned 4 .int 3 67 [.ref (ad 236), .int x1, .int x2] σ (fun r σ1 => r = r0 ∧ σ1 = s0) := by
  obtain ⟨R, hR⟩ : ∃ R, (r0, s0) = R := ⟨_, rfl⟩
  replace h := h.trans (congrArg some hR)
  refine Ki.of (by decide) (Nat.le_of_ble_eq_true rfl) 1 (fun Γ C Rt => ?_)
  show AW ids ad ca Γ 0 [some (.ref (ad 236)), some (.int x1), some (.int x2), none] [] σ
  unfold f_X12_turned at h
  have j36 : ∀ (n : Nat) (y1 : Int32) (y2 : Int32) (y3 : Int32) (σ : HS), f_X12_turned_36 n y1 y2 y3 σ = some R → AW ids ad ca Γ 36 [some (.ref (ad 236)), some (.int y1), some (.int y2), some (.int y3)] [] σ := by
    intro n
    induction n with
    | zero => intro y1 y2 y3 σ h; exact nn h
    | succ n ih =>
      intro y1 y2 y3 σ h
      have h : b_X12_turned_36 (f_X12_turned_36 n) y1 y2 y3 σ = some R := h
      unfold b_X12_turned_36 at h
      refine a_iload_n C dX12_turned_36 (i := 3) rfl rfl ?_
      refine a_aload_n C dX12_turned_37 (i := 0) rfl rfl ?_
      refine a_iload_n C dX12_turned_38 (i := 1) rfl rfl ?_
      refine p_callVi C (As := [.int y1]) (i := 236) kd_236 (hid 236 (by decide)) ⟨_, _, rfl⟩ (by decide) h (fun _ _ e => Z_X12_lengthOf hid e) mi_X12_lengthOf ml_RX12_318 rfl rfl (Nat.le_of_ble_eq_true rfl) (Nat.le_of_ble_eq_true rfl) (Nat.le_of_ble_eq_true rfl) dX12_turned_39 (fun r2 σ1 h => ?_)
      refine p_ic_ge C (X := y3.toInt) (Y := r2.toInt) rfl rfl dX12_turned_42 (tgt := 63) rfl h (fun h => ?_) (fun h => ?_)
      ·
        refine a_bipush C dX12_turned_63 (v := (-2)) rfl ?_
        exact a_iret Rt dX12_turned_65 rfl (ret_eq (h.trans (congrArg some hR.symm)))
      ·
        refine a_aload_n C dX12_turned_45 (i := 0) rfl rfl ?_
        refine a_iload_n C dX12_turned_46 (i := 1) rfl rfl ?_
        refine a_iload_n C dX12_turned_47 (i := 2) rfl rfl ?_
        refine a_iload_n C dX12_turned_48 (i := 3) rfl rfl ?_
        refine p_callVi C (As := [.int y1, .int y2, .int y3]) (i := 236) kd_236 (hid 236 (by decide)) ⟨_, _, rfl⟩ (by decide) h (fun _ _ e => Z_X12_isTurned hid e) mi_X12_isTurned ml_RX12_423 rfl rfl (Nat.le_of_ble_eq_true rfl) (Nat.le_of_ble_eq_true rfl) (Nat.le_of_ble_eq_true rfl) dX12_turned_49 (fun r4 σ3 h => ?_)
        refine p_if_eq C (X := r4.toInt) rfl dX12_turned_52 (tgt := 57) rfl h (fun h => ?_) (fun h => ?_)
        ·
          refine p_iinc C (y := (y3 + 1)) (fun z5 => [some (.ref (ad 236)), some (.int y1), some (.int y2), some (.int z5)]) dX12_turned_57 rfl rfl (by decide) rfl (fun _ => rfl) h (fun z5 h => ?_)
          refine a_goto C dX12_turned_60 (tgt := 36) rfl ?_
          exact ih _ _ _ _ h
        ·
          refine a_iload_n C dX12_turned_55 (i := 3) rfl rfl ?_
          exact a_iret Rt dX12_turned_56 rfl (ret_eq (h.trans (congrArg some hR.symm)))
  refine a_aload_n C dX12_turned_0 (i := 0) rfl rfl ?_
  refine a_iload_n C dX12_turned_1 (i := 1) rfl rfl ?_
  refine p_callVi C (As := [.int x1]) (i := 236) kd_236 (hid 236 (by decide)) ⟨_, _, rfl⟩ (by decide) h (fun _ _ e => Z_X12_isPattern hid e) mi_X12_isPattern ml_RX12_393 rfl rfl (Nat.le_of_ble_eq_true rfl) (Nat.le_of_ble_eq_true rfl) (Nat.le_of_ble_eq_true rfl) dX12_turned_2 (fun r2 σ1 h => ?_)
  refine p_if_eq C (X := r2.toInt) rfl dX12_turned_5 (tgt := 16) rfl h (fun h => ?_) (fun h => ?_)
  ·
    refine a_iconst C dX12_turned_16 (v := (-1)) rfl ?_
    exact a_iret Rt dX12_turned_17 rfl (ret_eq (h.trans (congrArg some hR.symm)))
  ·
    refine a_aload_n C dX12_turned_8 (i := 0) rfl rfl ?_
    refine a_iload_n C dX12_turned_9 (i := 2) rfl rfl ?_
    refine p_callVi C (As := [.int x2]) (i := 236) kd_236 (hid 236 (by decide)) ⟨_, _, rfl⟩ (by decide) h (fun _ _ e => Z_X12_isPattern hid e) mi_X12_isPattern ml_RX12_393 rfl rfl (Nat.le_of_ble_eq_true rfl) (Nat.le_of_ble_eq_true rfl) (Nat.le_of_ble_eq_true rfl) dX12_turned_10 (fun r4 σ3 h => ?_)
    refine p_if_ne C (X := r4.toInt) rfl dX12_turned_13 (tgt := 18) rfl h (fun h => ?_) (fun h => ?_)
    ·
      refine a_aload_n C dX12_turned_18 (i := 0) rfl rfl ?_
      refine a_iload_n C dX12_turned_19 (i := 1) rfl rfl ?_
      refine p_callVi C (As := [.int x1]) (i := 236) kd_236 (hid 236 (by decide)) ⟨_, _, rfl⟩ (by decide) h (fun _ _ e => Z_X12_lengthOf hid e) mi_X12_lengthOf ml_RX12_318 rfl rfl (Nat.le_of_ble_eq_true rfl) (Nat.le_of_ble_eq_true rfl) (Nat.le_of_ble_eq_true rfl) dX12_turned_20 (fun r6 σ5 h => ?_)
      refine a_aload_n C dX12_turned_23 (i := 0) rfl rfl ?_
      refine a_iload_n C dX12_turned_24 (i := 2) rfl rfl ?_
      refine p_callVi C (As := [.int x2]) (i := 236) kd_236 (hid 236 (by decide)) ⟨_, _, rfl⟩ (by decide) h (fun _ _ e => Z_X12_lengthOf hid e) mi_X12_lengthOf ml_RX12_318 rfl rfl (Nat.le_of_ble_eq_true rfl) (Nat.le_of_ble_eq_true rfl) (Nat.le_of_ble_eq_true rfl) dX12_turned_25 (fun r8 σ7 h => ?_)
      refine p_ic_eq C (X := r6.toInt) (Y := r8.toInt) rfl rfl dX12_turned_28 (tgt := 34) rfl h (fun h => ?_) (fun h => ?_)
      ·
        refine a_iconst C dX12_turned_34 (v := 0) rfl ?_
        refine a_istore_n C dX12_turned_35 (i := 3) rfl (by decide) rfl (vs1 := [some (.ref (ad 236)), some (.int x1), some (.int x2), some (.int 0)]) rfl ?_
        exact j36 _ _ _ _ _ h
      ·
        refine a_bipush C dX12_turned_31 (v := (-2)) rfl ?_
        exact a_iret Rt dX12_turned_33 rfl (ret_eq (h.trans (congrArg some hR.symm)))
    ·
      refine a_iconst C dX12_turned_16 (v := (-1)) rfl ?_
      exact a_iret Rt dX12_turned_17 rfl (ret_eq (h.trans (congrArg some hR.symm)))
set_option maxHeartbeats 4000000 in
set_option maxRecDepth 100000 in
theorem Z_X12_span {l : Launch} {D : va_G} {ids : List Nat} {ad : Nat → Nat} {ca : Nat → ClassId} {σ : HS} {x1 : Int32} {r0 : Int32} {s0 : HS} (hid : ∀ i, i < 277 → i ∈ ids) (h : f_X12_span x1 σ = some (r0, s0)) : Ki l D ids ad ca yX12_span cX12_span 4 .int 2 43 [.ref (ad 236), .int x1] σ (fun r σ1 => r = r0 ∧ σ1 = s0) := by
  obtain ⟨R, hR⟩ : ∃ R, (r0, s0) = R := ⟨_, rfl⟩
  replace h := h.trans (congrArg some hR)
  refine Ki.of (by decide) (Nat.le_of_ble_eq_true rfl) 2 (fun Γ C Rt => ?_)
  show AW ids ad ca Γ 0 [some (.ref (ad 236)), some (.int x1), none, none] [] σ
  unfold f_X12_span at h
  have j40 : ∀ (k14 : Int32 → Int32 → Int32 → HS → Option (Int32 × HS)) (hk14 : ∀ (y1 : Int32) (y2 : Int32) (y3 : Int32) (σ : HS), k14 y1 y2 y3 σ = some R → AW ids ad ca Γ 14 [some (.ref (ad 236)), some (.int y1), some (.int y2), some (.int y3)] [] σ) (y1 : Int32) (y2 : Int32) (y3 : Int32) (σ : HS), f_X12_span_40 k14 y1 y2 y3 σ = some R → AW ids ad ca Γ 40 [some (.ref (ad 236)), some (.int y1), some (.int y2), some (.int y3)] [] σ := by
    intro k14 hk14 y1 y2 y3 σ h
    unfold f_X12_span_40 at h
    refine p_iinc C (y := (y3 + 1)) (fun z1 => [some (.ref (ad 236)), some (.int y1), some (.int y2), some (.int z1)]) dX12_span_40 rfl rfl (by decide) rfl (fun _ => rfl) h (fun z1 h => ?_)
    refine a_goto C dX12_span_43 (tgt := 14) rfl ?_
    exact hk14 _ _ _ _ h
  have j14 : ∀ (n : Nat) (y1 : Int32) (y2 : Int32) (y3 : Int32) (σ : HS), f_X12_span_14 n y1 y2 y3 σ = some R → AW ids ad ca Γ 14 [some (.ref (ad 236)), some (.int y1), some (.int y2), some (.int y3)] [] σ := by
    intro n
    induction n with
    | zero => intro y1 y2 y3 σ h; exact nn h
    | succ n ih =>
      intro y1 y2 y3 σ h
      have h : b_X12_span_14 (f_X12_span_14 n) y1 y2 y3 σ = some R := h
      unfold b_X12_span_14 at h
      refine a_iload_n C dX12_span_14 (i := 3) rfl rfl ?_
      refine a_aload_n C dX12_span_15 (i := 0) rfl rfl ?_
      refine a_iload_n C dX12_span_16 (i := 1) rfl rfl ?_
      refine p_callVi C (As := [.int y1]) (i := 236) kd_236 (hid 236 (by decide)) ⟨_, _, rfl⟩ (by decide) h (fun _ _ e => Z_X12_lengthOf hid e) mi_X12_lengthOf ml_RX12_318 rfl rfl (Nat.le_of_ble_eq_true rfl) (Nat.le_of_ble_eq_true rfl) (Nat.le_of_ble_eq_true rfl) dX12_span_17 (fun r2 σ1 h => ?_)
      refine p_ic_ge C (X := y3.toInt) (Y := r2.toInt) rfl rfl dX12_span_20 (tgt := 46) rfl h (fun h => ?_) (fun h => ?_)
      ·
        refine a_iload_n C dX12_span_46 (i := 2) rfl rfl ?_
        exact a_iret Rt dX12_span_47 rfl (ret_eq (h.trans (congrArg some hR.symm)))
      ·
        refine a_aload_n C dX12_span_23 (i := 0) rfl rfl ?_
        refine a_iload_n C dX12_span_24 (i := 1) rfl rfl ?_
        refine a_iload_n C dX12_span_25 (i := 3) rfl rfl ?_
        refine p_callVi C (As := [.int y1, .int y3]) (i := 236) kd_236 (hid 236 (by decide)) ⟨_, _, rfl⟩ (by decide) h (fun _ _ e => Z_X12_heightAt hid e) mi_X12_heightAt ml_RX12_321 rfl rfl (Nat.le_of_ble_eq_true rfl) (Nat.le_of_ble_eq_true rfl) (Nat.le_of_ble_eq_true rfl) dX12_span_26 (fun r4 σ3 h => ?_)
        refine a_iload_n C dX12_span_29 (i := 2) rfl rfl ?_
        refine p_ic_le C (X := r4.toInt) (Y := y2.toInt) rfl rfl dX12_span_30 (tgt := 40) rfl h (fun h => ?_) (fun h => ?_)
        ·
          exact j40 (f_X12_span_14 n) (fun y1 y2 y3 σ h => ih y1 y2 y3 σ h) _ _ _ _ h
        ·
          refine a_aload_n C dX12_span_33 (i := 0) rfl rfl ?_
          refine a_iload_n C dX12_span_34 (i := 1) rfl rfl ?_
          refine a_iload_n C dX12_span_35 (i := 3) rfl rfl ?_
          refine p_callVi C (As := [.int y1, .int y3]) (i := 236) kd_236 (hid 236 (by decide)) ⟨_, _, rfl⟩ (by decide) h (fun _ _ e => Z_X12_heightAt hid e) mi_X12_heightAt ml_RX12_321 rfl rfl (Nat.le_of_ble_eq_true rfl) (Nat.le_of_ble_eq_true rfl) (Nat.le_of_ble_eq_true rfl) dX12_span_36 (fun r6 σ5 h => ?_)
          refine a_istore_n C dX12_span_39 (i := 2) rfl (by decide) rfl (vs1 := [some (.ref (ad 236)), some (.int y1), some (.int r6), some (.int y3)]) rfl ?_
          exact j40 (f_X12_span_14 n) (fun y1 y2 y3 σ h => ih y1 y2 y3 σ h) _ _ _ _ h
  refine a_aload_n C dX12_span_0 (i := 0) rfl rfl ?_
  refine a_iload_n C dX12_span_1 (i := 1) rfl rfl ?_
  refine p_callVi C (As := [.int x1]) (i := 236) kd_236 (hid 236 (by decide)) ⟨_, _, rfl⟩ (by decide) h (fun _ _ e => Z_X12_isPattern hid e) mi_X12_isPattern ml_RX12_393 rfl rfl (Nat.le_of_ble_eq_true rfl) (Nat.le_of_ble_eq_true rfl) (Nat.le_of_ble_eq_true rfl) dX12_span_2 (fun r2 σ1 h => ?_)
  refine p_if_ne C (X := r2.toInt) rfl dX12_span_5 (tgt := 10) rfl h (fun h => ?_) (fun h => ?_)
  ·
    refine a_iconst C dX12_span_10 (v := 0) rfl ?_
    refine a_istore_n C dX12_span_11 (i := 2) rfl (by decide) rfl (vs1 := [some (.ref (ad 236)), some (.int x1), some (.int 0), none]) rfl ?_
    refine a_iconst C dX12_span_12 (v := 0) rfl ?_
    refine a_istore_n C dX12_span_13 (i := 3) rfl (by decide) rfl (vs1 := [some (.ref (ad 236)), some (.int x1), some (.int 0), some (.int 0)]) rfl ?_
    exact j14 _ _ _ _ _ h
  ·
    refine a_iconst C dX12_span_8 (v := (-1)) rfl ?_
    exact a_iret Rt dX12_span_9 rfl (ret_eq (h.trans (congrArg some hR.symm)))
set_option maxHeartbeats 4000000 in
set_option maxRecDepth 100000 in
theorem Z_X12_orbits {l : Launch} {D : va_G} {ids : List Nat} {ad : Nat → Nat} {ca : Nat → ClassId} {σ : HS} {x1 : Int32} {r0 : Int32} {s0 : HS} (hid : ∀ i, i < 277 → i ∈ ids) (h : f_X12_orbits x1 σ = some (r0, s0)) : Ki l D ids ad ca yX12_orbits cX12_orbits 6 .int 4 87 [.ref (ad 236), .int x1] σ (fun r σ1 => r = r0 ∧ σ1 = s0) := by
  obtain ⟨R, hR⟩ : ∃ R, (r0, s0) = R := ⟨_, rfl⟩
  replace h := h.trans (congrArg some hR)
  refine Ki.of (by decide) (Nat.le_of_ble_eq_true rfl) 4 (fun Γ C Rt => ?_)
  show AW ids ad ca Γ 0 [some (.ref (ad 236)), some (.int x1), none, none, none, none] [] σ
  unfold f_X12_orbits at h
  have j93 : ∀ (k28 : Int32 → Int32 → Int32 → HS → Option (Int32 × HS)) (hk28 : ∀ (y2 : Int32) (y3 : Int32) (y4 : Int32) (σ : HS), k28 y2 y3 y4 σ = some R → AW ids ad ca Γ 28 [some (.ref (ad 236)), none, some (.int y2), some (.int y3), some (.int y4), none] [] σ) (y2 : Int32) (y3 : Int32) (y4 : Int32) (σ : HS), f_X12_orbits_93 k28 y2 y3 y4 σ = some R → AW ids ad ca Γ 93 [some (.ref (ad 236)), none, some (.int y2), some (.int y3), some (.int y4), none] [] σ := by
    intro k28 hk28 y2 y3 y4 σ h
    unfold f_X12_orbits_93 at h
    refine p_iinc C (y := (y4 + 1)) (fun z1 => [some (.ref (ad 236)), none, some (.int y2), some (.int y3), some (.int z1), none]) dX12_orbits_93 rfl rfl (by decide) rfl (fun _ => rfl) h (fun z1 h => ?_)
    refine a_goto C dX12_orbits_96 (tgt := 28) rfl ?_
    exact hk28 _ _ _ _ h
  have j57 : ∀ (k28 : Int32 → Int32 → Int32 → HS → Option (Int32 × HS)) (hk28 : ∀ (y2 : Int32) (y3 : Int32) (y4 : Int32) (σ : HS), k28 y2 y3 y4 σ = some R → AW ids ad ca Γ 28 [some (.ref (ad 236)), none, some (.int y2), some (.int y3), some (.int y4), none] [] σ) (n : Nat) (y2 : Int32) (y3 : Int32) (y4 : Int32) (y5 : Int32) (σ : HS), f_X12_orbits_57 k28 n y2 y3 y4 y5 σ = some R → AW ids ad ca Γ 57 [some (.ref (ad 236)), none, some (.int y2), some (.int y3), some (.int y4), some (.int y5)] [] σ := by
    intro k28 hk28 n
    induction n with
    | zero => intro y2 y3 y4 y5 σ h; exact nn h
    | succ n ih =>
      intro y2 y3 y4 y5 σ h
      have h : b_X12_orbits_57 k28 (f_X12_orbits_57 k28 n) y2 y3 y4 y5 σ = some R := h
      unfold b_X12_orbits_57 at h
      refine a_iload_n C dX12_orbits_57 (i := 2) rfl rfl ?_
      refine a_iload C dX12_orbits_58 rfl ?_
      refine a_ishr C dX12_orbits_60 ?_
      refine a_iconst C dX12_orbits_61 (v := 1) rfl ?_
      refine a_iand C dX12_orbits_62 ?_
      refine p_if_ne C (X := ((y2 >>> (y5 &&& 31)) &&& (1 : Int32)).toInt) rfl dX12_orbits_63 (tgt := 93) rfl h (fun h => ?_) (fun h => ?_)
      ·
        refine AW.sub (vs' := [some (.ref (ad 236)), none, some (.int y2), some (.int y3), some (.int y4), none]) (lsub_of (by simp [lsubB])) ?_
        exact j93 k28 hk28 _ _ _ _ h
      ·
        refine a_iload_n C dX12_orbits_66 (i := 2) rfl rfl ?_
        refine a_iconst C dX12_orbits_67 (v := 1) rfl ?_
        refine a_iload C dX12_orbits_68 rfl ?_
        refine a_ishl C dX12_orbits_70 ?_
        refine a_ior C dX12_orbits_71 ?_
        refine p_istore_n C (fun z1 => [some (.ref (ad 236)), none, some (.int z1), some (.int y3), some (.int y4), some (.int y5)]) dX12_orbits_72 (i := 2) rfl (by decide) rfl (fun _ => rfl) h (fun z1 h => ?_)
        refine a_iload C dX12_orbits_73 rfl ?_
        refine a_aload_n C dX12_orbits_75 (i := 0) rfl rfl ?_
        refine a_get C fl_RX12_116 (i := 236) kd_236 (hid 236 (by decide)) (v := .ref (ad 269)) rfl dX12_orbits_76 ?_
        refine a_iload C dX12_orbits_79 rfl ?_
        refine p_iald C (i := 269) (show rowOK 269 from ⟨kd_269, by decide⟩) hid (by rw [al_269]; rfl) dX12_orbits_81 h (fun h => ?_)
        refine a_iadd C dX12_orbits_82 ?_
        refine a_aload_n C dX12_orbits_83 (i := 0) rfl rfl ?_
        refine a_get C fl_RX12_408 (i := 236) kd_236 (hid 236 (by decide)) (v := .int (σ.1 236 57)) rfl dX12_orbits_84 ?_
        refine p_irem C rfl dX12_orbits_87 h (fun h => ?_)
        refine p_istore C (fun z2 => [some (.ref (ad 236)), none, some (.int z1), some (.int y3), some (.int y4), some (.int z2)]) dX12_orbits_88 (by decide) rfl (fun _ => rfl) h (fun z2 h => ?_)
        refine a_goto C dX12_orbits_90 (tgt := 57) rfl ?_
        exact ih _ _ _ _ _ h
  have j28 : ∀ (n : Nat) (y2 : Int32) (y3 : Int32) (y4 : Int32) (σ : HS), f_X12_orbits_28 n y2 y3 y4 σ = some R → AW ids ad ca Γ 28 [some (.ref (ad 236)), none, some (.int y2), some (.int y3), some (.int y4), none] [] σ := by
    intro n
    induction n with
    | zero => intro y2 y3 y4 σ h; exact nn h
    | succ n ih =>
      intro y2 y3 y4 σ h
      have h : b_X12_orbits_28 (f_X12_orbits_28 n) y2 y3 y4 σ = some R := h
      unfold b_X12_orbits_28 at h
      refine a_iload C dX12_orbits_28 rfl ?_
      refine a_aload_n C dX12_orbits_30 (i := 0) rfl rfl ?_
      refine a_get C fl_RX12_408 (i := 236) kd_236 (hid 236 (by decide)) (v := .int (σ.1 236 57)) rfl dX12_orbits_31 ?_
      refine p_ic_ge C (X := y4.toInt) (Y := (σ.1 236 57).toInt) rfl rfl dX12_orbits_34 (tgt := 99) rfl h (fun h => ?_) (fun h => ?_)
      ·
        refine a_iload_n C dX12_orbits_99 (i := 3) rfl rfl ?_
        exact a_iret Rt dX12_orbits_100 rfl (ret_eq (h.trans (congrArg some hR.symm)))
      ·
        refine a_iload_n C dX12_orbits_37 (i := 2) rfl rfl ?_
        refine a_iload C dX12_orbits_38 rfl ?_
        refine a_ishr C dX12_orbits_40 ?_
        refine a_iconst C dX12_orbits_41 (v := 1) rfl ?_
        refine a_iand C dX12_orbits_42 ?_
        refine a_iconst C dX12_orbits_43 (v := 1) rfl ?_
        refine p_ic_ne C (X := ((y2 >>> (y4 &&& 31)) &&& (1 : Int32)).toInt) (Y := 1) rfl (by decide) dX12_orbits_44 (tgt := 50) rfl h (fun h => ?_) (fun h => ?_)
        ·
          refine p_iinc C (y := (y3 + 1)) (fun z1 => [some (.ref (ad 236)), none, some (.int y2), some (.int z1), some (.int y4), none]) dX12_orbits_50 rfl rfl (by decide) rfl (fun _ => rfl) h (fun z1 h => ?_)
          refine a_iload C dX12_orbits_53 rfl ?_
          refine a_istore C dX12_orbits_55 (by decide) rfl (vs1 := [some (.ref (ad 236)), none, some (.int y2), some (.int z1), some (.int y4), some (.int y4)]) rfl ?_
          exact j57 (f_X12_orbits_28 n) (fun y2 y3 y4 σ h => ih y2 y3 y4 σ h) _ _ _ _ _ _ h
        ·
          refine a_goto C dX12_orbits_47 (tgt := 93) rfl ?_
          exact j93 (f_X12_orbits_28 n) (fun y2 y3 y4 σ h => ih y2 y3 y4 σ h) _ _ _ _ h
  refine a_aload_n C dX12_orbits_0 (i := 0) rfl rfl ?_
  refine a_iload_n C dX12_orbits_1 (i := 1) rfl rfl ?_
  refine p_callVi C (As := [.int x1]) (i := 236) kd_236 (hid 236 (by decide)) ⟨_, _, rfl⟩ (by decide) h (fun _ _ e => Z_X12_isPattern hid e) mi_X12_isPattern ml_RX12_393 rfl rfl (Nat.le_of_ble_eq_true rfl) (Nat.le_of_ble_eq_true rfl) (Nat.le_of_ble_eq_true rfl) dX12_orbits_2 (fun r2 σ1 h => ?_)
  refine p_if_ne C (X := r2.toInt) rfl dX12_orbits_5 (tgt := 10) rfl h (fun h => ?_) (fun h => ?_)
  ·
    refine a_aload_n C dX12_orbits_10 (i := 0) rfl rfl ?_
    refine a_iload_n C dX12_orbits_11 (i := 1) rfl rfl ?_
    refine p_callVi C (As := [.int x1]) (i := 236) kd_236 (hid 236 (by decide)) ⟨_, _, rfl⟩ (by decide) h (fun _ _ e => Z_X12_keepsOf hid e) mi_X12_keepsOf ml_RX12_417 rfl rfl (Nat.le_of_ble_eq_true rfl) (Nat.le_of_ble_eq_true rfl) (Nat.le_of_ble_eq_true rfl) dX12_orbits_12 (fun r4 σ3 h => ?_)
    refine p_if_ge C (X := r4.toInt) rfl dX12_orbits_15 (tgt := 21) rfl h (fun h => ?_) (fun h => ?_)
    ·
      refine a_iconst C dX12_orbits_21 (v := 0) rfl ?_
      refine a_istore_n C dX12_orbits_22 (i := 2) rfl (by decide) rfl (vs1 := [some (.ref (ad 236)), some (.int x1), some (.int 0), none, none, none]) rfl ?_
      refine a_iconst C dX12_orbits_23 (v := 0) rfl ?_
      refine a_istore_n C dX12_orbits_24 (i := 3) rfl (by decide) rfl (vs1 := [some (.ref (ad 236)), some (.int x1), some (.int 0), some (.int 0), none, none]) rfl ?_
      refine a_iconst C dX12_orbits_25 (v := 0) rfl ?_
      refine a_istore C dX12_orbits_26 (by decide) rfl (vs1 := [some (.ref (ad 236)), some (.int x1), some (.int 0), some (.int 0), some (.int 0), none]) rfl ?_
      refine AW.sub (vs' := [some (.ref (ad 236)), none, some (.int 0), some (.int 0), some (.int 0), none]) (lsub_of (by simp [lsubB])) ?_
      exact j28 _ _ _ _ _ h
    ·
      refine a_bipush C dX12_orbits_18 (v := (-2)) rfl ?_
      exact a_iret Rt dX12_orbits_20 rfl (ret_eq (h.trans (congrArg some hR.symm)))
  ·
    refine a_iconst C dX12_orbits_8 (v := (-1)) rfl ?_
    exact a_iret Rt dX12_orbits_9 rfl (ret_eq (h.trans (congrArg some hR.symm)))
set_option maxHeartbeats 4000000 in
set_option maxRecDepth 100000 in
theorem Z_X12_swaps {l : Launch} {D : va_G} {ids : List Nat} {ad : Nat → Nat} {ca : Nat → ClassId} {σ : HS} {x1 : Int32} {r0 : Int32} {s0 : HS} (hid : ∀ i, i < 277 → i ∈ ids) (h : f_X12_swaps x1 σ = some (r0, s0)) : Ki l D ids ad ca yX12_swaps cX12_swaps 5 .int 2 43 [.ref (ad 236), .int x1] σ (fun r σ1 => r = r0 ∧ σ1 = s0) := by
  obtain ⟨R, hR⟩ : ∃ R, (r0, s0) = R := ⟨_, rfl⟩
  replace h := h.trans (congrArg some hR)
  refine Ki.of (by decide) (Nat.le_of_ble_eq_true rfl) 3 (fun Γ C Rt => ?_)
  show AW ids ad ca Γ 0 [some (.ref (ad 236)), some (.int x1), none, none, none] [] σ
  unfold f_X12_swaps at h
  have j82 : ∀ (k14 : Int32 → Int32 → Int32 → HS → Option (Int32 × HS)) (hk14 : ∀ (y1 : Int32) (y2 : Int32) (y3 : Int32) (σ : HS), k14 y1 y2 y3 σ = some R → AW ids ad ca Γ 14 [some (.ref (ad 236)), some (.int y1), some (.int y2), some (.int y3), none] [] σ) (k28 : Int32 → Int32 → Int32 → Int32 → HS → Option (Int32 × HS)) (hk28 : ∀ (y1 : Int32) (y2 : Int32) (y3 : Int32) (y4 : Int32) (σ : HS), k28 y1 y2 y3 y4 σ = some R → AW ids ad ca Γ 28 [some (.ref (ad 236)), some (.int y1), some (.int y2), some (.int y3), some (.int y4)] [] σ) (y1 : Int32) (y2 : Int32) (y3 : Int32) (y4 : Int32) (σ : HS), f_X12_swaps_82 k14 k28 y1 y2 y3 y4 σ = some R → AW ids ad ca Γ 82 [some (.ref (ad 236)), some (.int y1), some (.int y2), some (.int y3), some (.int y4)] [] σ := by
    intro k14 hk14 k28 hk28 y1 y2 y3 y4 σ h
    unfold f_X12_swaps_82 at h
    refine p_iinc C (y := (y4 + 1)) (fun z1 => [some (.ref (ad 236)), some (.int y1), some (.int y2), some (.int y3), some (.int z1)]) dX12_swaps_82 rfl rfl (by decide) rfl (fun _ => rfl) h (fun z1 h => ?_)
    refine a_goto C dX12_swaps_85 (tgt := 28) rfl ?_
    exact hk28 _ _ _ _ _ h
  have j28 : ∀ (k14 : Int32 → Int32 → Int32 → HS → Option (Int32 × HS)) (hk14 : ∀ (y1 : Int32) (y2 : Int32) (y3 : Int32) (σ : HS), k14 y1 y2 y3 σ = some R → AW ids ad ca Γ 14 [some (.ref (ad 236)), some (.int y1), some (.int y2), some (.int y3), none] [] σ) (n : Nat) (y1 : Int32) (y2 : Int32) (y3 : Int32) (y4 : Int32) (σ : HS), f_X12_swaps_28 k14 n y1 y2 y3 y4 σ = some R → AW ids ad ca Γ 28 [some (.ref (ad 236)), some (.int y1), some (.int y2), some (.int y3), some (.int y4)] [] σ := by
    intro k14 hk14 n
    induction n with
    | zero => intro y1 y2 y3 y4 σ h; exact nn h
    | succ n ih =>
      intro y1 y2 y3 y4 σ h
      have h : b_X12_swaps_28 k14 (f_X12_swaps_28 k14 n) y1 y2 y3 y4 σ = some R := h
      unfold b_X12_swaps_28 at h
      refine a_iload C dX12_swaps_28 rfl ?_
      refine a_aload_n C dX12_swaps_30 (i := 0) rfl rfl ?_
      refine a_iload_n C dX12_swaps_31 (i := 1) rfl rfl ?_
      refine p_callVi C (As := [.int y1]) (i := 236) kd_236 (hid 236 (by decide)) ⟨_, _, rfl⟩ (by decide) h (fun _ _ e => Z_X12_lengthOf hid e) mi_X12_lengthOf ml_RX12_318 rfl rfl (Nat.le_of_ble_eq_true rfl) (Nat.le_of_ble_eq_true rfl) (Nat.le_of_ble_eq_true rfl) dX12_swaps_32 (fun r2 σ1 h => ?_)
      refine p_ic_ge C (X := y4.toInt) (Y := r2.toInt) rfl rfl dX12_swaps_35 (tgt := 88) rfl h (fun h => ?_) (fun h => ?_)
      ·
        refine p_iinc C (y := (y3 + 1)) (fun z3 => [some (.ref (ad 236)), some (.int y1), some (.int y2), some (.int z3), some (.int y4)]) dX12_swaps_88 rfl rfl (by decide) rfl (fun _ => rfl) h (fun z3 h => ?_)
        refine a_goto C dX12_swaps_91 (tgt := 14) rfl ?_
        refine AW.sub (vs' := [some (.ref (ad 236)), some (.int y1), some (.int y2), some (.int z3), none]) (lsub_of (by simp [lsubB])) ?_
        exact hk14 _ _ _ _ h
      ·
        refine a_aload_n C dX12_swaps_38 (i := 0) rfl rfl ?_
        refine a_iload_n C dX12_swaps_39 (i := 1) rfl rfl ?_
        refine a_iload C dX12_swaps_40 rfl ?_
        refine p_callVi C (As := [.int y1, .int y4]) (i := 236) kd_236 (hid 236 (by decide)) ⟨_, _, rfl⟩ (by decide) h (fun _ _ e => Z_X12_heightAt hid e) mi_X12_heightAt ml_RX12_321 rfl rfl (Nat.le_of_ble_eq_true rfl) (Nat.le_of_ble_eq_true rfl) (Nat.le_of_ble_eq_true rfl) dX12_swaps_42 (fun r5 σ4 h => ?_)
        refine a_iload C dX12_swaps_45 rfl ?_
        refine a_iadd C dX12_swaps_47 ?_
        refine a_iload_n C dX12_swaps_48 (i := 3) rfl rfl ?_
        refine a_isub C dX12_swaps_49 ?_
        refine a_iconst C dX12_swaps_50 (v := 0) rfl ?_
        refine a_bipush C dX12_swaps_51 (v := 9) rfl ?_
        refine p_callSi C (As := [.int ((r5 + y4) - y3), .int 0, .int 9]) h (fun _ _ e => Z_X12_in hid e) ms_X12_in ml_RX12_301 rfl rfl (Nat.le_of_ble_eq_true rfl) (Nat.le_of_ble_eq_true rfl) (Nat.le_of_ble_eq_true rfl) dX12_swaps_53 (fun r7 σ6 h => ?_)
        refine p_if_eq C (X := r7.toInt) rfl dX12_swaps_56 (tgt := 82) rfl h (fun h => ?_) (fun h => ?_)
        ·
          exact j82 k14 hk14 (f_X12_swaps_28 k14 n) (fun y1 y2 y3 y4 σ h => ih y1 y2 y3 y4 σ h) _ _ _ _ _ h
        ·
          refine a_aload_n C dX12_swaps_59 (i := 0) rfl rfl ?_
          refine a_iload_n C dX12_swaps_60 (i := 1) rfl rfl ?_
          refine a_iload_n C dX12_swaps_61 (i := 3) rfl rfl ?_
          refine p_callVi C (As := [.int y1, .int y3]) (i := 236) kd_236 (hid 236 (by decide)) ⟨_, _, rfl⟩ (by decide) h (fun _ _ e => Z_X12_heightAt hid e) mi_X12_heightAt ml_RX12_321 rfl rfl (Nat.le_of_ble_eq_true rfl) (Nat.le_of_ble_eq_true rfl) (Nat.le_of_ble_eq_true rfl) dX12_swaps_62 (fun r9 σ8 h => ?_)
          refine a_iload C dX12_swaps_65 rfl ?_
          refine a_isub C dX12_swaps_67 ?_
          refine a_iload_n C dX12_swaps_68 (i := 3) rfl rfl ?_
          refine a_iadd C dX12_swaps_69 ?_
          refine a_iconst C dX12_swaps_70 (v := 0) rfl ?_
          refine a_bipush C dX12_swaps_71 (v := 9) rfl ?_
          refine p_callSi C (As := [.int ((r9 - y4) + y3), .int 0, .int 9]) h (fun _ _ e => Z_X12_in hid e) ms_X12_in ml_RX12_301 rfl rfl (Nat.le_of_ble_eq_true rfl) (Nat.le_of_ble_eq_true rfl) (Nat.le_of_ble_eq_true rfl) dX12_swaps_73 (fun r11 σ10 h => ?_)
          refine p_if_eq C (X := r11.toInt) rfl dX12_swaps_76 (tgt := 82) rfl h (fun h => ?_) (fun h => ?_)
          ·
            exact j82 k14 hk14 (f_X12_swaps_28 k14 n) (fun y1 y2 y3 y4 σ h => ih y1 y2 y3 y4 σ h) _ _ _ _ _ h
          ·
            refine p_iinc C (y := (y2 + 1)) (fun z12 => [some (.ref (ad 236)), some (.int y1), some (.int z12), some (.int y3), some (.int y4)]) dX12_swaps_79 rfl rfl (by decide) rfl (fun _ => rfl) h (fun z12 h => ?_)
            exact j82 k14 hk14 (f_X12_swaps_28 k14 n) (fun y1 y2 y3 y4 σ h => ih y1 y2 y3 y4 σ h) _ _ _ _ _ h
  have j14 : ∀ (n : Nat) (y1 : Int32) (y2 : Int32) (y3 : Int32) (σ : HS), f_X12_swaps_14 n y1 y2 y3 σ = some R → AW ids ad ca Γ 14 [some (.ref (ad 236)), some (.int y1), some (.int y2), some (.int y3), none] [] σ := by
    intro n
    induction n with
    | zero => intro y1 y2 y3 σ h; exact nn h
    | succ n ih =>
      intro y1 y2 y3 σ h
      have h : b_X12_swaps_14 (f_X12_swaps_14 n) y1 y2 y3 σ = some R := h
      unfold b_X12_swaps_14 at h
      refine a_iload_n C dX12_swaps_14 (i := 3) rfl rfl ?_
      refine a_aload_n C dX12_swaps_15 (i := 0) rfl rfl ?_
      refine a_iload_n C dX12_swaps_16 (i := 1) rfl rfl ?_
      refine p_callVi C (As := [.int y1]) (i := 236) kd_236 (hid 236 (by decide)) ⟨_, _, rfl⟩ (by decide) h (fun _ _ e => Z_X12_lengthOf hid e) mi_X12_lengthOf ml_RX12_318 rfl rfl (Nat.le_of_ble_eq_true rfl) (Nat.le_of_ble_eq_true rfl) (Nat.le_of_ble_eq_true rfl) dX12_swaps_17 (fun r2 σ1 h => ?_)
      refine p_ic_ge C (X := y3.toInt) (Y := r2.toInt) rfl rfl dX12_swaps_20 (tgt := 94) rfl h (fun h => ?_) (fun h => ?_)
      ·
        refine a_iload_n C dX12_swaps_94 (i := 2) rfl rfl ?_
        exact a_iret Rt dX12_swaps_95 rfl (ret_eq (h.trans (congrArg some hR.symm)))
      ·
        refine a_iload_n C dX12_swaps_23 (i := 3) rfl rfl ?_
        refine a_iconst C dX12_swaps_24 (v := 1) rfl ?_
        refine a_iadd C dX12_swaps_25 ?_
        refine p_istore C (fun z3 => [some (.ref (ad 236)), some (.int y1), some (.int y2), some (.int y3), some (.int z3)]) dX12_swaps_26 (by decide) rfl (fun _ => rfl) h (fun z3 h => ?_)
        exact j28 (f_X12_swaps_14 n) (fun y1 y2 y3 σ h => ih y1 y2 y3 σ h) _ _ _ _ _ _ h
  refine a_aload_n C dX12_swaps_0 (i := 0) rfl rfl ?_
  refine a_iload_n C dX12_swaps_1 (i := 1) rfl rfl ?_
  refine p_callVi C (As := [.int x1]) (i := 236) kd_236 (hid 236 (by decide)) ⟨_, _, rfl⟩ (by decide) h (fun _ _ e => Z_X12_isPattern hid e) mi_X12_isPattern ml_RX12_393 rfl rfl (Nat.le_of_ble_eq_true rfl) (Nat.le_of_ble_eq_true rfl) (Nat.le_of_ble_eq_true rfl) dX12_swaps_2 (fun r2 σ1 h => ?_)
  refine p_if_ne C (X := r2.toInt) rfl dX12_swaps_5 (tgt := 10) rfl h (fun h => ?_) (fun h => ?_)
  ·
    refine a_iconst C dX12_swaps_10 (v := 0) rfl ?_
    refine a_istore_n C dX12_swaps_11 (i := 2) rfl (by decide) rfl (vs1 := [some (.ref (ad 236)), some (.int x1), some (.int 0), none, none]) rfl ?_
    refine a_iconst C dX12_swaps_12 (v := 0) rfl ?_
    refine a_istore_n C dX12_swaps_13 (i := 3) rfl (by decide) rfl (vs1 := [some (.ref (ad 236)), some (.int x1), some (.int 0), some (.int 0), none]) rfl ?_
    exact j14 _ _ _ _ _ h
  ·
    refine a_iconst C dX12_swaps_8 (v := (-1)) rfl ?_
    exact a_iret Rt dX12_swaps_9 rfl (ret_eq (h.trans (congrArg some hR.symm)))
set_option maxHeartbeats 4000000 in
set_option maxRecDepth 100000 in
theorem Z_X12_lands {l : Launch} {D : va_G} {ids : List Nat} {ad : Nat → Nat} {ca : Nat → ClassId} {σ : HS} {r0 : Int32} {s0 : HS} (hid : ∀ i, i < 277 → i ∈ ids) (h : f_X12_lands σ = some (r0, s0)) : Ki l D ids ad ca yX12_lands cX12_lands 3 .int 2 45 [.ref (ad 236)] σ (fun r σ1 => r = r0 ∧ σ1 = s0) := by
  obtain ⟨R, hR⟩ : ∃ R, (r0, s0) = R := ⟨_, rfl⟩
  replace h := h.trans (congrArg some hR)
  refine Ki.of (by decide) (Nat.le_of_ble_eq_true rfl) 2 (fun Γ C Rt => ?_)
  show AW ids ad ca Γ 0 [some (.ref (ad 236)), none, none] [] σ
  unfold f_X12_lands at h
  have j28 : ∀ (k8 : Int32 → Int32 → HS → Option (Int32 × HS)) (hk8 : ∀ (y1 : Int32) (y2 : Int32) (σ : HS), k8 y1 y2 σ = some R → AW ids ad ca Γ 8 [some (.ref (ad 236)), some (.int y1), some (.int y2)] [] σ) (y1 : Int32) (y2 : Int32) (σ : HS), f_X12_lands_28 k8 y1 y2 σ = some R → AW ids ad ca Γ 28 [some (.ref (ad 236)), some (.int y1), some (.int y2)] [] σ := by
    intro k8 hk8 y1 y2 σ h
    unfold f_X12_lands_28 at h
    refine p_iinc C (y := (y2 + 1)) (fun z1 => [some (.ref (ad 236)), some (.int y1), some (.int z1)]) dX12_lands_28 rfl rfl (by decide) rfl (fun _ => rfl) h (fun z1 h => ?_)
    refine a_goto C dX12_lands_31 (tgt := 8) rfl ?_
    exact hk8 _ _ _ h
  have j8 : ∀ (n : Nat) (y1 : Int32) (y2 : Int32) (σ : HS), f_X12_lands_8 n y1 y2 σ = some R → AW ids ad ca Γ 8 [some (.ref (ad 236)), some (.int y1), some (.int y2)] [] σ := by
    intro n
    induction n with
    | zero => intro y1 y2 σ h; exact nn h
    | succ n ih =>
      intro y1 y2 σ h
      have h : b_X12_lands_8 (f_X12_lands_8 n) y1 y2 σ = some R := h
      unfold b_X12_lands_8 at h
      refine a_iload_n C dX12_lands_8 (i := 2) rfl rfl ?_
      refine a_bipush C dX12_lands_9 (v := 10) rfl ?_
      refine p_ic_ge C (X := y2.toInt) (Y := 10) rfl (by decide) dX12_lands_11 (tgt := 34) rfl h (fun h => ?_) (fun h => ?_)
      ·
        refine a_iload_n C dX12_lands_34 (i := 1) rfl rfl ?_
        exact a_iret Rt dX12_lands_35 rfl (ret_eq (h.trans (congrArg some hR.symm)))
      ·
        refine a_aload_n C dX12_lands_14 (i := 0) rfl rfl ?_
        refine a_iload_n C dX12_lands_15 (i := 2) rfl rfl ?_
        refine p_callVi C (As := [.int y2]) (i := 236) kd_236 (hid 236 (by decide)) ⟨_, _, rfl⟩ (by decide) h (fun _ _ e => Z_X12_landsAt hid e) mi_X12_landsAt ml_RX12_426 rfl rfl (Nat.le_of_ble_eq_true rfl) (Nat.le_of_ble_eq_true rfl) (Nat.le_of_ble_eq_true rfl) dX12_lands_16 (fun r2 σ1 h => ?_)
        refine p_if_le C (X := r2.toInt) rfl dX12_lands_19 (tgt := 28) rfl h (fun h => ?_) (fun h => ?_)
        ·
          exact j28 (f_X12_lands_8 n) (fun y1 y2 σ h => ih y1 y2 σ h) _ _ _ h
        ·
          refine a_iload_n C dX12_lands_22 (i := 1) rfl rfl ?_
          refine a_iconst C dX12_lands_23 (v := 1) rfl ?_
          refine a_iload_n C dX12_lands_24 (i := 2) rfl rfl ?_
          refine a_ishl C dX12_lands_25 ?_
          refine a_ior C dX12_lands_26 ?_
          refine p_istore_n C (fun z3 => [some (.ref (ad 236)), some (.int z3), some (.int y2)]) dX12_lands_27 (i := 1) rfl (by decide) rfl (fun _ => rfl) h (fun z3 h => ?_)
          exact j28 (f_X12_lands_8 n) (fun y1 y2 σ h => ih y1 y2 σ h) _ _ _ h
  refine a_aload_n C dX12_lands_0 (i := 0) rfl rfl ?_
  refine p_callVv C (As := []) (i := 236) kd_236 (hid 236 (by decide)) ⟨_, _, rfl⟩ (by decide) h (fun _ e => Z_X12_copies hid e) mi_X12_copies ml_RX12_311 rfl rfl (Nat.le_of_ble_eq_true rfl) (Nat.le_of_ble_eq_true rfl) (Nat.le_of_ble_eq_true rfl) dX12_lands_1 (fun σ1 h => ?_)
  refine a_iconst C dX12_lands_4 (v := 0) rfl ?_
  refine a_istore_n C dX12_lands_5 (i := 1) rfl (by decide) rfl (vs1 := [some (.ref (ad 236)), some (.int 0), none]) rfl ?_
  refine a_iconst C dX12_lands_6 (v := 0) rfl ?_
  refine a_istore_n C dX12_lands_7 (i := 2) rfl (by decide) rfl (vs1 := [some (.ref (ad 236)), some (.int 0), some (.int 0)]) rfl ?_
  exact j8 _ _ _ _ h
set_option maxHeartbeats 4000000 in
set_option maxRecDepth 100000 in
theorem Z_X12_inHand {l : Launch} {D : va_G} {ids : List Nat} {ad : Nat → Nat} {ca : Nat → ClassId} {σ : HS} {x1 : Int32} {r0 : Int32} {s0 : HS} (hid : ∀ i, i < 277 → i ∈ ids) (h : f_X12_inHand x1 σ = some (r0, s0)) : Ki l D ids ad ca yX12_inHand cX12_inHand 2 .int 6 144 [.ref (ad 236), .int x1] σ (fun r σ1 => r = r0 ∧ σ1 = s0) := by
  obtain ⟨R, hR⟩ : ∃ R, (r0, s0) = R := ⟨_, rfl⟩
  replace h := h.trans (congrArg some hR)
  refine Ki.of (by decide) (Nat.le_of_ble_eq_true rfl) 0 (fun Γ C Rt => ?_)
  show AW ids ad ca Γ 0 [some (.ref (ad 236)), some (.int x1)] [] σ
  unfold f_X12_inHand at h
  refine a_iload_n C dX12_inHand_0 (i := 1) rfl rfl ?_
  refine p_callSi C (As := [.int x1]) h (fun _ _ e => Z_X12_isLong hid e) ms_X12_isLong ml_RX12_402 rfl rfl (Nat.le_of_ble_eq_true rfl) (Nat.le_of_ble_eq_true rfl) (Nat.le_of_ble_eq_true rfl) dX12_inHand_1 (fun r2 σ1 h => ?_)
  refine p_if_ne C (X := r2.toInt) rfl dX12_inHand_4 (tgt := 9) rfl h (fun h => ?_) (fun h => ?_)
  ·
    refine a_aload_n C dX12_inHand_9 (i := 0) rfl rfl ?_
    refine p_callVv C (As := []) (i := 236) kd_236 (hid 236 (by decide)) ⟨_, _, rfl⟩ (by decide) h (fun _ e => Z_X12_copiesStill hid e) mi_X12_copiesStill ml_RX12_429 rfl rfl (Nat.le_of_ble_eq_true rfl) (Nat.le_of_ble_eq_true rfl) (Nat.le_of_ble_eq_true rfl) dX12_inHand_10 (fun σ3 h => ?_)
    refine a_aload_n C dX12_inHand_13 (i := 0) rfl rfl ?_
    refine a_iload_n C dX12_inHand_14 (i := 1) rfl rfl ?_
    refine p_callVv C (As := [.int x1]) (i := 236) kd_236 (hid 236 (by decide)) ⟨_, _, rfl⟩ (by decide) h (fun _ e => Z_X12_goes hid e) mi_X12_goes ml_RX12_405 rfl rfl (Nat.le_of_ble_eq_true rfl) (Nat.le_of_ble_eq_true rfl) (Nat.le_of_ble_eq_true rfl) dX12_inHand_15 (fun σ5 h => ?_)
    refine a_aload_n C dX12_inHand_18 (i := 0) rfl rfl ?_
    refine p_callVi C (As := []) (i := 236) kd_236 (hid 236 (by decide)) ⟨_, _, rfl⟩ (by decide) h (fun _ _ e => Z_X12_catchesNow hid e) mi_X12_catchesNow ml_RX12_378 rfl rfl (Nat.le_of_ble_eq_true rfl) (Nat.le_of_ble_eq_true rfl) (Nat.le_of_ble_eq_true rfl) dX12_inHand_19 (fun r8 σ7 h => ?_)
    exact a_iret Rt dX12_inHand_22 rfl (ret_eq (h.trans (congrArg some hR.symm)))
  ·
    refine a_iconst C dX12_inHand_7 (v := (-1)) rfl ?_
    exact a_iret Rt dX12_inHand_8 rfl (ret_eq (h.trans (congrArg some hR.symm)))
set_option maxHeartbeats 4000000 in
set_option maxRecDepth 100000 in
theorem Z_X12_clash {l : Launch} {D : va_G} {ids : List Nat} {ad : Nat → Nat} {ca : Nat → ClassId} {σ : HS} {r0 : Int32} {s0 : HS} (hid : ∀ i, i < 277 → i ∈ ids) (h : f_X12_clash σ = some (r0, s0)) : Ki l D ids ad ca yX12_clash cX12_clash 2 .int 5 122 [.ref (ad 236)] σ (fun r σ1 => r = r0 ∧ σ1 = s0) := by
  obtain ⟨R, hR⟩ : ∃ R, (r0, s0) = R := ⟨_, rfl⟩
  replace h := h.trans (congrArg some hR)
  refine Ki.of (by decide) (Nat.le_of_ble_eq_true rfl) 1 (fun Γ C Rt => ?_)
  show AW ids ad ca Γ 0 [some (.ref (ad 236)), none] [] σ
  unfold f_X12_clash at h
  have j6 : ∀ (n : Nat) (y1 : Int32) (σ : HS), f_X12_clash_6 n y1 σ = some R → AW ids ad ca Γ 6 [some (.ref (ad 236)), some (.int y1)] [] σ := by
    intro n
    induction n with
    | zero => intro y1 σ h; exact nn h
    | succ n ih =>
      intro y1 σ h
      have h : b_X12_clash_6 (f_X12_clash_6 n) y1 σ = some R := h
      unfold b_X12_clash_6 at h
      refine a_iload_n C dX12_clash_6 (i := 1) rfl rfl ?_
      refine a_bipush C dX12_clash_7 (v := 60) rfl ?_
      refine p_ic_gt C (X := y1.toInt) (Y := 60) rfl (by decide) dX12_clash_9 (tgt := 31) rfl h (fun h => ?_) (fun h => ?_)
      ·
        refine a_bipush C dX12_clash_31 (v := (-2)) rfl ?_
        exact a_iret Rt dX12_clash_33 rfl (ret_eq (h.trans (congrArg some hR.symm)))
      ·
        refine a_aload_n C dX12_clash_12 (i := 0) rfl rfl ?_
        refine p_callVv C (As := []) (i := 236) kd_236 (hid 236 (by decide)) ⟨_, _, rfl⟩ (by decide) h (fun _ e => Z_X12_beatGoes hid e) mi_X12_beatGoes ml_RX12_387 rfl rfl (Nat.le_of_ble_eq_true rfl) (Nat.le_of_ble_eq_true rfl) (Nat.le_of_ble_eq_true rfl) dX12_clash_13 (fun σ1 h => ?_)
        refine a_aload_n C dX12_clash_16 (i := 0) rfl rfl ?_
        refine a_get C fl_RX12_344 (i := 236) kd_236 (hid 236 (by decide)) (v := .int (σ1.1 236 52)) rfl dX12_clash_17 ?_
        refine p_if_eq C (X := (σ1.1 236 52).toInt) rfl dX12_clash_20 (tgt := 25) rfl h (fun h => ?_) (fun h => ?_)
        ·
          refine p_iinc C (y := (y1 + 1)) (fun z3 => [some (.ref (ad 236)), some (.int z3)]) dX12_clash_25 rfl rfl (by decide) rfl (fun _ => rfl) h (fun z3 h => ?_)
          refine a_goto C dX12_clash_28 (tgt := 6) rfl ?_
          exact ih _ _ h
        ·
          refine a_iload_n C dX12_clash_23 (i := 1) rfl rfl ?_
          exact a_iret Rt dX12_clash_24 rfl (ret_eq (h.trans (congrArg some hR.symm)))
  refine a_aload_n C dX12_clash_0 (i := 0) rfl rfl ?_
  refine p_callVv C (As := []) (i := 236) kd_236 (hid 236 (by decide)) ⟨_, _, rfl⟩ (by decide) h (fun _ e => Z_X12_copiesStill hid e) mi_X12_copiesStill ml_RX12_429 rfl rfl (Nat.le_of_ble_eq_true rfl) (Nat.le_of_ble_eq_true rfl) (Nat.le_of_ble_eq_true rfl) dX12_clash_1 (fun σ1 h => ?_)
  refine a_iconst C dX12_clash_4 (v := 0) rfl ?_
  refine a_istore_n C dX12_clash_5 (i := 1) rfl (by decide) rfl (vs1 := [some (.ref (ad 236)), some (.int 0)]) rfl ?_
  exact j6 _ _ _ h
set_option maxHeartbeats 4000000 in
set_option maxRecDepth 100000 in
theorem Z_X12_aimOf {l : Launch} {D : va_G} {ids : List Nat} {ad : Nat → Nat} {ca : Nat → ClassId} {σ : HS} {x1 : Int32} {r0 : Int32} {s0 : HS} (hid : ∀ i, i < 277 → i ∈ ids) (h : f_X12_aimOf x1 σ = some (r0, s0)) : Ki l D ids ad ca yX12_aimOf cX12_aimOf 6 .int 2 43 [.ref (ad 236), .int x1] σ (fun r σ1 => r = r0 ∧ σ1 = s0) := by
  obtain ⟨R, hR⟩ : ∃ R, (r0, s0) = R := ⟨_, rfl⟩
  replace h := h.trans (congrArg some hR)
  refine Ki.of (by decide) (Nat.le_of_ble_eq_true rfl) 4 (fun Γ C Rt => ?_)
  show AW ids ad ca Γ 0 [some (.ref (ad 236)), some (.int x1), none, none, none, none] [] σ
  unfold f_X12_aimOf at h
  have j51 : ∀ (k4 : Int32 → Int32 → Int32 → HS → Option (Int32 × HS)) (hk4 : ∀ (y1 : Int32) (y2 : Int32) (y3 : Int32) (σ : HS), k4 y1 y2 y3 σ = some R → AW ids ad ca Γ 4 [some (.ref (ad 236)), some (.int y1), some (.int y2), some (.int y3), none, none] [] σ) (y1 : Int32) (y2 : Int32) (y3 : Int32) (σ : HS), f_X12_aimOf_51 k4 y1 y2 y3 σ = some R → AW ids ad ca Γ 51 [some (.ref (ad 236)), some (.int y1), some (.int y2), some (.int y3), none, none] [] σ := by
    intro k4 hk4 y1 y2 y3 σ h
    unfold f_X12_aimOf_51 at h
    refine p_iinc C (y := (y3 + 1)) (fun z1 => [some (.ref (ad 236)), some (.int y1), some (.int y2), some (.int z1), none, none]) dX12_aimOf_51 rfl rfl (by decide) rfl (fun _ => rfl) h (fun z1 h => ?_)
    refine a_goto C dX12_aimOf_54 (tgt := 4) rfl ?_
    exact hk4 _ _ _ _ h
  have j4 : ∀ (n : Nat) (y1 : Int32) (y2 : Int32) (y3 : Int32) (σ : HS), f_X12_aimOf_4 n y1 y2 y3 σ = some R → AW ids ad ca Γ 4 [some (.ref (ad 236)), some (.int y1), some (.int y2), some (.int y3), none, none] [] σ := by
    intro n
    induction n with
    | zero => intro y1 y2 y3 σ h; exact nn h
    | succ n ih =>
      intro y1 y2 y3 σ h
      have h : b_X12_aimOf_4 (f_X12_aimOf_4 n) y1 y2 y3 σ = some R := h
      unfold b_X12_aimOf_4 at h
      refine a_iload_n C dX12_aimOf_4 (i := 3) rfl rfl ?_
      refine a_bipush C dX12_aimOf_5 (v := 9) rfl ?_
      refine p_ic_gt C (X := y3.toInt) (Y := 9) rfl (by decide) dX12_aimOf_7 (tgt := 57) rfl h (fun h => ?_) (fun h => ?_)
      ·
        refine a_iload_n C dX12_aimOf_57 (i := 2) rfl rfl ?_
        exact a_iret Rt dX12_aimOf_58 rfl (ret_eq (h.trans (congrArg some hR.symm)))
      ·
        refine a_aload_n C dX12_aimOf_10 (i := 0) rfl rfl ?_
        refine a_iload_n C dX12_aimOf_11 (i := 1) rfl rfl ?_
        refine p_callVi C (As := [.int y1]) (i := 236) kd_236 (hid 236 (by decide)) ⟨_, _, rfl⟩ (by decide) h (fun _ _ e => Z_X12_lengthOf hid e) mi_X12_lengthOf ml_RX12_318 rfl rfl (Nat.le_of_ble_eq_true rfl) (Nat.le_of_ble_eq_true rfl) (Nat.le_of_ble_eq_true rfl) dX12_aimOf_12 (fun r2 σ1 h => ?_)
        refine a_bipush C dX12_aimOf_15 (v := 9) rfl ?_
        refine a_imul C dX12_aimOf_17 ?_
        refine a_iload_n C dX12_aimOf_18 (i := 3) rfl rfl ?_
        refine a_isub C dX12_aimOf_19 ?_
        refine a_aload_n C dX12_aimOf_20 (i := 0) rfl rfl ?_
        refine a_iload_n C dX12_aimOf_21 (i := 1) rfl rfl ?_
        refine p_callVi C (As := [.int y1]) (i := 236) kd_236 (hid 236 (by decide)) ⟨_, _, rfl⟩ (by decide) h (fun _ _ e => Z_X12_lengthOf hid e) mi_X12_lengthOf ml_RX12_318 rfl rfl (Nat.le_of_ble_eq_true rfl) (Nat.le_of_ble_eq_true rfl) (Nat.le_of_ble_eq_true rfl) dX12_aimOf_22 (fun r4 σ3 h => ?_)
        refine p_irem C rfl dX12_aimOf_25 h (fun h => ?_)
        refine p_istore C (fun z5 => [some (.ref (ad 236)), some (.int y1), some (.int y2), some (.int y3), some (.int z5), none]) dX12_aimOf_26 (by decide) rfl (fun _ => rfl) h (fun z5 h => ?_)
        refine a_aload_n C dX12_aimOf_28 (i := 0) rfl rfl ?_
        refine a_iload_n C dX12_aimOf_29 (i := 1) rfl rfl ?_
        refine a_iload C dX12_aimOf_30 rfl ?_
        refine p_callVi C (As := [.int y1, .int z5]) (i := 236) kd_236 (hid 236 (by decide)) ⟨_, _, rfl⟩ (by decide) h (fun _ _ e => Z_X12_heightAt hid e) mi_X12_heightAt ml_RX12_321 rfl rfl (Nat.le_of_ble_eq_true rfl) (Nat.le_of_ble_eq_true rfl) (Nat.le_of_ble_eq_true rfl) dX12_aimOf_32 (fun r7 σ6 h => ?_)
        refine a_iload_n C dX12_aimOf_35 (i := 3) rfl rfl ?_
        refine a_isub C dX12_aimOf_36 ?_
        refine p_istore C (fun z8 => [some (.ref (ad 236)), some (.int y1), some (.int y2), some (.int y3), some (.int z5), some (.int z8)]) dX12_aimOf_37 (by decide) rfl (fun _ => rfl) h (fun z8 h => ?_)
        refine a_iload C dX12_aimOf_39 rfl ?_
        refine p_if_lt C (X := z8.toInt) rfl dX12_aimOf_41 (tgt := 51) rfl h (fun h => ?_) (fun h => ?_)
        ·
          refine AW.sub (vs' := [some (.ref (ad 236)), some (.int y1), some (.int y2), some (.int y3), none, none]) (lsub_of (by simp [lsubB])) ?_
          exact j51 (f_X12_aimOf_4 n) (fun y1 y2 y3 σ h => ih y1 y2 y3 σ h) _ _ _ _ h
        ·
          refine a_iload_n C dX12_aimOf_44 (i := 2) rfl rfl ?_
          refine a_iconst C dX12_aimOf_45 (v := 1) rfl ?_
          refine a_iload C dX12_aimOf_46 rfl ?_
          refine a_ishl C dX12_aimOf_48 ?_
          refine a_ior C dX12_aimOf_49 ?_
          refine p_istore_n C (fun z9 => [some (.ref (ad 236)), some (.int y1), some (.int z9), some (.int y3), some (.int z5), some (.int z8)]) dX12_aimOf_50 (i := 2) rfl (by decide) rfl (fun _ => rfl) h (fun z9 h => ?_)
          refine AW.sub (vs' := [some (.ref (ad 236)), some (.int y1), some (.int z9), some (.int y3), none, none]) (lsub_of (by simp [lsubB])) ?_
          exact j51 (f_X12_aimOf_4 n) (fun y1 y2 y3 σ h => ih y1 y2 y3 σ h) _ _ _ _ h
  refine a_iconst C dX12_aimOf_0 (v := 0) rfl ?_
  refine a_istore_n C dX12_aimOf_1 (i := 2) rfl (by decide) rfl (vs1 := [some (.ref (ad 236)), some (.int x1), some (.int 0), none, none, none]) rfl ?_
  refine a_iconst C dX12_aimOf_2 (v := 1) rfl ?_
  refine a_istore_n C dX12_aimOf_3 (i := 3) rfl (by decide) rfl (vs1 := [some (.ref (ad 236)), some (.int x1), some (.int 0), some (.int 1), none, none]) rfl ?_
  exact j4 _ _ _ _ _ h
set_option maxHeartbeats 4000000 in
set_option maxRecDepth 100000 in
theorem Z_X12_nextOf {l : Launch} {D : va_G} {ids : List Nat} {ad : Nat → Nat} {ca : Nat → ClassId} {σ : HS} {x1 : Int32} {x2 : Int32} {r0 : Int32} {s0 : HS} (hid : ∀ i, i < 277 → i ∈ ids) (h : f_X12_nextOf x1 x2 σ = some (r0, s0)) : Ki l D ids ad ca yX12_nextOf cX12_nextOf 2 .int 0 0 [.int x1, .int x2] σ (fun r σ1 => r = r0 ∧ σ1 = s0) := by
  obtain ⟨R, hR⟩ : ∃ R, (r0, s0) = R := ⟨_, rfl⟩
  replace h := h.trans (congrArg some hR)
  refine Ki.of (by decide) (Nat.le_of_ble_eq_true rfl) 0 (fun Γ C Rt => ?_)
  show AW ids ad ca Γ 0 [some (.int x1), some (.int x2)] [] σ
  unfold f_X12_nextOf at h
  refine a_iload_n C dX12_nextOf_0 (i := 0) rfl rfl ?_
  refine a_iconst C dX12_nextOf_1 (v := 1) rfl ?_
  refine a_iand C dX12_nextOf_2 ?_
  refine p_if_ne C (X := (x1 &&& (1 : Int32)).toInt) rfl dX12_nextOf_3 (tgt := 18) rfl h (fun h => ?_) (fun h => ?_)
  ·
    refine a_iload_n C dX12_nextOf_18 (i := 1) rfl rfl ?_
    refine p_if_eq C (X := x2.toInt) rfl dX12_nextOf_19 (tgt := 31) rfl h (fun h => ?_) (fun h => ?_)
    ·
      refine a_iconst C dX12_nextOf_31 (v := (-1)) rfl ?_
      exact a_iret Rt dX12_nextOf_32 rfl (ret_eq (h.trans (congrArg some hR.symm)))
    ·
      refine a_iload_n C dX12_nextOf_22 (i := 0) rfl rfl ?_
      refine a_iload_n C dX12_nextOf_23 (i := 1) rfl rfl ?_
      refine a_ishr C dX12_nextOf_24 ?_
      refine a_iconst C dX12_nextOf_25 (v := 1) rfl ?_
      refine a_iand C dX12_nextOf_26 ?_
      refine a_iconst C dX12_nextOf_27 (v := 1) rfl ?_
      refine p_ic_ne C (X := ((x1 >>> (x2 &&& 31)) &&& (1 : Int32)).toInt) (Y := 1) rfl (by decide) dX12_nextOf_28 (tgt := 33) rfl h (fun h => ?_) (fun h => ?_)
      ·
        refine a_iload_n C dX12_nextOf_33 (i := 0) rfl rfl ?_
        refine a_iconst C dX12_nextOf_34 (v := 1) rfl ?_
        refine a_ishr C dX12_nextOf_35 ?_
        refine a_iconst C dX12_nextOf_36 (v := 1) rfl ?_
        refine a_iload_n C dX12_nextOf_37 (i := 1) rfl rfl ?_
        refine a_iconst C dX12_nextOf_38 (v := 1) rfl ?_
        refine a_isub C dX12_nextOf_39 ?_
        refine a_ishl C dX12_nextOf_40 ?_
        refine a_ior C dX12_nextOf_41 ?_
        exact a_iret Rt dX12_nextOf_42 rfl (ret_eq (h.trans (congrArg some hR.symm)))
      ·
        refine a_iconst C dX12_nextOf_31 (v := (-1)) rfl ?_
        exact a_iret Rt dX12_nextOf_32 rfl (ret_eq (h.trans (congrArg some hR.symm)))
  ·
    refine a_iload_n C dX12_nextOf_6 (i := 1) rfl rfl ?_
    refine p_if_ne C (X := x2.toInt) rfl dX12_nextOf_7 (tgt := 16) rfl h (fun h => ?_) (fun h => ?_)
    ·
      refine a_iconst C dX12_nextOf_16 (v := (-1)) rfl ?_
      exact a_iret Rt dX12_nextOf_17 rfl (ret_eq (h.trans (congrArg some hR.symm)))
    ·
      refine a_iload_n C dX12_nextOf_10 (i := 0) rfl rfl ?_
      refine a_iconst C dX12_nextOf_11 (v := 1) rfl ?_
      refine a_ishr C dX12_nextOf_12 ?_
      refine a_goto C dX12_nextOf_13 (tgt := 17) rfl ?_
      exact a_iret Rt dX12_nextOf_17 rfl (ret_eq (h.trans (congrArg some hR.symm)))
set_option maxHeartbeats 4000000 in
set_option maxRecDepth 100000 in
theorem Z_X12_fillsFar {l : Launch} {D : va_G} {ids : List Nat} {ad : Nat → Nat} {ca : Nat → ClassId} {σ : HS} {x1 : Int32} {s0 : HS} (hid : ∀ i, i < 277 → i ∈ ids) (h : f_X12_fillsFar x1 σ = some s0) : Kv l D ids ad ca yX12_fillsFar cX12_fillsFar 6 1 21 [.ref (ad 236), .int x1] σ (fun σ1 => σ1 = s0) := by
  obtain ⟨R, hR⟩ : ∃ R, s0 = R := ⟨_, rfl⟩
  replace h := h.trans (congrArg some hR)
  refine Kv.of (by decide) (Nat.le_of_ble_eq_true rfl) 4 (fun Γ C Rt => ?_)
  show AW ids ad ca Γ 0 [some (.ref (ad 236)), some (.int x1), none, none, none, none] [] σ
  unfold f_X12_fillsFar at h
  have j109 : ∀ (k34 : Int32 → HS → Option (HS)) (hk34 : ∀ (y2 : Int32) (σ : HS), k34 y2 σ = some R → AW ids ad ca Γ 34 [some (.ref (ad 236)), none, some (.int y2), none, none, none] [] σ) (k42 : Int32 → Int32 → HS → Option (HS)) (hk42 : ∀ (y2 : Int32) (y3 : Int32) (σ : HS), k42 y2 y3 σ = some R → AW ids ad ca Γ 42 [some (.ref (ad 236)), none, some (.int y2), some (.int y3), none, none] [] σ) (y2 : Int32) (y3 : Int32) (σ : HS), f_X12_fillsFar_109 k34 k42 y2 y3 σ = some R → AW ids ad ca Γ 109 [some (.ref (ad 236)), none, some (.int y2), some (.int y3), none, none] [] σ := by
    intro k34 hk34 k42 hk42 y2 y3 σ h
    unfold f_X12_fillsFar_109 at h
    refine p_iinc C (y := (y3 + 1)) (fun z1 => [some (.ref (ad 236)), none, some (.int y2), some (.int z1), none, none]) dX12_fillsFar_109 rfl rfl (by decide) rfl (fun _ => rfl) h (fun z1 h => ?_)
    refine a_goto C dX12_fillsFar_112 (tgt := 42) rfl ?_
    exact hk42 _ _ _ h
  have j103 : ∀ (k34 : Int32 → HS → Option (HS)) (hk34 : ∀ (y2 : Int32) (σ : HS), k34 y2 σ = some R → AW ids ad ca Γ 34 [some (.ref (ad 236)), none, some (.int y2), none, none, none] [] σ) (k42 : Int32 → Int32 → HS → Option (HS)) (hk42 : ∀ (y2 : Int32) (y3 : Int32) (σ : HS), k42 y2 y3 σ = some R → AW ids ad ca Γ 42 [some (.ref (ad 236)), none, some (.int y2), some (.int y3), none, none] [] σ) (k52 : Int32 → Int32 → Int32 → HS → Option (HS)) (hk52 : ∀ (y2 : Int32) (y3 : Int32) (y4 : Int32) (σ : HS), k52 y2 y3 y4 σ = some R → AW ids ad ca Γ 52 [some (.ref (ad 236)), none, some (.int y2), some (.int y3), some (.int y4), none] [] σ) (y2 : Int32) (y3 : Int32) (y4 : Int32) (σ : HS), f_X12_fillsFar_103 k34 k42 k52 y2 y3 y4 σ = some R → AW ids ad ca Γ 103 [some (.ref (ad 236)), none, some (.int y2), some (.int y3), some (.int y4), none] [] σ := by
    intro k34 hk34 k42 hk42 k52 hk52 y2 y3 y4 σ h
    unfold f_X12_fillsFar_103 at h
    refine p_iinc C (y := (y4 + 1)) (fun z1 => [some (.ref (ad 236)), none, some (.int y2), some (.int y3), some (.int z1), none]) dX12_fillsFar_103 rfl rfl (by decide) rfl (fun _ => rfl) h (fun z1 h => ?_)
    refine a_goto C dX12_fillsFar_106 (tgt := 52) rfl ?_
    exact hk52 _ _ _ _ h
  have j52 : ∀ (k34 : Int32 → HS → Option (HS)) (hk34 : ∀ (y2 : Int32) (σ : HS), k34 y2 σ = some R → AW ids ad ca Γ 34 [some (.ref (ad 236)), none, some (.int y2), none, none, none] [] σ) (k42 : Int32 → Int32 → HS → Option (HS)) (hk42 : ∀ (y2 : Int32) (y3 : Int32) (σ : HS), k42 y2 y3 σ = some R → AW ids ad ca Γ 42 [some (.ref (ad 236)), none, some (.int y2), some (.int y3), none, none] [] σ) (n : Nat) (y2 : Int32) (y3 : Int32) (y4 : Int32) (σ : HS), f_X12_fillsFar_52 k34 k42 n y2 y3 y4 σ = some R → AW ids ad ca Γ 52 [some (.ref (ad 236)), none, some (.int y2), some (.int y3), some (.int y4), none] [] σ := by
    intro k34 hk34 k42 hk42 n
    induction n with
    | zero => intro y2 y3 y4 σ h; exact nn h
    | succ n ih =>
      intro y2 y3 y4 σ h
      have h : b_X12_fillsFar_52 k34 k42 (f_X12_fillsFar_52 k34 k42 n) y2 y3 y4 σ = some R := h
      unfold b_X12_fillsFar_52 at h
      refine a_iload C dX12_fillsFar_52 rfl ?_
      refine a_bipush C dX12_fillsFar_54 (v := 9) rfl ?_
      refine p_ic_gt C (X := y4.toInt) (Y := 9) rfl (by decide) dX12_fillsFar_56 (tgt := 109) rfl h (fun h => ?_) (fun h => ?_)
      ·
        refine AW.sub (vs' := [some (.ref (ad 236)), none, some (.int y2), some (.int y3), none, none]) (lsub_of (by simp [lsubB])) ?_
        exact j109 k34 hk34 k42 hk42 _ _ _ h
      ·
        refine a_aload_n C dX12_fillsFar_59 (i := 0) rfl rfl ?_
        refine a_get C fl_RX12_119 (i := 236) kd_236 (hid 236 (by decide)) (v := .ref (ad 270)) rfl dX12_fillsFar_60 ?_
        refine a_iload_n C dX12_fillsFar_63 (i := 3) rfl rfl ?_
        refine p_iald C (i := 270) (show rowOK 270 from ⟨kd_270, by decide⟩) hid (by rw [al_270]; rfl) dX12_fillsFar_64 h (fun h => ?_)
        refine a_bipush C dX12_fillsFar_65 (v := 99) rfl ?_
        refine p_ic_ne C (X := (σ.1 270 y3.toInt.toNat).toInt) (Y := 99) rfl (by decide) dX12_fillsFar_67 (tgt := 109) rfl h (fun h => ?_) (fun h => ?_)
        ·
          refine AW.sub (vs' := [some (.ref (ad 236)), none, some (.int y2), some (.int y3), none, none]) (lsub_of (by simp [lsubB])) ?_
          exact j109 k34 hk34 k42 hk42 _ _ _ h
        ·
          refine a_iload_n C dX12_fillsFar_70 (i := 3) rfl rfl ?_
          refine a_iload C dX12_fillsFar_71 rfl ?_
          refine p_callSi C (As := [.int y3, .int y4]) h (fun _ _ e => Z_X12_nextOf hid e) ms_X12_nextOf ml_RX12_432 rfl rfl (Nat.le_of_ble_eq_true rfl) (Nat.le_of_ble_eq_true rfl) (Nat.le_of_ble_eq_true rfl) dX12_fillsFar_73 (fun r2 σ1 h => ?_)
          refine a_istore C dX12_fillsFar_76 (by decide) rfl (vs1 := [some (.ref (ad 236)), none, some (.int y2), some (.int y3), some (.int y4), some (.int r2)]) rfl ?_
          refine a_iload C dX12_fillsFar_78 rfl ?_
          refine p_if_lt C (X := r2.toInt) rfl dX12_fillsFar_80 (tgt := 103) rfl h (fun h => ?_) (fun h => ?_)
          ·
            refine AW.sub (vs' := [some (.ref (ad 236)), none, some (.int y2), some (.int y3), some (.int y4), none]) (lsub_of (by simp [lsubB])) ?_
            exact j103 k34 hk34 k42 hk42 (f_X12_fillsFar_52 k34 k42 n) (fun y2 y3 y4 σ h => ih y2 y3 y4 σ h) _ _ _ _ h
          ·
            refine a_aload_n C dX12_fillsFar_83 (i := 0) rfl rfl ?_
            refine a_get C fl_RX12_119 (i := 236) kd_236 (hid 236 (by decide)) (v := .ref (ad 270)) rfl dX12_fillsFar_84 ?_
            refine a_iload C dX12_fillsFar_87 rfl ?_
            refine p_iald C (i := 270) (show rowOK 270 from ⟨kd_270, by decide⟩) hid (by rw [al_270]; rfl) dX12_fillsFar_89 h (fun h => ?_)
            refine a_iload_n C dX12_fillsFar_90 (i := 2) rfl rfl ?_
            refine a_iconst C dX12_fillsFar_91 (v := 1) rfl ?_
            refine a_isub C dX12_fillsFar_92 ?_
            refine p_ic_ne C (X := (σ1.1 270 r2.toInt.toNat).toInt) (Y := (y2 - (1 : Int32)).toInt) rfl rfl dX12_fillsFar_93 (tgt := 103) rfl h (fun h => ?_) (fun h => ?_)
            ·
              refine AW.sub (vs' := [some (.ref (ad 236)), none, some (.int y2), some (.int y3), some (.int y4), none]) (lsub_of (by simp [lsubB])) ?_
              exact j103 k34 hk34 k42 hk42 (f_X12_fillsFar_52 k34 k42 n) (fun y2 y3 y4 σ h => ih y2 y3 y4 σ h) _ _ _ _ h
            ·
              refine a_aload_n C dX12_fillsFar_96 (i := 0) rfl rfl ?_
              refine a_get C fl_RX12_119 (i := 236) kd_236 (hid 236 (by decide)) (v := .ref (ad 270)) rfl dX12_fillsFar_97 ?_
              refine a_iload_n C dX12_fillsFar_100 (i := 3) rfl rfl ?_
              refine a_iload_n C dX12_fillsFar_101 (i := 2) rfl rfl ?_
              refine p_iast C (i := 270) (show rowOK 270 from ⟨kd_270, by decide⟩) hid (by rw [al_270]; rfl) dX12_fillsFar_102 h (fun σ3 h => ?_)
              refine AW.sub (vs' := [some (.ref (ad 236)), none, some (.int y2), some (.int y3), some (.int y4), none]) (lsub_of (by simp [lsubB])) ?_
              exact j103 k34 hk34 k42 hk42 (f_X12_fillsFar_52 k34 k42 n) (fun y2 y3 y4 σ h => ih y2 y3 y4 σ h) _ _ _ _ h
  have j42 : ∀ (k34 : Int32 → HS → Option (HS)) (hk34 : ∀ (y2 : Int32) (σ : HS), k34 y2 σ = some R → AW ids ad ca Γ 34 [some (.ref (ad 236)), none, some (.int y2), none, none, none] [] σ) (n : Nat) (y2 : Int32) (y3 : Int32) (σ : HS), f_X12_fillsFar_42 k34 n y2 y3 σ = some R → AW ids ad ca Γ 42 [some (.ref (ad 236)), none, some (.int y2), some (.int y3), none, none] [] σ := by
    intro k34 hk34 n
    induction n with
    | zero => intro y2 y3 σ h; exact nn h
    | succ n ih =>
      intro y2 y3 σ h
      have h : b_X12_fillsFar_42 k34 (f_X12_fillsFar_42 k34 n) y2 y3 σ = some R := h
      unfold b_X12_fillsFar_42 at h
      refine a_iload_n C dX12_fillsFar_42 (i := 3) rfl rfl ?_
      refine a_sipush C dX12_fillsFar_43 (v := 1024) rfl ?_
      refine p_ic_ge C (X := y3.toInt) (Y := 1024) rfl (by decide) dX12_fillsFar_46 (tgt := 115) rfl h (fun h => ?_) (fun h => ?_)
      ·
        refine p_iinc C (y := (y2 + 1)) (fun z1 => [some (.ref (ad 236)), none, some (.int z1), some (.int y3), none, none]) dX12_fillsFar_115 rfl rfl (by decide) rfl (fun _ => rfl) h (fun z1 h => ?_)
        refine a_goto C dX12_fillsFar_118 (tgt := 34) rfl ?_
        refine AW.sub (vs' := [some (.ref (ad 236)), none, some (.int z1), none, none, none]) (lsub_of (by simp [lsubB])) ?_
        exact hk34 _ _ h
      ·
        refine a_iconst C dX12_fillsFar_49 (v := 0) rfl ?_
        refine a_istore C dX12_fillsFar_50 (by decide) rfl (vs1 := [some (.ref (ad 236)), none, some (.int y2), some (.int y3), some (.int 0), none]) rfl ?_
        exact j52 k34 hk34 (f_X12_fillsFar_42 k34 n) (fun y2 y3 σ h => ih y2 y3 σ h) _ _ _ _ _ h
  have j34 : ∀ (n : Nat) (y2 : Int32) (σ : HS), f_X12_fillsFar_34 n y2 σ = some R → AW ids ad ca Γ 34 [some (.ref (ad 236)), none, some (.int y2), none, none, none] [] σ := by
    intro n
    induction n with
    | zero => intro y2 σ h; exact nn h
    | succ n ih =>
      intro y2 σ h
      have h : b_X12_fillsFar_34 (f_X12_fillsFar_34 n) y2 σ = some R := h
      unfold b_X12_fillsFar_34 at h
      refine a_iload_n C dX12_fillsFar_34 (i := 2) rfl rfl ?_
      refine a_bipush C dX12_fillsFar_35 (v := 12) rfl ?_
      refine p_ic_gt C (X := y2.toInt) (Y := 12) rfl (by decide) dX12_fillsFar_37 (tgt := 121) rfl h (fun h => ?_) (fun h => ?_)
      ·
        exact a_vret Rt dX12_fillsFar_121 (retv_eq (h.trans (congrArg some hR.symm)))
      ·
        refine a_iconst C dX12_fillsFar_40 (v := 0) rfl ?_
        refine a_istore_n C dX12_fillsFar_41 (i := 3) rfl (by decide) rfl (vs1 := [some (.ref (ad 236)), none, some (.int y2), some (.int 0), none, none]) rfl ?_
        exact j42 (f_X12_fillsFar_34 n) (fun y2 σ h => ih y2 σ h) _ _ _ _ h
  have j25 : ∀ (k2 : Int32 → Int32 → HS → Option (HS)) (hk2 : ∀ (y1 : Int32) (y2 : Int32) (σ : HS), k2 y1 y2 σ = some R → AW ids ad ca Γ 2 [some (.ref (ad 236)), some (.int y1), some (.int y2), none, none, none] [] σ) (y1 : Int32) (y2 : Int32) (v0 : Int32) (v1 : Int32) (σ : HS), f_X12_fillsFar_25 k2 y1 y2 v0 v1 σ = some R → AW ids ad ca Γ 25 [some (.ref (ad 236)), some (.int y1), some (.int y2), none, none, none] [.int v0, .int v1, .ref (ad 270)] σ := by
    intro k2 hk2 y1 y2 v0 v1 σ h
    unfold f_X12_fillsFar_25 at h
    refine p_iast C (i := 270) (show rowOK 270 from ⟨kd_270, by decide⟩) hid (by rw [al_270]; rfl) dX12_fillsFar_25 h (fun σ1 h => ?_)
    refine p_iinc C (y := (y2 + 1)) (fun z2 => [some (.ref (ad 236)), some (.int y1), some (.int z2), none, none, none]) dX12_fillsFar_26 rfl rfl (by decide) rfl (fun _ => rfl) h (fun z2 h => ?_)
    refine a_goto C dX12_fillsFar_29 (tgt := 2) rfl ?_
    exact hk2 _ _ _ h
  have j2 : ∀ (n : Nat) (y1 : Int32) (y2 : Int32) (σ : HS), f_X12_fillsFar_2 n y1 y2 σ = some R → AW ids ad ca Γ 2 [some (.ref (ad 236)), some (.int y1), some (.int y2), none, none, none] [] σ := by
    intro n
    induction n with
    | zero => intro y1 y2 σ h; exact nn h
    | succ n ih =>
      intro y1 y2 σ h
      have h : b_X12_fillsFar_2 (f_X12_fillsFar_2 n) y1 y2 σ = some R := h
      unfold b_X12_fillsFar_2 at h
      refine a_iload_n C dX12_fillsFar_2 (i := 2) rfl rfl ?_
      refine a_sipush C dX12_fillsFar_3 (v := 1024) rfl ?_
      refine p_ic_ge C (X := y2.toInt) (Y := 1024) rfl (by decide) dX12_fillsFar_6 (tgt := 32) rfl h (fun h => ?_) (fun h => ?_)
      ·
        refine a_iconst C dX12_fillsFar_32 (v := 1) rfl ?_
        refine a_istore_n C dX12_fillsFar_33 (i := 2) rfl (by decide) rfl (vs1 := [some (.ref (ad 236)), some (.int y1), some (.int 1), none, none, none]) rfl ?_
        refine AW.sub (vs' := [some (.ref (ad 236)), none, some (.int 1), none, none, none]) (lsub_of (by simp [lsubB])) ?_
        exact j34 _ _ _ h
      ·
        refine a_aload_n C dX12_fillsFar_9 (i := 0) rfl rfl ?_
        refine a_get C fl_RX12_119 (i := 236) kd_236 (hid 236 (by decide)) (v := .ref (ad 270)) rfl dX12_fillsFar_10 ?_
        refine a_iload_n C dX12_fillsFar_13 (i := 2) rfl rfl ?_
        refine a_iload_n C dX12_fillsFar_14 (i := 2) rfl rfl ?_
        refine a_iload_n C dX12_fillsFar_15 (i := 1) rfl rfl ?_
        refine p_ic_ne C (X := y2.toInt) (Y := y1.toInt) rfl rfl dX12_fillsFar_16 (tgt := 23) rfl h (fun h => ?_) (fun h => ?_)
        ·
          refine a_bipush C dX12_fillsFar_23 (v := 99) rfl ?_
          exact j25 (f_X12_fillsFar_2 n) (fun y1 y2 σ h => ih y1 y2 σ h) _ _ _ _ _ h
        ·
          refine a_iconst C dX12_fillsFar_19 (v := 0) rfl ?_
          refine a_goto C dX12_fillsFar_20 (tgt := 25) rfl ?_
          exact j25 (f_X12_fillsFar_2 n) (fun y1 y2 σ h => ih y1 y2 σ h) _ _ _ _ _ h
  refine a_iconst C dX12_fillsFar_0 (v := 0) rfl ?_
  refine a_istore_n C dX12_fillsFar_1 (i := 2) rfl (by decide) rfl (vs1 := [some (.ref (ad 236)), some (.int x1), some (.int 0), none, none, none]) rfl ?_
  exact j2 _ _ _ _ h
set_option maxHeartbeats 4000000 in
set_option maxRecDepth 100000 in
theorem Z_X12_firstOf {l : Launch} {D : va_G} {ids : List Nat} {ad : Nat → Nat} {ca : Nat → ClassId} {σ : HS} {x1 : Int32} {r0 : Int32} {s0 : HS} (hid : ∀ i, i < 277 → i ∈ ids) (h : f_X12_firstOf x1 σ = some (r0, s0)) : Ki l D ids ad ca yX12_firstOf cX12_firstOf 3 .int 1 21 [.ref (ad 236), .int x1] σ (fun r σ1 => r = r0 ∧ σ1 = s0) := by
  obtain ⟨R, hR⟩ : ∃ R, (r0, s0) = R := ⟨_, rfl⟩
  replace h := h.trans (congrArg some hR)
  refine Ki.of (by decide) (Nat.le_of_ble_eq_true rfl) 1 (fun Γ C Rt => ?_)
  show AW ids ad ca Γ 0 [some (.ref (ad 236)), some (.int x1), none] [] σ
  unfold f_X12_firstOf at h
  have j31 : ∀ (k2 : Int32 → Int32 → HS → Option (Int32 × HS)) (hk2 : ∀ (y1 : Int32) (y2 : Int32) (σ : HS), k2 y1 y2 σ = some R → AW ids ad ca Γ 2 [some (.ref (ad 236)), some (.int y1), some (.int y2)] [] σ) (y1 : Int32) (y2 : Int32) (σ : HS), f_X12_firstOf_31 k2 y1 y2 σ = some R → AW ids ad ca Γ 31 [some (.ref (ad 236)), some (.int y1), some (.int y2)] [] σ := by
    intro k2 hk2 y1 y2 σ h
    unfold f_X12_firstOf_31 at h
    refine p_iinc C (y := (y2 + 1)) (fun z1 => [some (.ref (ad 236)), some (.int y1), some (.int z1)]) dX12_firstOf_31 rfl rfl (by decide) rfl (fun _ => rfl) h (fun z1 h => ?_)
    refine a_goto C dX12_firstOf_34 (tgt := 2) rfl ?_
    exact hk2 _ _ _ h
  have j2 : ∀ (n : Nat) (y1 : Int32) (y2 : Int32) (σ : HS), f_X12_firstOf_2 n y1 y2 σ = some R → AW ids ad ca Γ 2 [some (.ref (ad 236)), some (.int y1), some (.int y2)] [] σ := by
    intro n
    induction n with
    | zero => intro y1 y2 σ h; exact nn h
    | succ n ih =>
      intro y1 y2 σ h
      have h : b_X12_firstOf_2 (f_X12_firstOf_2 n) y1 y2 σ = some R := h
      unfold b_X12_firstOf_2 at h
      refine a_iload_n C dX12_firstOf_2 (i := 1) rfl rfl ?_
      refine a_iload_n C dX12_firstOf_3 (i := 2) rfl rfl ?_
      refine p_callSi C (As := [.int y1, .int y2]) h (fun _ _ e => Z_X12_nextOf hid e) ms_X12_nextOf ml_RX12_432 rfl rfl (Nat.le_of_ble_eq_true rfl) (Nat.le_of_ble_eq_true rfl) (Nat.le_of_ble_eq_true rfl) dX12_firstOf_4 (fun r2 σ1 h => ?_)
      refine p_if_lt C (X := r2.toInt) rfl dX12_firstOf_7 (tgt := 31) rfl h (fun h => ?_) (fun h => ?_)
      ·
        exact j31 (f_X12_firstOf_2 n) (fun y1 y2 σ h => ih y1 y2 σ h) _ _ _ h
      ·
        refine a_aload_n C dX12_firstOf_10 (i := 0) rfl rfl ?_
        refine a_get C fl_RX12_119 (i := 236) kd_236 (hid 236 (by decide)) (v := .ref (ad 270)) rfl dX12_firstOf_11 ?_
        refine a_iload_n C dX12_firstOf_14 (i := 1) rfl rfl ?_
        refine a_iload_n C dX12_firstOf_15 (i := 2) rfl rfl ?_
        refine p_callSi C (As := [.int y1, .int y2]) h (fun _ _ e => Z_X12_nextOf hid e) ms_X12_nextOf ml_RX12_432 rfl rfl (Nat.le_of_ble_eq_true rfl) (Nat.le_of_ble_eq_true rfl) (Nat.le_of_ble_eq_true rfl) dX12_firstOf_16 (fun r4 σ3 h => ?_)
        refine p_iald C (i := 270) (show rowOK 270 from ⟨kd_270, by decide⟩) hid (by rw [al_270]; rfl) dX12_firstOf_19 h (fun h => ?_)
        refine a_aload_n C dX12_firstOf_20 (i := 0) rfl rfl ?_
        refine a_get C fl_RX12_119 (i := 236) kd_236 (hid 236 (by decide)) (v := .ref (ad 270)) rfl dX12_firstOf_21 ?_
        refine a_iload_n C dX12_firstOf_24 (i := 1) rfl rfl ?_
        refine p_iald C (i := 270) (show rowOK 270 from ⟨kd_270, by decide⟩) hid (by rw [al_270]; rfl) dX12_firstOf_25 h (fun h => ?_)
        refine a_iconst C dX12_firstOf_26 (v := 1) rfl ?_
        refine a_isub C dX12_firstOf_27 ?_
        refine p_ic_eq C (X := (σ3.1 270 r4.toInt.toNat).toInt) (Y := ((σ3.1 270 y1.toInt.toNat) - (1 : Int32)).toInt) rfl rfl dX12_firstOf_28 (tgt := 37) rfl h (fun h => ?_) (fun h => ?_)
        ·
          refine a_iload_n C dX12_firstOf_37 (i := 2) rfl rfl ?_
          exact a_iret Rt dX12_firstOf_38 rfl (ret_eq (h.trans (congrArg some hR.symm)))
        ·
          exact j31 (f_X12_firstOf_2 n) (fun y1 y2 σ h => ih y1 y2 σ h) _ _ _ h
  refine a_iconst C dX12_firstOf_0 (v := 0) rfl ?_
  refine a_istore_n C dX12_firstOf_1 (i := 2) rfl (by decide) rfl (vs1 := [some (.ref (ad 236)), some (.int x1), some (.int 0)]) rfl ?_
  exact j2 _ _ _ _ h
set_option maxHeartbeats 4000000 in
set_option maxRecDepth 100000 in
theorem Z_X12_areTwoSoon {l : Launch} {D : va_G} {ids : List Nat} {ad : Nat → Nat} {ca : Nat → ClassId} {σ : HS} {r0 : Int32} {s0 : HS} (hid : ∀ i, i < 277 → i ∈ ids) (h : f_X12_areTwoSoon σ = some (r0, s0)) : Ki l D ids ad ca yX12_areTwoSoon cX12_areTwoSoon 2 .boolean 2 45 [.ref (ad 236)] σ (fun r σ1 => r = r0 ∧ σ1 = s0) := by
  obtain ⟨R, hR⟩ : ∃ R, (r0, s0) = R := ⟨_, rfl⟩
  replace h := h.trans (congrArg some hR)
  refine Ki.of (by decide) (Nat.le_of_ble_eq_true rfl) 1 (fun Γ C Rt => ?_)
  show AW ids ad ca Γ 0 [some (.ref (ad 236)), none] [] σ
  unfold f_X12_areTwoSoon at h
  have j2 : ∀ (n : Nat) (y1 : Int32) (σ : HS), f_X12_areTwoSoon_2 n y1 σ = some R → AW ids ad ca Γ 2 [some (.ref (ad 236)), some (.int y1)] [] σ := by
    intro n
    induction n with
    | zero => intro y1 σ h; exact nn h
    | succ n ih =>
      intro y1 σ h
      have h : b_X12_areTwoSoon_2 (f_X12_areTwoSoon_2 n) y1 σ = some R := h
      unfold b_X12_areTwoSoon_2 at h
      refine a_iload_n C dX12_areTwoSoon_2 (i := 1) rfl rfl ?_
      refine a_bipush C dX12_areTwoSoon_3 (v := 10) rfl ?_
      refine p_ic_ge C (X := y1.toInt) (Y := 10) rfl (by decide) dX12_areTwoSoon_5 (tgt := 25) rfl h (fun h => ?_) (fun h => ?_)
      ·
        refine a_iconst C dX12_areTwoSoon_25 (v := 0) rfl ?_
        exact a_iret Rt dX12_areTwoSoon_26 (nar_z (by decide)).1 (ret_eq (h.trans (congrArg some hR.symm)))
      ·
        refine a_aload_n C dX12_areTwoSoon_8 (i := 0) rfl rfl ?_
        refine a_iload_n C dX12_areTwoSoon_9 (i := 1) rfl rfl ?_
        refine p_callVi C (As := [.int y1]) (i := 236) kd_236 (hid 236 (by decide)) ⟨_, _, rfl⟩ (by decide) h (fun _ _ e => Z_X12_landsAt hid e) mi_X12_landsAt ml_RX12_426 rfl rfl (Nat.le_of_ble_eq_true rfl) (Nat.le_of_ble_eq_true rfl) (Nat.le_of_ble_eq_true rfl) dX12_areTwoSoon_10 (fun r2 σ1 h => ?_)
        refine a_iconst C dX12_areTwoSoon_13 (v := 1) rfl ?_
        refine p_ic_le C (X := r2.toInt) (Y := 1) rfl (by decide) dX12_areTwoSoon_14 (tgt := 19) rfl h (fun h => ?_) (fun h => ?_)
        ·
          refine p_iinc C (y := (y1 + 1)) (fun z3 => [some (.ref (ad 236)), some (.int z3)]) dX12_areTwoSoon_19 rfl rfl (by decide) rfl (fun _ => rfl) h (fun z3 h => ?_)
          refine a_goto C dX12_areTwoSoon_22 (tgt := 2) rfl ?_
          exact ih _ _ h
        ·
          refine a_iconst C dX12_areTwoSoon_17 (v := 1) rfl ?_
          exact a_iret Rt dX12_areTwoSoon_18 (nar_z (by decide)).1 (ret_eq (h.trans (congrArg some hR.symm)))
  refine a_iconst C dX12_areTwoSoon_0 (v := 0) rfl ?_
  refine a_istore_n C dX12_areTwoSoon_1 (i := 1) rfl (by decide) rfl (vs1 := [some (.ref (ad 236)), some (.int 0)]) rfl ?_
  exact j2 _ _ _ h

