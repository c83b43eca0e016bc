set_option maxHeartbeats 4000000 in
set_option maxRecDepth 100000 in
theorem Z_X12_toldInt {l : Launch} {D : va_G} {ids : List Nat} {ad : Nat → Nat} {ca : Nat → ClassId} {σ : HS} {x1 : Int32} {x2 : Int32} {r0 : Int32} {s0 : HS} (hid : ∀ i, i < 277 → i ∈ ids) (h : f_X12_toldInt x1 x2 σ = some (r0, s0)) : Ki l D ids ad ca yX12_toldInt cX12_toldInt 4 .int 3 64 [.ref (ad 236), .int x1, .int x2] σ (fun r σ1 => r = r0 ∧ σ1 = s0) := by
  obtain ⟨R, hR⟩ : ∃ R, (r0, s0) = R := ⟨_, rfl⟩
  replace h := h.trans (congrArg some hR)
  refine Ki.of (by decide) (Nat.le_of_ble_eq_true rfl) 1 (fun Γ C Rt => ?_)
  show AW ids ad ca Γ 0 [some (.ref (ad 236)), some (.int x1), some (.int x2), none] [] σ
  unfold f_X12_toldInt at h
  refine a_aload_n C dX12_toldInt_0 (i := 0) rfl rfl ?_
  refine p_callVv C (As := []) (i := 236) kd_236 (hid 236 (by decide)) ⟨_, _, rfl⟩ (by decide) h (fun _ e => Z_X12_goesOn hid e) mi_X12_goesOn ml_RX12_212 rfl rfl (Nat.le_of_ble_eq_true rfl) (Nat.le_of_ble_eq_true rfl) (Nat.le_of_ble_eq_true rfl) dX12_toldInt_1 (fun σ1 h => ?_)
  refine a_aload_n C dX12_toldInt_4 (i := 0) rfl rfl ?_
  refine a_iload_n C dX12_toldInt_5 (i := 1) rfl rfl ?_
  refine a_iload_n C dX12_toldInt_6 (i := 2) rfl rfl ?_
  refine p_callVi C (As := [.int x1, .int x2]) (i := 236) kd_236 (hid 236 (by decide)) ⟨_, _, rfl⟩ (by decide) h (fun _ _ e => Z_X12_bounded hid e) mi_X12_bounded ml_RX12_245 rfl rfl (Nat.le_of_ble_eq_true rfl) (Nat.le_of_ble_eq_true rfl) (Nat.le_of_ble_eq_true rfl) dX12_toldInt_7 (fun r4 σ3 h => ?_)
  refine a_istore_n C dX12_toldInt_10 (i := 3) rfl (by decide) rfl (vs1 := [some (.ref (ad 236)), some (.int x1), some (.int x2), some (.int r4)]) rfl ?_
  refine a_aload_n C dX12_toldInt_11 (i := 0) rfl rfl ?_
  refine a_iconst C dX12_toldInt_12 (v := 4) rfl ?_
  refine p_callVv C (As := [.int 4]) (i := 236) kd_236 (hid 236 (by decide)) ⟨_, _, rfl⟩ (by decide) h (fun _ e => Z_X12_must hid e) mi_X12_must ml_RX12_249 rfl rfl (Nat.le_of_ble_eq_true rfl) (Nat.le_of_ble_eq_true rfl) (Nat.le_of_ble_eq_true rfl) dX12_toldInt_13 (fun σ5 h => ?_)
  refine a_iload_n C dX12_toldInt_16 (i := 3) rfl rfl ?_
  exact a_iret Rt dX12_toldInt_17 rfl (ret_eq (h.trans (congrArg some hR.symm)))
set_option maxHeartbeats 4000000 in
set_option maxRecDepth 100000 in
theorem Z_X12_emit {l : Launch} {D : va_G} {ids : List Nat} {ad : Nat → Nat} {ca : Nat → ClassId} {σ : HS} {x1 : Int32} {x2 : Int32} {s0 : HS} (hid : ∀ i, i < 277 → i ∈ ids) (h : f_X12_emit x1 x2 σ = some s0) : Kv l D ids ad ca yX12_emit cX12_emit 3 0 0 [.ref (ad 236), .int x1, .int x2] σ (fun σ1 => σ1 = s0) := by
  obtain ⟨R, hR⟩ : ∃ R, s0 = R := ⟨_, rfl⟩
  replace h := h.trans (congrArg some hR)
  refine Kv.of (by decide) (Nat.le_of_ble_eq_true rfl) 0 (fun Γ C Rt => ?_)
  show AW ids ad ca Γ 0 [some (.ref (ad 236)), some (.int x1), some (.int x2)] [] σ
  unfold f_X12_emit at h
  refine a_aload_n C dX12_emit_0 (i := 0) rfl rfl ?_
  refine a_get C fl_RX12_92 (i := 236) kd_236 (hid 236 (by decide)) (v := .ref (ad 261)) rfl dX12_emit_1 ?_
  refine a_aload_n C dX12_emit_4 (i := 0) rfl rfl ?_
  refine a_get C fl_RX12_233 (i := 236) kd_236 (hid 236 (by decide)) (v := .int (σ.1 236 39)) rfl dX12_emit_5 ?_
  refine a_iload_n C dX12_emit_8 (i := 1) rfl rfl ?_
  refine p_iast C (i := 261) (show rowOK 261 from ⟨kd_261, by decide⟩) hid (by rw [al_261]; rfl) dX12_emit_9 h (fun σ1 h => ?_)
  refine a_aload_n C dX12_emit_10 (i := 0) rfl rfl ?_
  refine a_get C fl_RX12_95 (i := 236) kd_236 (hid 236 (by decide)) (v := .ref (ad 262)) rfl dX12_emit_11 ?_
  refine a_aload_n C dX12_emit_14 (i := 0) rfl rfl ?_
  refine a_get C fl_RX12_233 (i := 236) kd_236 (hid 236 (by decide)) (v := .int (σ1.1 236 39)) rfl dX12_emit_15 ?_
  refine a_iload_n C dX12_emit_18 (i := 2) rfl rfl ?_
  refine p_iast C (i := 262) (show rowOK 262 from ⟨kd_262, by decide⟩) hid (by rw [al_262]; rfl) dX12_emit_19 h (fun σ2 h => ?_)
  refine a_aload_n C dX12_emit_20 (i := 0) rfl rfl ?_
  refine a_dup C dX12_emit_21 rfl ?_
  refine a_get C fl_RX12_233 (i := 236) kd_236 (hid 236 (by decide)) (v := .int (σ2.1 236 39)) rfl dX12_emit_22 ?_
  refine a_iconst C dX12_emit_25 (v := 1) rfl ?_
  refine a_iadd C dX12_emit_26 ?_
  refine p_put C fp_RX12_233 (i := 236) kd_236 (hid 236 (by decide)) rfl rfl dX12_emit_27 h (fun σ3 h => ?_)
  exact a_vret Rt dX12_emit_30 (retv_eq (h.trans (congrArg some hR.symm)))
set_option maxHeartbeats 4000000 in
set_option maxRecDepth 100000 in
theorem Z_X12_unit {l : Launch} {D : va_G} {ids : List Nat} {ad : Nat → Nat} {ca : Nat → ClassId} {σ : HS} {s0 : HS} (hid : ∀ i, i < 277 → i ∈ ids) (h : f_X12_unit σ = some s0) : Kv l D ids ad ca yX12_unit cX12_unit 1 2 41 [.ref (ad 236)] σ (fun σ1 => σ1 = s0) := by
  obtain ⟨R, hR⟩ : ∃ R, s0 = R := ⟨_, rfl⟩
  replace h := h.trans (congrArg some hR)
  refine Kv.of (by decide) (Nat.le_of_ble_eq_true rfl) 0 (fun Γ C Rt => ?_)
  show AW ids ad ca Γ 0 [some (.ref (ad 236))] [] σ
  unfold f_X12_unit at h
  have j88 : ∀ (σ : HS), f_X12_unit_88 σ = some R → AW ids ad ca Γ 88 [some (.ref (ad 236))] [] σ := by
    intro σ h
    unfold f_X12_unit_88 at h
    refine a_aload_n C dX12_unit_88 (i := 0) rfl rfl ?_
    refine a_iconst C dX12_unit_89 (v := 1) rfl ?_
    refine p_callVv C (As := [.int 1]) (i := 236) kd_236 (hid 236 (by decide)) ⟨_, _, rfl⟩ (by decide) h (fun _ e => Z_X12_fail hid e) mi_X12_fail ml_RX12_206 rfl rfl (Nat.le_of_ble_eq_true rfl) (Nat.le_of_ble_eq_true rfl) (Nat.le_of_ble_eq_true rfl) dX12_unit_90 (fun σ1 h => ?_)
    exact a_vret Rt dX12_unit_93 (retv_eq (h.trans (congrArg some hR.symm)))
  refine a_aload_n C dX12_unit_0 (i := 0) rfl rfl ?_
  refine a_iconst C dX12_unit_1 (v := 2) rfl ?_
  refine p_callVi C (As := [.int 2]) (i := 236) kd_236 (hid 236 (by decide)) ⟨_, _, rfl⟩ (by decide) h (fun _ _ e => Z_X12_is hid e) mi_X12_is ml_RX12_209 rfl rfl (Nat.le_of_ble_eq_true rfl) (Nat.le_of_ble_eq_true rfl) (Nat.le_of_ble_eq_true rfl) dX12_unit_2 (fun r2 σ1 h => ?_)
  refine p_if_eq C (X := r2.toInt) rfl dX12_unit_5 (tgt := 29) rfl h (fun h => ?_) (fun h => ?_)
  ·
    refine a_aload_n C dX12_unit_29 (i := 0) rfl rfl ?_
    refine a_get C fl_RX12_191 (i := 236) kd_236 (hid 236 (by decide)) (v := .int (σ1.1 236 13)) rfl dX12_unit_30 ?_
    refine p_if_ne C (X := (σ1.1 236 13).toInt) rfl dX12_unit_33 (tgt := 88) rfl h (fun h => ?_) (fun h => ?_)
    ·
      exact j88 _ h
    ·
      refine a_aload_n C dX12_unit_36 (i := 0) rfl rfl ?_
      refine a_get C fl_RX12_20 (i := 236) kd_236 (hid 236 (by decide)) (v := .ref (ad 239)) rfl dX12_unit_37 ?_
      refine a_aload_n C dX12_unit_40 (i := 0) rfl rfl ?_
      refine a_get C fl_RX12_194 (i := 236) kd_236 (hid 236 (by decide)) (v := .int (σ1.1 236 11)) rfl dX12_unit_41 ?_
      refine p_iald C (i := 239) (show rowOK 239 from ⟨kd_239, by decide⟩) hid (by rw [al_239]; rfl) dX12_unit_44 h (fun h => ?_)
      refine a_bipush C dX12_unit_45 (v := 31) rfl ?_
      refine p_ic_lt C (X := (σ1.1 239 (σ1.1 236 11).toInt.toNat).toInt) (Y := 31) rfl (by decide) dX12_unit_47 (tgt := 88) rfl h (fun h => ?_) (fun h => ?_)
      ·
        exact j88 _ h
      ·
        refine a_aload_n C dX12_unit_50 (i := 0) rfl rfl ?_
        refine a_get C fl_RX12_20 (i := 236) kd_236 (hid 236 (by decide)) (v := .ref (ad 239)) rfl dX12_unit_51 ?_
        refine a_aload_n C dX12_unit_54 (i := 0) rfl rfl ?_
        refine a_get C fl_RX12_194 (i := 236) kd_236 (hid 236 (by decide)) (v := .int (σ1.1 236 11)) rfl dX12_unit_55 ?_
        refine p_iald C (i := 239) (show rowOK 239 from ⟨kd_239, by decide⟩) hid (by rw [al_239]; rfl) dX12_unit_58 h (fun h => ?_)
        refine a_bipush C dX12_unit_59 (v := 39) rfl ?_
        refine p_ic_gt C (X := (σ1.1 239 (σ1.1 236 11).toInt.toNat).toInt) (Y := 39) rfl (by decide) dX12_unit_61 (tgt := 88) rfl h (fun h => ?_) (fun h => ?_)
        ·
          exact j88 _ h
        ·
          refine a_aload_n C dX12_unit_64 (i := 0) rfl rfl ?_
          refine a_iconst C dX12_unit_65 (v := 1) rfl ?_
          refine a_aload_n C dX12_unit_66 (i := 0) rfl rfl ?_
          refine a_get C fl_RX12_20 (i := 236) kd_236 (hid 236 (by decide)) (v := .ref (ad 239)) rfl dX12_unit_67 ?_
          refine a_aload_n C dX12_unit_70 (i := 0) rfl rfl ?_
          refine a_get C fl_RX12_194 (i := 236) kd_236 (hid 236 (by decide)) (v := .int (σ1.1 236 11)) rfl dX12_unit_71 ?_
          refine p_iald C (i := 239) (show rowOK 239 from ⟨kd_239, by decide⟩) hid (by rw [al_239]; rfl) dX12_unit_74 h (fun h => ?_)
          refine a_bipush C dX12_unit_75 (v := 31) rfl ?_
          refine a_isub C dX12_unit_77 ?_
          refine p_callVv C (As := [.int 1, .int ((σ1.1 239 (σ1.1 236 11).toInt.toNat) - (31 : Int32))]) (i := 236) kd_236 (hid 236 (by decide)) ⟨_, _, rfl⟩ (by decide) h (fun _ e => Z_X12_emit hid e) mi_X12_emit ml_RX12_287 rfl rfl (Nat.le_of_ble_eq_true rfl) (Nat.le_of_ble_eq_true rfl) (Nat.le_of_ble_eq_true rfl) dX12_unit_78 (fun σ3 h => ?_)
          refine a_aload_n C dX12_unit_81 (i := 0) rfl rfl ?_
          refine p_callVv C (As := []) (i := 236) kd_236 (hid 236 (by decide)) ⟨_, _, rfl⟩ (by decide) h (fun _ e => Z_X12_goesOn hid e) mi_X12_goesOn ml_RX12_212 rfl rfl (Nat.le_of_ble_eq_true rfl) (Nat.le_of_ble_eq_true rfl) (Nat.le_of_ble_eq_true rfl) dX12_unit_82 (fun σ5 h => ?_)
          refine a_goto C dX12_unit_85 (tgt := 93) rfl ?_
          exact a_vret Rt dX12_unit_93 (retv_eq (h.trans (congrArg some hR.symm)))
  ·
    refine a_aload_n C dX12_unit_8 (i := 0) rfl rfl ?_
    refine a_iconst C dX12_unit_9 (v := 0) rfl ?_
    refine a_aload_n C dX12_unit_10 (i := 0) rfl rfl ?_
    refine a_get C fl_RX12_27 (i := 236) kd_236 (hid 236 (by decide)) (v := .ref (ad 241)) rfl dX12_unit_11 ?_
    refine a_aload_n C dX12_unit_14 (i := 0) rfl rfl ?_
    refine a_get C fl_RX12_194 (i := 236) kd_236 (hid 236 (by decide)) (v := .int (σ1.1 236 11)) rfl dX12_unit_15 ?_
    refine p_iald C (i := 241) (show rowOK 241 from ⟨kd_241, by decide⟩) hid (by rw [al_241]; rfl) dX12_unit_18 h (fun h => ?_)
    refine p_callVv C (As := [.int 0, .int (σ1.1 241 (σ1.1 236 11).toInt.toNat)]) (i := 236) kd_236 (hid 236 (by decide)) ⟨_, _, rfl⟩ (by decide) h (fun _ e => Z_X12_emit hid e) mi_X12_emit ml_RX12_287 rfl rfl (Nat.le_of_ble_eq_true rfl) (Nat.le_of_ble_eq_true rfl) (Nat.le_of_ble_eq_true rfl) dX12_unit_19 (fun σ7 h => ?_)
    refine a_aload_n C dX12_unit_22 (i := 0) rfl rfl ?_
    refine p_callVv C (As := []) (i := 236) kd_236 (hid 236 (by decide)) ⟨_, _, rfl⟩ (by decide) h (fun _ e => Z_X12_goesOn hid e) mi_X12_goesOn ml_RX12_212 rfl rfl (Nat.le_of_ble_eq_true rfl) (Nat.le_of_ble_eq_true rfl) (Nat.le_of_ble_eq_true rfl) dX12_unit_23 (fun σ9 h => ?_)
    refine a_goto C dX12_unit_26 (tgt := 93) rfl ?_
    exact a_vret Rt dX12_unit_93 (retv_eq (h.trans (congrArg some hR.symm)))
set_option maxHeartbeats 4000000 in
set_option maxRecDepth 100000 in
theorem Z_X12_comesOut {l : Launch} {D : va_G} {ids : List Nat} {ad : Nat → Nat} {ca : Nat → ClassId} {σ : HS} {x1 : Int32} {s0 : HS} (hid : ∀ i, i < 277 → i ∈ ids) (h : f_X12_comesOut x1 σ = some s0) : Kv l D ids ad ca yX12_comesOut cX12_comesOut 3 1 22 [.ref (ad 236), .int x1] σ (fun σ1 => σ1 = s0) := by
  obtain ⟨R, hR⟩ : ∃ R, s0 = R := ⟨_, rfl⟩
  replace h := h.trans (congrArg some hR)
  refine Kv.of (by decide) (Nat.le_of_ble_eq_true rfl) 1 (fun Γ C Rt => ?_)
  show AW ids ad ca Γ 0 [some (.ref (ad 236)), some (.int x1), none] [] σ
  unfold f_X12_comesOut at h
  have j84 : ∀ (k0 : Int32 → HS → Option (HS)) (hk0 : ∀ (y1 : Int32) (σ : HS), k0 y1 σ = some R → AW ids ad ca Γ 0 [some (.ref (ad 236)), some (.int y1), none] [] σ) (y1 : Int32) (v0 : Int32) (σ : HS), f_X12_comesOut_84 k0 y1 v0 σ = some R → AW ids ad ca Γ 84 [some (.ref (ad 236)), some (.int y1), none] [.int v0, .ref (ad 236)] σ := by
    intro k0 hk0 y1 v0 σ h
    unfold f_X12_comesOut_84 at h
    refine a_iconst C dX12_comesOut_84 (v := 0) rfl ?_
    refine p_callVv C (As := [.int v0, .int 0]) (i := 236) kd_236 (hid 236 (by decide)) ⟨_, _, rfl⟩ (by decide) h (fun _ e => Z_X12_emit hid e) mi_X12_emit ml_RX12_287 rfl rfl (Nat.le_of_ble_eq_true rfl) (Nat.le_of_ble_eq_true rfl) (Nat.le_of_ble_eq_true rfl) dX12_comesOut_85 (fun σ1 h => ?_)
    refine a_goto C dX12_comesOut_88 (tgt := 0) rfl ?_
    exact hk0 _ _ h
  have j42 : ∀ (k0 : Int32 → HS → Option (HS)) (hk0 : ∀ (y1 : Int32) (σ : HS), k0 y1 σ = some R → AW ids ad ca Γ 0 [some (.ref (ad 236)), some (.int y1), none] [] σ) (y1 : Int32) (y2 : Int32) (σ : HS), f_X12_comesOut_42 k0 y1 y2 σ = some R → AW ids ad ca Γ 42 [some (.ref (ad 236)), some (.int y1), some (.int y2)] [] σ := by
    intro k0 hk0 y1 y2 σ h
    unfold f_X12_comesOut_42 at h
    refine a_aload_n C dX12_comesOut_42 (i := 0) rfl rfl ?_
    refine a_dup C dX12_comesOut_43 rfl ?_
    refine a_get C fl_RX12_284 (i := 236) kd_236 (hid 236 (by decide)) (v := .int (σ.1 236 43)) rfl dX12_comesOut_44 ?_
    refine a_iconst C dX12_comesOut_47 (v := 1) rfl ?_
    refine a_isub C dX12_comesOut_48 ?_
    refine p_put C fp_RX12_284 (i := 236) kd_236 (hid 236 (by decide)) rfl rfl dX12_comesOut_49 h (fun σ1 h => ?_)
    refine a_aload_n C dX12_comesOut_52 (i := 0) rfl rfl ?_
    refine a_iload_n C dX12_comesOut_53 (i := 2) rfl rfl ?_
    refine a_bipush C dX12_comesOut_54 (v := 8) rfl ?_
    refine p_ic_ne C (X := y2.toInt) (Y := 8) rfl (by decide) dX12_comesOut_56 (tgt := 63) rfl h (fun h => ?_) (fun h => ?_)
    ·
      refine a_iload_n C dX12_comesOut_63 (i := 2) rfl rfl ?_
      refine a_bipush C dX12_comesOut_64 (v := 9) rfl ?_
      refine p_ic_ne C (X := y2.toInt) (Y := 9) rfl (by decide) dX12_comesOut_66 (tgt := 73) rfl h (fun h => ?_) (fun h => ?_)
      ·
        refine a_iload_n C dX12_comesOut_73 (i := 2) rfl rfl ?_
        refine a_bipush C dX12_comesOut_74 (v := 10) rfl ?_
        refine p_ic_ne C (X := y2.toInt) (Y := 10) rfl (by decide) dX12_comesOut_76 (tgt := 83) rfl h (fun h => ?_) (fun h => ?_)
        ·
          refine a_iconst C dX12_comesOut_83 (v := 5) rfl ?_
          refine AW.sub (vs' := [some (.ref (ad 236)), some (.int y1), none]) (lsub_of (by simp [lsubB])) ?_
          exact j84 k0 hk0 _ _ _ h
        ·
          refine a_iconst C dX12_comesOut_79 (v := 4) rfl ?_
          refine a_goto C dX12_comesOut_80 (tgt := 84) rfl ?_
          refine AW.sub (vs' := [some (.ref (ad 236)), some (.int y1), none]) (lsub_of (by simp [lsubB])) ?_
          exact j84 k0 hk0 _ _ _ h
      ·
        refine a_iconst C dX12_comesOut_69 (v := 3) rfl ?_
        refine a_goto C dX12_comesOut_70 (tgt := 84) rfl ?_
        refine AW.sub (vs' := [some (.ref (ad 236)), some (.int y1), none]) (lsub_of (by simp [lsubB])) ?_
        exact j84 k0 hk0 _ _ _ h
    ·
      refine a_iconst C dX12_comesOut_59 (v := 2) rfl ?_
      refine a_goto C dX12_comesOut_60 (tgt := 84) rfl ?_
      refine AW.sub (vs' := [some (.ref (ad 236)), some (.int y1), none]) (lsub_of (by simp [lsubB])) ?_
      exact j84 k0 hk0 _ _ _ h
  have j0 : ∀ (n : Nat) (y1 : Int32) (σ : HS), f_X12_comesOut_0 n y1 σ = some R → AW ids ad ca Γ 0 [some (.ref (ad 236)), some (.int y1), none] [] σ := by
    intro n
    induction n with
    | zero => intro y1 σ h; exact nn h
    | succ n ih =>
      intro y1 σ h
      have h : b_X12_comesOut_0 (f_X12_comesOut_0 n) y1 σ = some R := h
      unfold b_X12_comesOut_0 at h
      refine a_aload_n C dX12_comesOut_0 (i := 0) rfl rfl ?_
      refine a_get C fl_RX12_284 (i := 236) kd_236 (hid 236 (by decide)) (v := .int (σ.1 236 43)) rfl dX12_comesOut_1 ?_
      refine p_if_le C (X := (σ.1 236 43).toInt) rfl dX12_comesOut_4 (tgt := 91) rfl h (fun h => ?_) (fun h => ?_)
      ·
        exact a_vret Rt dX12_comesOut_91 (retv_eq (h.trans (congrArg some hR.symm)))
      ·
        refine a_aload_n C dX12_comesOut_7 (i := 0) rfl rfl ?_
        refine a_get C fl_RX12_98 (i := 236) kd_236 (hid 236 (by decide)) (v := .ref (ad 263)) rfl dX12_comesOut_8 ?_
        refine a_aload_n C dX12_comesOut_11 (i := 0) rfl rfl ?_
        refine a_get C fl_RX12_284 (i := 236) kd_236 (hid 236 (by decide)) (v := .int (σ.1 236 43)) rfl dX12_comesOut_12 ?_
        refine a_iconst C dX12_comesOut_15 (v := 1) rfl ?_
        refine a_isub C dX12_comesOut_16 ?_
        refine p_iald C (i := 263) (show rowOK 263 from ⟨kd_263, by decide⟩) hid (by rw [al_263]; rfl) dX12_comesOut_17 h (fun h => ?_)
        refine p_istore_n C (fun z1 => [some (.ref (ad 236)), some (.int y1), some (.int z1)]) dX12_comesOut_18 (i := 2) rfl (by decide) rfl (fun _ => rfl) h (fun z1 h => ?_)
        refine a_iload_n C dX12_comesOut_19 (i := 2) rfl rfl ?_
        refine a_bipush C dX12_comesOut_20 (v := 6) rfl ?_
        refine p_ic_eq C (X := z1.toInt) (Y := 6) rfl (by decide) dX12_comesOut_22 (tgt := 41) rfl h (fun h => ?_) (fun h => ?_)
        ·
          exact a_vret Rt dX12_comesOut_41 (retv_eq (h.trans (congrArg some hR.symm)))
        ·
          refine a_iload_n C dX12_comesOut_25 (i := 1) rfl rfl ?_
          refine p_if_eq C (X := y1.toInt) rfl dX12_comesOut_26 (tgt := 42) rfl h (fun h => ?_) (fun h => ?_)
          ·
            exact j42 (f_X12_comesOut_0 n) (fun y1 σ h => ih y1 σ h) _ _ _ h
          ·
            refine a_iload_n C dX12_comesOut_29 (i := 2) rfl rfl ?_
            refine a_bipush C dX12_comesOut_30 (v := 8) rfl ?_
            refine p_ic_eq C (X := z1.toInt) (Y := 8) rfl (by decide) dX12_comesOut_32 (tgt := 41) rfl h (fun h => ?_) (fun h => ?_)
            ·
              exact a_vret Rt dX12_comesOut_41 (retv_eq (h.trans (congrArg some hR.symm)))
            ·
              refine a_iload_n C dX12_comesOut_35 (i := 2) rfl rfl ?_
              refine a_bipush C dX12_comesOut_36 (v := 9) rfl ?_
              refine p_ic_ne C (X := z1.toInt) (Y := 9) rfl (by decide) dX12_comesOut_38 (tgt := 42) rfl h (fun h => ?_) (fun h => ?_)
              ·
                exact j42 (f_X12_comesOut_0 n) (fun y1 σ h => ih y1 σ h) _ _ _ h
              ·
                exact a_vret Rt dX12_comesOut_41 (retv_eq (h.trans (congrArg some hR.symm)))
  exact j0 _ _ _ h
set_option maxHeartbeats 4000000 in
set_option maxRecDepth 100000 in
theorem Z_X12_expression {l : Launch} {D : va_G} {ids : List Nat} {ad : Nat → Nat} {ca : Nat → ClassId} {σ : HS} {s0 : HS} (hid : ∀ i, i < 277 → i ∈ ids) (h : f_X12_expression σ = some s0) : Kv l D ids ad ca yX12_expression cX12_expression 3 3 61 [.ref (ad 236)] σ (fun σ1 => σ1 = s0) := by
  obtain ⟨R, hR⟩ : ∃ R, s0 = R := ⟨_, rfl⟩
  replace h := h.trans (congrArg some hR)
  refine Kv.of (by decide) (Nat.le_of_ble_eq_true rfl) 2 (fun Γ C Rt => ?_)
  show AW ids ad ca Γ 0 [some (.ref (ad 236)), none, none] [] σ
  unfold f_X12_expression at h
  have j234 : ∀ (k12 : Int32 → Int32 → HS → Option (HS)) (hk12 : ∀ (y1 : Int32) (y2 : Int32) (σ : HS), k12 y1 y2 σ = some R → AW ids ad ca Γ 12 [some (.ref (ad 236)), some (.int y1), some (.int y2)] [] σ) (y1 : Int32) (y2 : Int32) (v0 : Int32) (σ : HS), f_X12_expression_234 k12 y1 y2 v0 σ = some R → AW ids ad ca Γ 234 [some (.ref (ad 236)), some (.int y1), some (.int y2)] [.int v0, .ref (ad 236)] σ := by
    intro k12 hk12 y1 y2 v0 σ h
    unfold f_X12_expression_234 at h
    refine p_callVv C (As := [.int v0]) (i := 236) kd_236 (hid 236 (by decide)) ⟨_, _, rfl⟩ (by decide) h (fun _ e => Z_X12_comesOut hid e) mi_X12_comesOut ml_RX12_293 rfl rfl (Nat.le_of_ble_eq_true rfl) (Nat.le_of_ble_eq_true rfl) (Nat.le_of_ble_eq_true rfl) dX12_expression_234 (fun σ1 h => ?_)
    refine a_aload_n C dX12_expression_237 (i := 0) rfl rfl ?_
    refine a_get C fl_RX12_98 (i := 236) kd_236 (hid 236 (by decide)) (v := .ref (ad 263)) rfl dX12_expression_238 ?_
    refine a_aload_n C dX12_expression_241 (i := 0) rfl rfl ?_
    refine a_get C fl_RX12_284 (i := 236) kd_236 (hid 236 (by decide)) (v := .int (σ1.1 236 43)) rfl dX12_expression_242 ?_
    refine a_aload_n C dX12_expression_245 (i := 0) rfl rfl ?_
    refine a_get C fl_RX12_20 (i := 236) kd_236 (hid 236 (by decide)) (v := .ref (ad 239)) rfl dX12_expression_246 ?_
    refine a_aload_n C dX12_expression_249 (i := 0) rfl rfl ?_
    refine a_get C fl_RX12_194 (i := 236) kd_236 (hid 236 (by decide)) (v := .int (σ1.1 236 11)) rfl dX12_expression_250 ?_
    refine p_iald C (i := 239) (show rowOK 239 from ⟨kd_239, by decide⟩) hid (by rw [al_239]; rfl) dX12_expression_253 h (fun h => ?_)
    refine p_iast C (i := 263) (show rowOK 263 from ⟨kd_263, by decide⟩) hid (by rw [al_263]; rfl) dX12_expression_254 h (fun σ3 h => ?_)
    refine a_aload_n C dX12_expression_255 (i := 0) rfl rfl ?_
    refine a_dup C dX12_expression_256 rfl ?_
    refine a_get C fl_RX12_284 (i := 236) kd_236 (hid 236 (by decide)) (v := .int (σ3.1 236 43)) rfl dX12_expression_257 ?_
    refine a_iconst C dX12_expression_260 (v := 1) rfl ?_
    refine a_iadd C dX12_expression_261 ?_
    refine p_put C fp_RX12_284 (i := 236) kd_236 (hid 236 (by decide)) rfl rfl dX12_expression_262 h (fun σ4 h => ?_)
    refine a_aload_n C dX12_expression_265 (i := 0) rfl rfl ?_
    refine p_callVv C (As := []) (i := 236) kd_236 (hid 236 (by decide)) ⟨_, _, rfl⟩ (by decide) h (fun _ e => Z_X12_goesOn hid e) mi_X12_goesOn ml_RX12_212 rfl rfl (Nat.le_of_ble_eq_true rfl) (Nat.le_of_ble_eq_true rfl) (Nat.le_of_ble_eq_true rfl) dX12_expression_266 (fun σ5 h => ?_)
    refine a_goto C dX12_expression_269 (tgt := 12) rfl ?_
    exact hk12 _ _ _ h
  have j229 : ∀ (k12 : Int32 → Int32 → HS → Option (HS)) (hk12 : ∀ (y1 : Int32) (y2 : Int32) (σ : HS), k12 y1 y2 σ = some R → AW ids ad ca Γ 12 [some (.ref (ad 236)), some (.int y1), some (.int y2)] [] σ) (y1 : Int32) (y2 : Int32) (σ : HS), f_X12_expression_229 k12 y1 y2 σ = some R → AW ids ad ca Γ 229 [some (.ref (ad 236)), some (.int y1), some (.int y2)] [.ref (ad 236)] σ := by
    intro k12 hk12 y1 y2 σ h
    unfold f_X12_expression_229 at h
    refine a_iconst C dX12_expression_229 (v := 1) rfl ?_
    refine a_goto C dX12_expression_230 (tgt := 234) rfl ?_
    exact j234 k12 hk12 _ _ _ _ h
  have j204 : ∀ (σ : HS), f_X12_expression_204 σ = some R → AW ids ad ca Γ 204 [some (.ref (ad 236)), none, none] [] σ := by
    intro σ h
    unfold f_X12_expression_204 at h
    refine a_aload_n C dX12_expression_204 (i := 0) rfl rfl ?_
    refine a_iconst C dX12_expression_205 (v := 0) rfl ?_
    refine p_callVv C (As := [.int 0]) (i := 236) kd_236 (hid 236 (by decide)) ⟨_, _, rfl⟩ (by decide) h (fun _ e => Z_X12_comesOut hid e) mi_X12_comesOut ml_RX12_293 rfl rfl (Nat.le_of_ble_eq_true rfl) (Nat.le_of_ble_eq_true rfl) (Nat.le_of_ble_eq_true rfl) dX12_expression_206 (fun σ1 h => ?_)
    exact a_vret Rt dX12_expression_209 (retv_eq (h.trans (congrArg some hR.symm)))
  have j186 : ∀ (k12 : Int32 → Int32 → HS → Option (HS)) (hk12 : ∀ (y1 : Int32) (y2 : Int32) (σ : HS), k12 y1 y2 σ = some R → AW ids ad ca Γ 12 [some (.ref (ad 236)), some (.int y1), some (.int y2)] [] σ) (y1 : Int32) (v0 : Int32) (σ : HS), f_X12_expression_186 k12 y1 v0 σ = some R → AW ids ad ca Γ 186 [some (.ref (ad 236)), some (.int y1), none] [.int v0] σ := by
    intro k12 hk12 y1 v0 σ h
    unfold f_X12_expression_186 at h
    refine a_istore_n C dX12_expression_186 (i := 2) rfl (by decide) rfl (vs1 := [some (.ref (ad 236)), some (.int y1), some (.int v0)]) rfl ?_
    refine a_iload_n C dX12_expression_187 (i := 2) rfl rfl ?_
    refine p_if_ne C (X := v0.toInt) rfl dX12_expression_188 (tgt := 210) rfl h (fun h => ?_) (fun h => ?_)
    ·
      refine a_aload_n C dX12_expression_210 (i := 0) rfl rfl ?_
      refine a_aload_n C dX12_expression_211 (i := 0) rfl rfl ?_
      refine a_bipush C dX12_expression_212 (v := 10) rfl ?_
      refine p_callVi C (As := [.int 10]) (i := 236) kd_236 (hid 236 (by decide)) ⟨_, _, rfl⟩ (by decide) h (fun _ _ e => Z_X12_is hid e) mi_X12_is ml_RX12_209 rfl rfl (Nat.le_of_ble_eq_true rfl) (Nat.le_of_ble_eq_true rfl) (Nat.le_of_ble_eq_true rfl) dX12_expression_214 (fun r2 σ1 h => ?_)
      refine p_if_ne C (X := r2.toInt) rfl dX12_expression_217 (tgt := 229) rfl h (fun h => ?_) (fun h => ?_)
      ·
        exact j229 k12 hk12 _ _ _ h
      ·
        refine a_aload_n C dX12_expression_220 (i := 0) rfl rfl ?_
        refine a_bipush C dX12_expression_221 (v := 15) rfl ?_
        refine p_callVi C (As := [.int 15]) (i := 236) kd_236 (hid 236 (by decide)) ⟨_, _, rfl⟩ (by decide) h (fun _ _ e => Z_X12_is hid e) mi_X12_is ml_RX12_209 rfl rfl (Nat.le_of_ble_eq_true rfl) (Nat.le_of_ble_eq_true rfl) (Nat.le_of_ble_eq_true rfl) dX12_expression_223 (fun r4 σ3 h => ?_)
        refine p_if_eq C (X := r4.toInt) rfl dX12_expression_226 (tgt := 233) rfl h (fun h => ?_) (fun h => ?_)
        ·
          refine a_iconst C dX12_expression_233 (v := 0) rfl ?_
          exact j234 k12 hk12 _ _ _ _ h
        ·
          exact j229 k12 hk12 _ _ _ h
    ·
      refine a_aload_n C dX12_expression_191 (i := 0) rfl rfl ?_
      refine a_get C fl_RX12_218 (i := 236) kd_236 (hid 236 (by decide)) (v := .int (σ.1 236 12)) rfl dX12_expression_192 ?_
      refine a_iload_n C dX12_expression_195 (i := 1) rfl rfl ?_
      refine p_ic_le C (X := (σ.1 236 12).toInt) (Y := y1.toInt) rfl rfl dX12_expression_196 (tgt := 204) rfl h (fun h => ?_) (fun h => ?_)
      ·
        refine AW.sub (vs' := [some (.ref (ad 236)), none, none]) (lsub_of (by simp [lsubB])) ?_
        exact j204 _ h
      ·
        refine a_aload_n C dX12_expression_199 (i := 0) rfl rfl ?_
        refine a_iconst C dX12_expression_200 (v := 1) rfl ?_
        refine p_callVv C (As := [.int 1]) (i := 236) kd_236 (hid 236 (by decide)) ⟨_, _, rfl⟩ (by decide) h (fun _ e => Z_X12_fail hid e) mi_X12_fail ml_RX12_206 rfl rfl (Nat.le_of_ble_eq_true rfl) (Nat.le_of_ble_eq_true rfl) (Nat.le_of_ble_eq_true rfl) dX12_expression_201 (fun σ5 h => ?_)
        refine AW.sub (vs' := [some (.ref (ad 236)), none, none]) (lsub_of (by simp [lsubB])) ?_
        exact j204 _ h
  have j181 : ∀ (k12 : Int32 → Int32 → HS → Option (HS)) (hk12 : ∀ (y1 : Int32) (y2 : Int32) (σ : HS), k12 y1 y2 σ = some R → AW ids ad ca Γ 12 [some (.ref (ad 236)), some (.int y1), some (.int y2)] [] σ) (y1 : Int32) (σ : HS), f_X12_expression_181 k12 y1 σ = some R → AW ids ad ca Γ 181 [some (.ref (ad 236)), some (.int y1), none] [] σ := by
    intro k12 hk12 y1 σ h
    unfold f_X12_expression_181 at h
    refine a_iconst C dX12_expression_181 (v := 1) rfl ?_
    refine a_goto C dX12_expression_182 (tgt := 186) rfl ?_
    exact j186 k12 hk12 _ _ _ h
  have j145 : ∀ (k12 : Int32 → Int32 → HS → Option (HS)) (hk12 : ∀ (y1 : Int32) (y2 : Int32) (σ : HS), k12 y1 y2 σ = some R → AW ids ad ca Γ 12 [some (.ref (ad 236)), some (.int y1), some (.int y2)] [] σ) (y1 : Int32) (σ : HS), f_X12_expression_145 k12 y1 σ = some R → AW ids ad ca Γ 145 [some (.ref (ad 236)), some (.int y1), none] [] σ := by
    intro k12 hk12 y1 σ h
    unfold f_X12_expression_145 at h
    refine a_aload_n C dX12_expression_145 (i := 0) rfl rfl ?_
    refine a_bipush C dX12_expression_146 (v := 8) rfl ?_
    refine p_callVi C (As := [.int 8]) (i := 236) kd_236 (hid 236 (by decide)) ⟨_, _, rfl⟩ (by decide) h (fun _ _ e => Z_X12_is hid e) mi_X12_is ml_RX12_209 rfl rfl (Nat.le_of_ble_eq_true rfl) (Nat.le_of_ble_eq_true rfl) (Nat.le_of_ble_eq_true rfl) dX12_expression_148 (fun r2 σ1 h => ?_)
    refine p_if_ne C (X := r2.toInt) rfl dX12_expression_151 (tgt := 181) rfl h (fun h => ?_) (fun h => ?_)
    ·
      exact j181 k12 hk12 _ _ h
    ·
      refine a_aload_n C dX12_expression_154 (i := 0) rfl rfl ?_
      refine a_bipush C dX12_expression_155 (v := 9) rfl ?_
      refine p_callVi C (As := [.int 9]) (i := 236) kd_236 (hid 236 (by decide)) ⟨_, _, rfl⟩ (by decide) h (fun _ _ e => Z_X12_is hid e) mi_X12_is ml_RX12_209 rfl rfl (Nat.le_of_ble_eq_true rfl) (Nat.le_of_ble_eq_true rfl) (Nat.le_of_ble_eq_true rfl) dX12_expression_157 (fun r4 σ3 h => ?_)
      refine p_if_ne C (X := r4.toInt) rfl dX12_expression_160 (tgt := 181) rfl h (fun h => ?_) (fun h => ?_)
      ·
        exact j181 k12 hk12 _ _ h
      ·
        refine a_aload_n C dX12_expression_163 (i := 0) rfl rfl ?_
        refine a_bipush C dX12_expression_164 (v := 10) rfl ?_
        refine p_callVi C (As := [.int 10]) (i := 236) kd_236 (hid 236 (by decide)) ⟨_, _, rfl⟩ (by decide) h (fun _ _ e => Z_X12_is hid e) mi_X12_is ml_RX12_209 rfl rfl (Nat.le_of_ble_eq_true rfl) (Nat.le_of_ble_eq_true rfl) (Nat.le_of_ble_eq_true rfl) dX12_expression_166 (fun r6 σ5 h => ?_)
        refine p_if_ne C (X := r6.toInt) rfl dX12_expression_169 (tgt := 181) rfl h (fun h => ?_) (fun h => ?_)
        ·
          exact j181 k12 hk12 _ _ h
        ·
          refine a_aload_n C dX12_expression_172 (i := 0) rfl rfl ?_
          refine a_bipush C dX12_expression_173 (v := 15) rfl ?_
          refine p_callVi C (As := [.int 15]) (i := 236) kd_236 (hid 236 (by decide)) ⟨_, _, rfl⟩ (by decide) h (fun _ _ e => Z_X12_is hid e) mi_X12_is ml_RX12_209 rfl rfl (Nat.le_of_ble_eq_true rfl) (Nat.le_of_ble_eq_true rfl) (Nat.le_of_ble_eq_true rfl) dX12_expression_175 (fun r8 σ7 h => ?_)
          refine p_if_eq C (X := r8.toInt) rfl dX12_expression_178 (tgt := 185) rfl h (fun h => ?_) (fun h => ?_)
          ·
            refine a_iconst C dX12_expression_185 (v := 0) rfl ?_
            exact j186 k12 hk12 _ _ _ h
          ·
            exact j181 k12 hk12 _ _ h
  have j96 : ∀ (k12 : Int32 → Int32 → HS → Option (HS)) (hk12 : ∀ (y1 : Int32) (y2 : Int32) (σ : HS), k12 y1 y2 σ = some R → AW ids ad ca Γ 12 [some (.ref (ad 236)), some (.int y1), some (.int y2)] [] σ) (n : Nat) (y1 : Int32) (σ : HS), f_X12_expression_96 k12 n y1 σ = some R → AW ids ad ca Γ 96 [some (.ref (ad 236)), some (.int y1), none] [] σ := by
    intro k12 hk12 n
    induction n with
    | zero => intro y1 σ h; exact nn h
    | succ n ih =>
      intro y1 σ h
      have h : b_X12_expression_96 k12 (f_X12_expression_96 k12 n) y1 σ = some R := h
      unfold b_X12_expression_96 at h
      refine a_aload_n C dX12_expression_96 (i := 0) rfl rfl ?_
      refine a_bipush C dX12_expression_97 (v := 7) rfl ?_
      refine p_callVi C (As := [.int 7]) (i := 236) kd_236 (hid 236 (by decide)) ⟨_, _, rfl⟩ (by decide) h (fun _ _ e => Z_X12_is hid e) mi_X12_is ml_RX12_209 rfl rfl (Nat.le_of_ble_eq_true rfl) (Nat.le_of_ble_eq_true rfl) (Nat.le_of_ble_eq_true rfl) dX12_expression_99 (fun r2 σ1 h => ?_)
      refine p_if_eq C (X := r2.toInt) rfl dX12_expression_102 (tgt := 145) rfl h (fun h => ?_) (fun h => ?_)
      ·
        exact j145 k12 hk12 _ _ h
      ·
        refine a_aload_n C dX12_expression_105 (i := 0) rfl rfl ?_
        refine a_get C fl_RX12_218 (i := 236) kd_236 (hid 236 (by decide)) (v := .int (σ1.1 236 12)) rfl dX12_expression_106 ?_
        refine a_iload_n C dX12_expression_109 (i := 1) rfl rfl ?_
        refine p_ic_le C (X := (σ1.1 236 12).toInt) (Y := y1.toInt) rfl rfl dX12_expression_110 (tgt := 145) rfl h (fun h => ?_) (fun h => ?_)
        ·
          exact j145 k12 hk12 _ _ h
        ·
          refine a_aload_n C dX12_expression_113 (i := 0) rfl rfl ?_
          refine a_iconst C dX12_expression_114 (v := 0) rfl ?_
          refine p_callVv C (As := [.int 0]) (i := 236) kd_236 (hid 236 (by decide)) ⟨_, _, rfl⟩ (by decide) h (fun _ e => Z_X12_comesOut hid e) mi_X12_comesOut ml_RX12_293 rfl rfl (Nat.le_of_ble_eq_true rfl) (Nat.le_of_ble_eq_true rfl) (Nat.le_of_ble_eq_true rfl) dX12_expression_115 (fun σ3 h => ?_)
          refine a_aload_n C dX12_expression_118 (i := 0) rfl rfl ?_
          refine a_dup C dX12_expression_119 rfl ?_
          refine a_get C fl_RX12_284 (i := 236) kd_236 (hid 236 (by decide)) (v := .int (σ3.1 236 43)) rfl dX12_expression_120 ?_
          refine a_iconst C dX12_expression_123 (v := 1) rfl ?_
          refine a_isub C dX12_expression_124 ?_
          refine p_put C fp_RX12_284 (i := 236) kd_236 (hid 236 (by decide)) rfl rfl dX12_expression_125 h (fun σ5 h => ?_)
          refine a_aload_n C dX12_expression_128 (i := 0) rfl rfl ?_
          refine a_dup C dX12_expression_129 rfl ?_
          refine a_get C fl_RX12_218 (i := 236) kd_236 (hid 236 (by decide)) (v := .int (σ5.1 236 12)) rfl dX12_expression_130 ?_
          refine a_iconst C dX12_expression_133 (v := 1) rfl ?_
          refine a_isub C dX12_expression_134 ?_
          refine p_put C fp_RX12_218 (i := 236) kd_236 (hid 236 (by decide)) rfl rfl dX12_expression_135 h (fun σ6 h => ?_)
          refine a_aload_n C dX12_expression_138 (i := 0) rfl rfl ?_
          refine p_callVv C (As := []) (i := 236) kd_236 (hid 236 (by decide)) ⟨_, _, rfl⟩ (by decide) h (fun _ e => Z_X12_goesOn hid e) mi_X12_goesOn ml_RX12_212 rfl rfl (Nat.le_of_ble_eq_true rfl) (Nat.le_of_ble_eq_true rfl) (Nat.le_of_ble_eq_true rfl) dX12_expression_139 (fun σ7 h => ?_)
          refine a_goto C dX12_expression_142 (tgt := 96) rfl ?_
          exact ih _ _ h
  have j46 : ∀ (k12 : Int32 → Int32 → HS → Option (HS)) (hk12 : ∀ (y1 : Int32) (y2 : Int32) (σ : HS), k12 y1 y2 σ = some R → AW ids ad ca Γ 12 [some (.ref (ad 236)), some (.int y1), some (.int y2)] [] σ) (k23 : Int32 → HS → Option (HS)) (hk23 : ∀ (y1 : Int32) (σ : HS), k23 y1 σ = some R → AW ids ad ca Γ 23 [some (.ref (ad 236)), some (.int y1), none] [] σ) (y1 : Int32) (σ : HS), f_X12_expression_46 k12 k23 y1 σ = some R → AW ids ad ca Γ 46 [some (.ref (ad 236)), some (.int y1), none] [] σ := by
    intro k12 hk12 k23 hk23 y1 σ h
    unfold f_X12_expression_46 at h
    refine a_aload_n C dX12_expression_46 (i := 0) rfl rfl ?_
    refine a_dup C dX12_expression_47 rfl ?_
    refine a_get C fl_RX12_218 (i := 236) kd_236 (hid 236 (by decide)) (v := .int (σ.1 236 12)) rfl dX12_expression_48 ?_
    refine a_iconst C dX12_expression_51 (v := 1) rfl ?_
    refine a_iadd C dX12_expression_52 ?_
    refine p_put C fp_RX12_218 (i := 236) kd_236 (hid 236 (by decide)) rfl rfl dX12_expression_53 h (fun σ1 h => ?_)
    refine a_aload_n C dX12_expression_56 (i := 0) rfl rfl ?_
    refine p_callVv C (As := []) (i := 236) kd_236 (hid 236 (by decide)) ⟨_, _, rfl⟩ (by decide) h (fun _ e => Z_X12_goesOn hid e) mi_X12_goesOn ml_RX12_212 rfl rfl (Nat.le_of_ble_eq_true rfl) (Nat.le_of_ble_eq_true rfl) (Nat.le_of_ble_eq_true rfl) dX12_expression_57 (fun σ2 h => ?_)
    refine a_aload_n C dX12_expression_60 (i := 0) rfl rfl ?_
    refine a_get C fl_RX12_98 (i := 236) kd_236 (hid 236 (by decide)) (v := .ref (ad 263)) rfl dX12_expression_61 ?_
    refine a_aload_n C dX12_expression_64 (i := 0) rfl rfl ?_
    refine a_get C fl_RX12_284 (i := 236) kd_236 (hid 236 (by decide)) (v := .int (σ2.1 236 43)) rfl dX12_expression_65 ?_
    refine a_bipush C dX12_expression_68 (v := 6) rfl ?_
    refine p_iast C (i := 263) (show rowOK 263 from ⟨kd_263, by decide⟩) hid (by rw [al_263]; rfl) dX12_expression_70 h (fun σ4 h => ?_)
    refine a_aload_n C dX12_expression_71 (i := 0) rfl rfl ?_
    refine a_dup C dX12_expression_72 rfl ?_
    refine a_get C fl_RX12_284 (i := 236) kd_236 (hid 236 (by decide)) (v := .int (σ4.1 236 43)) rfl dX12_expression_73 ?_
    refine a_iconst C dX12_expression_76 (v := 1) rfl ?_
    refine a_iadd C dX12_expression_77 ?_
    refine p_put C fp_RX12_284 (i := 236) kd_236 (hid 236 (by decide)) rfl rfl dX12_expression_78 h (fun σ5 h => ?_)
    refine a_goto C dX12_expression_81 (tgt := 23) rfl ?_
    exact hk23 _ _ h
  have j23 : ∀ (k12 : Int32 → Int32 → HS → Option (HS)) (hk12 : ∀ (y1 : Int32) (y2 : Int32) (σ : HS), k12 y1 y2 σ = some R → AW ids ad ca Γ 12 [some (.ref (ad 236)), some (.int y1), some (.int y2)] [] σ) (n : Nat) (y1 : Int32) (σ : HS), f_X12_expression_23 k12 n y1 σ = some R → AW ids ad ca Γ 23 [some (.ref (ad 236)), some (.int y1), none] [] σ := by
    intro k12 hk12 n
    induction n with
    | zero => intro y1 σ h; exact nn h
    | succ n ih =>
      intro y1 σ h
      have h : b_X12_expression_23 k12 (f_X12_expression_23 k12 n) y1 σ = some R := h
      unfold b_X12_expression_23 at h
      refine a_aload_n C dX12_expression_23 (i := 0) rfl rfl ?_
      refine a_bipush C dX12_expression_24 (v := 6) rfl ?_
      refine p_callVi C (As := [.int 6]) (i := 236) kd_236 (hid 236 (by decide)) ⟨_, _, rfl⟩ (by decide) h (fun _ _ e => Z_X12_is hid e) mi_X12_is ml_RX12_209 rfl rfl (Nat.le_of_ble_eq_true rfl) (Nat.le_of_ble_eq_true rfl) (Nat.le_of_ble_eq_true rfl) dX12_expression_26 (fun r2 σ1 h => ?_)
      refine p_if_eq C (X := r2.toInt) rfl dX12_expression_29 (tgt := 84) rfl h (fun h => ?_) (fun h => ?_)
      ·
        refine a_aload_n C dX12_expression_84 (i := 0) rfl rfl ?_
        refine p_callVv C (As := []) (i := 236) kd_236 (hid 236 (by decide)) ⟨_, _, rfl⟩ (by decide) h (fun _ e => Z_X12_unit hid e) mi_X12_unit ml_RX12_290 rfl rfl (Nat.le_of_ble_eq_true rfl) (Nat.le_of_ble_eq_true rfl) (Nat.le_of_ble_eq_true rfl) dX12_expression_85 (fun σ3 h => ?_)
        refine a_aload_n C dX12_expression_88 (i := 0) rfl rfl ?_
        refine a_get C fl_RX12_191 (i := 236) kd_236 (hid 236 (by decide)) (v := .int (σ3.1 236 13)) rfl dX12_expression_89 ?_
        refine p_if_le C (X := (σ3.1 236 13).toInt) rfl dX12_expression_92 (tgt := 96) rfl h (fun h => ?_) (fun h => ?_)
        ·
          exact j96 k12 hk12 _ _ _ h
        ·
          exact a_vret Rt dX12_expression_95 (retv_eq (h.trans (congrArg some hR.symm)))
      ·
        refine a_aload_n C dX12_expression_32 (i := 0) rfl rfl ?_
        refine a_get C fl_RX12_218 (i := 236) kd_236 (hid 236 (by decide)) (v := .int (σ1.1 236 12)) rfl dX12_expression_33 ?_
        refine a_bipush C dX12_expression_36 (v := 6) rfl ?_
        refine p_ic_ne C (X := (σ1.1 236 12).toInt) (Y := 6) rfl (by decide) dX12_expression_38 (tgt := 46) rfl h (fun h => ?_) (fun h => ?_)
        ·
          exact j46 k12 hk12 (f_X12_expression_23 k12 n) (fun y1 σ h => ih y1 σ h) _ _ h
        ·
          refine a_aload_n C dX12_expression_41 (i := 0) rfl rfl ?_
          refine a_iconst C dX12_expression_42 (v := 2) rfl ?_
          refine p_callVv C (As := [.int 2]) (i := 236) kd_236 (hid 236 (by decide)) ⟨_, _, rfl⟩ (by decide) h (fun _ e => Z_X12_fail hid e) mi_X12_fail ml_RX12_206 rfl rfl (Nat.le_of_ble_eq_true rfl) (Nat.le_of_ble_eq_true rfl) (Nat.le_of_ble_eq_true rfl) dX12_expression_43 (fun σ5 h => ?_)
          exact j46 k12 hk12 (f_X12_expression_23 k12 n) (fun y1 σ h => ih y1 σ h) _ _ h
  have j12 : ∀ (n : Nat) (y1 : Int32) (y2 : Int32) (σ : HS), f_X12_expression_12 n y1 y2 σ = some R → AW ids ad ca Γ 12 [some (.ref (ad 236)), some (.int y1), some (.int y2)] [] σ := by
    intro n
    induction n with
    | zero => intro y1 y2 σ h; exact nn h
    | succ n ih =>
      intro y1 y2 σ h
      have h : b_X12_expression_12 (f_X12_expression_12 n) y1 y2 σ = some R := h
      unfold b_X12_expression_12 at h
      refine a_iload_n C dX12_expression_12 (i := 2) rfl rfl ?_
      refine p_if_eq C (X := y2.toInt) rfl dX12_expression_13 (tgt := 272) rfl h (fun h => ?_) (fun h => ?_)
      ·
        exact a_vret Rt dX12_expression_272 (retv_eq (h.trans (congrArg some hR.symm)))
      ·
        refine a_aload_n C dX12_expression_16 (i := 0) rfl rfl ?_
        refine a_get C fl_RX12_191 (i := 236) kd_236 (hid 236 (by decide)) (v := .int (σ.1 236 13)) rfl dX12_expression_17 ?_
        refine p_if_ne C (X := (σ.1 236 13).toInt) rfl dX12_expression_20 (tgt := 272) rfl h (fun h => ?_) (fun h => ?_)
        ·
          exact a_vret Rt dX12_expression_272 (retv_eq (h.trans (congrArg some hR.symm)))
        ·
          refine AW.sub (vs' := [some (.ref (ad 236)), some (.int y1), none]) (lsub_of (by simp [lsubB])) ?_
          exact j23 (f_X12_expression_12 n) (fun y1 y2 σ h => ih y1 y2 σ h) _ _ _ h
  refine a_aload_n C dX12_expression_0 (i := 0) rfl rfl ?_
  refine a_iconst C dX12_expression_1 (v := 0) rfl ?_
  refine p_put C fp_RX12_284 (i := 236) kd_236 (hid 236 (by decide)) rfl rfl dX12_expression_2 h (fun σ1 h => ?_)
  refine a_aload_n C dX12_expression_5 (i := 0) rfl rfl ?_
  refine a_get C fl_RX12_218 (i := 236) kd_236 (hid 236 (by decide)) (v := .int (σ1.1 236 12)) rfl dX12_expression_6 ?_
  refine p_istore_n C (fun z2 => [some (.ref (ad 236)), some (.int z2), none]) dX12_expression_9 (i := 1) rfl (by decide) rfl (fun _ => rfl) h (fun z2 h => ?_)
  refine a_iconst C dX12_expression_10 (v := 1) rfl ?_
  refine a_istore_n C dX12_expression_11 (i := 2) rfl (by decide) rfl (vs1 := [some (.ref (ad 236)), some (.int z2), some (.int 1)]) rfl ?_
  exact j12 _ _ _ _ h
set_option maxHeartbeats 4000000 in
set_option maxRecDepth 100000 in
theorem Z_X12_term {l : Launch} {D : va_G} {ids : List Nat} {ad : Nat → Nat} {ca : Nat → ClassId} {σ : HS} {s0 : HS} (hid : ∀ i, i < 277 → i ∈ ids) (h : f_X12_term σ = some s0) : Kv l D ids ad ca yX12_term cX12_term 1 4 83 [.ref (ad 236)] σ (fun σ1 => σ1 = s0) := by
  obtain ⟨R, hR⟩ : ∃ R, s0 = R := ⟨_, rfl⟩
  replace h := h.trans (congrArg some hR)
  refine Kv.of (by decide) (Nat.le_of_ble_eq_true rfl) 0 (fun Γ C Rt => ?_)
  show AW ids ad ca Γ 0 [some (.ref (ad 236))] [] σ
  unfold f_X12_term at h
  have j24 : ∀ (σ : HS), f_X12_term_24 σ = some R → AW ids ad ca Γ 24 [some (.ref (ad 236))] [] σ := by
    intro σ h
    unfold f_X12_term_24 at h
    refine a_aload_n C dX12_term_24 (i := 0) rfl rfl ?_
    refine a_get C fl_RX12_89 (i := 236) kd_236 (hid 236 (by decide)) (v := .ref (ad 260)) rfl dX12_term_25 ?_
    refine a_aload_n C dX12_term_28 (i := 0) rfl rfl ?_
    refine a_get C fl_RX12_230 (i := 236) kd_236 (hid 236 (by decide)) (v := .int (σ.1 236 33)) rfl dX12_term_29 ?_
    refine a_aload_n C dX12_term_32 (i := 0) rfl rfl ?_
    refine a_get C fl_RX12_233 (i := 236) kd_236 (hid 236 (by decide)) (v := .int (σ.1 236 39)) rfl dX12_term_33 ?_
    refine p_iast C (i := 260) (show rowOK 260 from ⟨kd_260, by decide⟩) hid (by rw [al_260]; rfl) dX12_term_36 h (fun σ1 h => ?_)
    refine a_aload_n C dX12_term_37 (i := 0) rfl rfl ?_
    refine a_dup C dX12_term_38 rfl ?_
    refine a_get C fl_RX12_230 (i := 236) kd_236 (hid 236 (by decide)) (v := .int (σ1.1 236 33)) rfl dX12_term_39 ?_
    refine a_iconst C dX12_term_42 (v := 1) rfl ?_
    refine a_iadd C dX12_term_43 ?_
    refine p_put C fp_RX12_230 (i := 236) kd_236 (hid 236 (by decide)) rfl rfl dX12_term_44 h (fun σ2 h => ?_)
    exact a_vret Rt dX12_term_47 (retv_eq (h.trans (congrArg some hR.symm)))
  refine a_aload_n C dX12_term_0 (i := 0) rfl rfl ?_
  refine a_get C fl_RX12_86 (i := 236) kd_236 (hid 236 (by decide)) (v := .ref (ad 259)) rfl dX12_term_1 ?_
  refine a_aload_n C dX12_term_4 (i := 0) rfl rfl ?_
  refine a_get C fl_RX12_230 (i := 236) kd_236 (hid 236 (by decide)) (v := .int (σ.1 236 33)) rfl dX12_term_5 ?_
  refine a_aload_n C dX12_term_8 (i := 0) rfl rfl ?_
  refine a_get C fl_RX12_233 (i := 236) kd_236 (hid 236 (by decide)) (v := .int (σ.1 236 39)) rfl dX12_term_9 ?_
  refine p_iast C (i := 259) (show rowOK 259 from ⟨kd_259, by decide⟩) hid (by rw [al_259]; rfl) dX12_term_12 h (fun σ1 h => ?_)
  refine a_aload_n C dX12_term_13 (i := 0) rfl rfl ?_
  refine a_get C fl_RX12_191 (i := 236) kd_236 (hid 236 (by decide)) (v := .int (σ1.1 236 13)) rfl dX12_term_14 ?_
  refine p_if_ne C (X := (σ1.1 236 13).toInt) rfl dX12_term_17 (tgt := 24) rfl h (fun h => ?_) (fun h => ?_)
  ·
    exact j24 _ h
  ·
    refine a_aload_n C dX12_term_20 (i := 0) rfl rfl ?_
    refine p_callVv C (As := []) (i := 236) kd_236 (hid 236 (by decide)) ⟨_, _, rfl⟩ (by decide) h (fun _ e => Z_X12_expression hid e) mi_X12_expression ml_RX12_278 rfl rfl (Nat.le_of_ble_eq_true rfl) (Nat.le_of_ble_eq_true rfl) (Nat.le_of_ble_eq_true rfl) dX12_term_21 (fun σ2 h => ?_)
    exact j24 _ h
set_option maxHeartbeats 4000000 in
set_option maxRecDepth 100000 in
theorem Z_X12_tellLaw {l : Launch} {D : va_G} {ids : List Nat} {ad : Nat → Nat} {ca : Nat → ClassId} {σ : HS} {x1 : Int32} {s0 : HS} (hid : ∀ i, i < 277 → i ∈ ids) (h : f_X12_tellLaw x1 σ = some s0) : Kv l D ids ad ca yX12_tellLaw cX12_tellLaw 4 5 103 [.ref (ad 236), .int x1] σ (fun σ1 => σ1 = s0) := by
  obtain ⟨R, hR⟩ : ∃ R, s0 = R := ⟨_, rfl⟩
  replace h := h.trans (congrArg some hR)
  refine Kv.of (by decide) (Nat.le_of_ble_eq_true rfl) 2 (fun Γ C Rt => ?_)
  show AW ids ad ca Γ 0 [some (.ref (ad 236)), some (.int x1), none, none] [] σ
  unfold f_X12_tellLaw at h
  have j129 : ∀ (y1 : Int32) (y2 : Int32) (σ : HS), f_X12_tellLaw_129 y1 y2 σ = some R → AW ids ad ca Γ 129 [some (.ref (ad 236)), some (.int y1), some (.int y2), none] [] σ := by
    intro y1 y2 σ h
    unfold f_X12_tellLaw_129 at h
    refine a_aload_n C dX12_tellLaw_129 (i := 0) rfl rfl ?_
    refine a_get C fl_RX12_76 (i := 236) kd_236 (hid 236 (by decide)) (v := .ref (ad 256)) rfl dX12_tellLaw_130 ?_
    refine a_aload_n C dX12_tellLaw_133 (i := 0) rfl rfl ?_
    refine a_get C fl_RX12_230 (i := 236) kd_236 (hid 236 (by decide)) (v := .int (σ.1 236 33)) rfl dX12_tellLaw_134 ?_
    refine a_iconst C dX12_tellLaw_137 (v := 0) rfl ?_
    refine p_zast C (i := 256) kd_256 (hid 256 (by decide)) (by rw [al_256]; rfl) (by decide) dX12_tellLaw_138 h (fun σ1 h => ?_)
    refine a_aload_n C dX12_tellLaw_139 (i := 0) rfl rfl ?_
    refine p_callVv C (As := []) (i := 236) kd_236 (hid 236 (by decide)) ⟨_, _, rfl⟩ (by decide) h (fun _ e => Z_X12_term hid e) mi_X12_term ml_RX12_281 rfl rfl (Nat.le_of_ble_eq_true rfl) (Nat.le_of_ble_eq_true rfl) (Nat.le_of_ble_eq_true rfl) dX12_tellLaw_140 (fun σ2 h => ?_)
    refine a_aload_n C dX12_tellLaw_143 (i := 0) rfl rfl ?_
    refine a_iconst C dX12_tellLaw_144 (v := 4) rfl ?_
    refine p_callVv C (As := [.int 4]) (i := 236) kd_236 (hid 236 (by decide)) ⟨_, _, rfl⟩ (by decide) h (fun _ e => Z_X12_must hid e) mi_X12_must ml_RX12_249 rfl rfl (Nat.le_of_ble_eq_true rfl) (Nat.le_of_ble_eq_true rfl) (Nat.le_of_ble_eq_true rfl) dX12_tellLaw_145 (fun σ4 h => ?_)
    refine a_aload_n C dX12_tellLaw_148 (i := 0) rfl rfl ?_
    refine a_get C fl_RX12_191 (i := 236) kd_236 (hid 236 (by decide)) (v := .int (σ4.1 236 13)) rfl dX12_tellLaw_149 ?_
    refine p_if_le C (X := (σ4.1 236 13).toInt) rfl dX12_tellLaw_152 (tgt := 156) rfl h (fun h => ?_) (fun h => ?_)
    ·
      refine a_aload_n C dX12_tellLaw_156 (i := 0) rfl rfl ?_
      refine a_get C fl_RX12_70 (i := 236) kd_236 (hid 236 (by decide)) (v := .ref (ad 254)) rfl dX12_tellLaw_157 ?_
      refine a_iconst C dX12_tellLaw_160 (v := 4) rfl ?_
      refine a_aload_n C dX12_tellLaw_161 (i := 0) rfl rfl ?_
      refine a_get C fl_RX12_224 (i := 236) kd_236 (hid 236 (by decide)) (v := .int (σ4.1 236 19)) rfl dX12_tellLaw_162 ?_
      refine a_imul C dX12_tellLaw_165 ?_
      refine a_iload_n C dX12_tellLaw_166 (i := 1) rfl rfl ?_
      refine a_iadd C dX12_tellLaw_167 ?_
      refine a_iload_n C dX12_tellLaw_168 (i := 2) rfl rfl ?_
      refine p_iast C (i := 254) (show rowOK 254 from ⟨kd_254, by decide⟩) hid (by rw [al_254]; rfl) dX12_tellLaw_169 h (fun σ6 h => ?_)
      refine a_aload_n C dX12_tellLaw_170 (i := 0) rfl rfl ?_
      refine a_get C fl_RX12_73 (i := 236) kd_236 (hid 236 (by decide)) (v := .ref (ad 255)) rfl dX12_tellLaw_171 ?_
      refine a_iconst C dX12_tellLaw_174 (v := 4) rfl ?_
      refine a_aload_n C dX12_tellLaw_175 (i := 0) rfl rfl ?_
      refine a_get C fl_RX12_224 (i := 236) kd_236 (hid 236 (by decide)) (v := .int (σ6.1 236 19)) rfl dX12_tellLaw_176 ?_
      refine a_imul C dX12_tellLaw_179 ?_
      refine a_iload_n C dX12_tellLaw_180 (i := 1) rfl rfl ?_
      refine a_iadd C dX12_tellLaw_181 ?_
      refine a_aload_n C dX12_tellLaw_182 (i := 0) rfl rfl ?_
      refine a_get C fl_RX12_230 (i := 236) kd_236 (hid 236 (by decide)) (v := .int (σ6.1 236 33)) rfl dX12_tellLaw_183 ?_
      refine p_iast C (i := 255) (show rowOK 255 from ⟨kd_255, by decide⟩) hid (by rw [al_255]; rfl) dX12_tellLaw_186 h (fun σ7 h => ?_)
      exact a_vret Rt dX12_tellLaw_187 (retv_eq (h.trans (congrArg some hR.symm)))
    ·
      exact a_vret Rt dX12_tellLaw_155 (retv_eq (h.trans (congrArg some hR.symm)))
  have j110 : ∀ (k12 : Int32 → Int32 → Int32 → HS → Option (HS)) (hk12 : ∀ (y1 : Int32) (y2 : Int32) (y3 : Int32) (σ : HS), k12 y1 y2 y3 σ = some R → AW ids ad ca Γ 12 [some (.ref (ad 236)), some (.int y1), some (.int y2), some (.int y3)] [] σ) (y1 : Int32) (y2 : Int32) (y3 : Int32) (σ : HS), f_X12_tellLaw_110 k12 y1 y2 y3 σ = some R → AW ids ad ca Γ 110 [some (.ref (ad 236)), some (.int y1), some (.int y2), some (.int y3)] [] σ := by
    intro k12 hk12 y1 y2 y3 σ h
    unfold f_X12_tellLaw_110 at h
    refine a_aload_n C dX12_tellLaw_110 (i := 0) rfl rfl ?_
    refine a_bipush C dX12_tellLaw_111 (v := 29) rfl ?_
    refine p_callVv C (As := [.int 29]) (i := 236) kd_236 (hid 236 (by decide)) ⟨_, _, rfl⟩ (by decide) h (fun _ e => Z_X12_must hid e) mi_X12_must ml_RX12_249 rfl rfl (Nat.le_of_ble_eq_true rfl) (Nat.le_of_ble_eq_true rfl) (Nat.le_of_ble_eq_true rfl) dX12_tellLaw_113 (fun σ1 h => ?_)
    refine a_aload_n C dX12_tellLaw_116 (i := 0) rfl rfl ?_
    refine p_callVv C (As := []) (i := 236) kd_236 (hid 236 (by decide)) ⟨_, _, rfl⟩ (by decide) h (fun _ e => Z_X12_term hid e) mi_X12_term ml_RX12_281 rfl rfl (Nat.le_of_ble_eq_true rfl) (Nat.le_of_ble_eq_true rfl) (Nat.le_of_ble_eq_true rfl) dX12_tellLaw_117 (fun σ3 h => ?_)
    refine a_aload_n C dX12_tellLaw_120 (i := 0) rfl rfl ?_
    refine a_bipush C dX12_tellLaw_121 (v := 30) rfl ?_
    refine p_callVv C (As := [.int 30]) (i := 236) kd_236 (hid 236 (by decide)) ⟨_, _, rfl⟩ (by decide) h (fun _ e => Z_X12_must hid e) mi_X12_must ml_RX12_249 rfl rfl (Nat.le_of_ble_eq_true rfl) (Nat.le_of_ble_eq_true rfl) (Nat.le_of_ble_eq_true rfl) dX12_tellLaw_123 (fun σ5 h => ?_)
    refine a_goto C dX12_tellLaw_126 (tgt := 12) rfl ?_
    exact hk12 _ _ _ _ h
  have j38 : ∀ (k12 : Int32 → Int32 → Int32 → HS → Option (HS)) (hk12 : ∀ (y1 : Int32) (y2 : Int32) (y3 : Int32) (σ : HS), k12 y1 y2 y3 σ = some R → AW ids ad ca Γ 12 [some (.ref (ad 236)), some (.int y1), some (.int y2), some (.int y3)] [] σ) (y1 : Int32) (y2 : Int32) (y3 : Int32) (σ : HS), f_X12_tellLaw_38 k12 y1 y2 y3 σ = some R → AW ids ad ca Γ 38 [some (.ref (ad 236)), some (.int y1), some (.int y2), some (.int y3)] [] σ := by
    intro k12 hk12 y1 y2 y3 σ h
    unfold f_X12_tellLaw_38 at h
    refine a_aload_n C dX12_tellLaw_38 (i := 0) rfl rfl ?_
    refine a_get C fl_RX12_191 (i := 236) kd_236 (hid 236 (by decide)) (v := .int (σ.1 236 13)) rfl dX12_tellLaw_39 ?_
    refine p_if_le C (X := (σ.1 236 13).toInt) rfl dX12_tellLaw_42 (tgt := 46) rfl h (fun h => ?_) (fun h => ?_)
    ·
      refine p_iinc C (y := (y3 + 1)) (fun z1 => [some (.ref (ad 236)), some (.int y1), some (.int y2), some (.int z1)]) dX12_tellLaw_46 rfl rfl (by decide) rfl (fun _ => rfl) h (fun z1 h => ?_)
      refine a_aload_n C dX12_tellLaw_49 (i := 0) rfl rfl ?_
      refine p_callVv C (As := []) (i := 236) kd_236 (hid 236 (by decide)) ⟨_, _, rfl⟩ (by decide) h (fun _ e => Z_X12_goesOn hid e) mi_X12_goesOn ml_RX12_212 rfl rfl (Nat.le_of_ble_eq_true rfl) (Nat.le_of_ble_eq_true rfl) (Nat.le_of_ble_eq_true rfl) dX12_tellLaw_50 (fun σ2 h => ?_)
      refine a_aload_n C dX12_tellLaw_53 (i := 0) rfl rfl ?_
      refine a_get C fl_RX12_76 (i := 236) kd_236 (hid 236 (by decide)) (v := .ref (ad 256)) rfl dX12_tellLaw_54 ?_
      refine a_aload_n C dX12_tellLaw_57 (i := 0) rfl rfl ?_
      refine a_get C fl_RX12_230 (i := 236) kd_236 (hid 236 (by decide)) (v := .int (σ2.1 236 33)) rfl dX12_tellLaw_58 ?_
      refine a_iconst C dX12_tellLaw_61 (v := 1) rfl ?_
      refine p_zast C (i := 256) kd_256 (hid 256 (by decide)) (by rw [al_256]; rfl) (by decide) dX12_tellLaw_62 h (fun σ4 h => ?_)
      refine a_aload_n C dX12_tellLaw_63 (i := 0) rfl rfl ?_
      refine a_get C fl_RX12_80 (i := 236) kd_236 (hid 236 (by decide)) (v := .ref (ad 257)) rfl dX12_tellLaw_64 ?_
      refine a_aload_n C dX12_tellLaw_67 (i := 0) rfl rfl ?_
      refine a_get C fl_RX12_230 (i := 236) kd_236 (hid 236 (by decide)) (v := .int (σ4.1 236 33)) rfl dX12_tellLaw_68 ?_
      refine a_aload_n C dX12_tellLaw_71 (i := 0) rfl rfl ?_
      refine a_get C fl_RX12_233 (i := 236) kd_236 (hid 236 (by decide)) (v := .int (σ4.1 236 39)) rfl dX12_tellLaw_72 ?_
      refine p_iast C (i := 257) (show rowOK 257 from ⟨kd_257, by decide⟩) hid (by rw [al_257]; rfl) dX12_tellLaw_75 h (fun σ5 h => ?_)
      refine a_aload_n C dX12_tellLaw_76 (i := 0) rfl rfl ?_
      refine p_callVv C (As := []) (i := 236) kd_236 (hid 236 (by decide)) ⟨_, _, rfl⟩ (by decide) h (fun _ e => Z_X12_expression hid e) mi_X12_expression ml_RX12_278 rfl rfl (Nat.le_of_ble_eq_true rfl) (Nat.le_of_ble_eq_true rfl) (Nat.le_of_ble_eq_true rfl) dX12_tellLaw_77 (fun σ6 h => ?_)
      refine a_aload_n C dX12_tellLaw_80 (i := 0) rfl rfl ?_
      refine a_bipush C dX12_tellLaw_81 (v := 13) rfl ?_
      refine p_callVv C (As := [.int 13]) (i := 236) kd_236 (hid 236 (by decide)) ⟨_, _, rfl⟩ (by decide) h (fun _ e => Z_X12_must hid e) mi_X12_must ml_RX12_249 rfl rfl (Nat.le_of_ble_eq_true rfl) (Nat.le_of_ble_eq_true rfl) (Nat.le_of_ble_eq_true rfl) dX12_tellLaw_83 (fun σ8 h => ?_)
      refine a_aload_n C dX12_tellLaw_86 (i := 0) rfl rfl ?_
      refine a_get C fl_RX12_83 (i := 236) kd_236 (hid 236 (by decide)) (v := .ref (ad 258)) rfl dX12_tellLaw_87 ?_
      refine a_aload_n C dX12_tellLaw_90 (i := 0) rfl rfl ?_
      refine a_get C fl_RX12_230 (i := 236) kd_236 (hid 236 (by decide)) (v := .int (σ8.1 236 33)) rfl dX12_tellLaw_91 ?_
      refine a_aload_n C dX12_tellLaw_94 (i := 0) rfl rfl ?_
      refine a_get C fl_RX12_233 (i := 236) kd_236 (hid 236 (by decide)) (v := .int (σ8.1 236 39)) rfl dX12_tellLaw_95 ?_
      refine p_iast C (i := 258) (show rowOK 258 from ⟨kd_258, by decide⟩) hid (by rw [al_258]; rfl) dX12_tellLaw_98 h (fun σ10 h => ?_)
      refine a_aload_n C dX12_tellLaw_99 (i := 0) rfl rfl ?_
      refine a_get C fl_RX12_191 (i := 236) kd_236 (hid 236 (by decide)) (v := .int (σ10.1 236 13)) rfl dX12_tellLaw_100 ?_
      refine p_if_ne C (X := (σ10.1 236 13).toInt) rfl dX12_tellLaw_103 (tgt := 110) rfl h (fun h => ?_) (fun h => ?_)
      ·
        exact j110 k12 hk12 _ _ _ _ h
      ·
        refine a_aload_n C dX12_tellLaw_106 (i := 0) rfl rfl ?_
        refine p_callVv C (As := []) (i := 236) kd_236 (hid 236 (by decide)) ⟨_, _, rfl⟩ (by decide) h (fun _ e => Z_X12_expression hid e) mi_X12_expression ml_RX12_278 rfl rfl (Nat.le_of_ble_eq_true rfl) (Nat.le_of_ble_eq_true rfl) (Nat.le_of_ble_eq_true rfl) dX12_tellLaw_107 (fun σ11 h => ?_)
        exact j110 k12 hk12 _ _ _ _ h
    ·
      exact a_vret Rt dX12_tellLaw_45 (retv_eq (h.trans (congrArg some hR.symm)))
  have j12 : ∀ (n : Nat) (y1 : Int32) (y2 : Int32) (y3 : Int32) (σ : HS), f_X12_tellLaw_12 n y1 y2 y3 σ = some R → AW ids ad ca Γ 12 [some (.ref (ad 236)), some (.int y1), some (.int y2), some (.int y3)] [] σ := by
    intro n
    induction n with
    | zero => intro y1 y2 y3 σ h; exact nn h
    | succ n ih =>
      intro y1 y2 y3 σ h
      have h : b_X12_tellLaw_12 (f_X12_tellLaw_12 n) y1 y2 y3 σ = some R := h
      unfold b_X12_tellLaw_12 at h
      refine a_aload_n C dX12_tellLaw_12 (i := 0) rfl rfl ?_
      refine a_get C fl_RX12_191 (i := 236) kd_236 (hid 236 (by decide)) (v := .int (σ.1 236 13)) rfl dX12_tellLaw_13 ?_
      refine p_if_ne C (X := (σ.1 236 13).toInt) rfl dX12_tellLaw_16 (tgt := 129) rfl h (fun h => ?_) (fun h => ?_)
      ·
        refine AW.sub (vs' := [some (.ref (ad 236)), some (.int y1), some (.int y2), none]) (lsub_of (by simp [lsubB])) ?_
        exact j129 _ _ _ h
      ·
        refine a_aload_n C dX12_tellLaw_19 (i := 0) rfl rfl ?_
        refine a_bipush C dX12_tellLaw_20 (v := 28) rfl ?_
        refine p_callVi C (As := [.int 28]) (i := 236) kd_236 (hid 236 (by decide)) ⟨_, _, rfl⟩ (by decide) h (fun _ _ e => Z_X12_is hid e) mi_X12_is ml_RX12_209 rfl rfl (Nat.le_of_ble_eq_true rfl) (Nat.le_of_ble_eq_true rfl) (Nat.le_of_ble_eq_true rfl) dX12_tellLaw_22 (fun r2 σ1 h => ?_)
        refine p_if_eq C (X := r2.toInt) rfl dX12_tellLaw_25 (tgt := 129) rfl h (fun h => ?_) (fun h => ?_)
        ·
          refine AW.sub (vs' := [some (.ref (ad 236)), some (.int y1), some (.int y2), none]) (lsub_of (by simp [lsubB])) ?_
          exact j129 _ _ _ h
        ·
          refine a_iload_n C dX12_tellLaw_28 (i := 3) rfl rfl ?_
          refine a_iconst C dX12_tellLaw_29 (v := 4) rfl ?_
          refine p_ic_ne C (X := y3.toInt) (Y := 4) rfl (by decide) dX12_tellLaw_30 (tgt := 38) rfl h (fun h => ?_) (fun h => ?_)
          ·
            exact j38 (f_X12_tellLaw_12 n) (fun y1 y2 y3 σ h => ih y1 y2 y3 σ h) _ _ _ _ h
          ·
            refine a_aload_n C dX12_tellLaw_33 (i := 0) rfl rfl ?_
            refine a_iconst C dX12_tellLaw_34 (v := 2) rfl ?_
            refine p_callVv C (As := [.int 2]) (i := 236) kd_236 (hid 236 (by decide)) ⟨_, _, rfl⟩ (by decide) h (fun _ e => Z_X12_fail hid e) mi_X12_fail ml_RX12_206 rfl rfl (Nat.le_of_ble_eq_true rfl) (Nat.le_of_ble_eq_true rfl) (Nat.le_of_ble_eq_true rfl) dX12_tellLaw_35 (fun σ3 h => ?_)
            exact j38 (f_X12_tellLaw_12 n) (fun y1 y2 y3 σ h => ih y1 y2 y3 σ h) _ _ _ _ h
  refine a_aload_n C dX12_tellLaw_0 (i := 0) rfl rfl ?_
  refine a_iconst C dX12_tellLaw_1 (v := 5) rfl ?_
  refine p_callVv C (As := [.int 5]) (i := 236) kd_236 (hid 236 (by decide)) ⟨_, _, rfl⟩ (by decide) h (fun _ e => Z_X12_must hid e) mi_X12_must ml_RX12_249 rfl rfl (Nat.le_of_ble_eq_true rfl) (Nat.le_of_ble_eq_true rfl) (Nat.le_of_ble_eq_true rfl) dX12_tellLaw_2 (fun σ1 h => ?_)
  refine a_aload_n C dX12_tellLaw_5 (i := 0) rfl rfl ?_
  refine a_get C fl_RX12_230 (i := 236) kd_236 (hid 236 (by decide)) (v := .int (σ1.1 236 33)) rfl dX12_tellLaw_6 ?_
  refine p_istore_n C (fun z3 => [some (.ref (ad 236)), some (.int x1), some (.int z3), none]) dX12_tellLaw_9 (i := 2) rfl (by decide) rfl (fun _ => rfl) h (fun z3 h => ?_)
  refine a_iconst C dX12_tellLaw_10 (v := 0) rfl ?_
  refine a_istore_n C dX12_tellLaw_11 (i := 3) rfl (by decide) rfl (vs1 := [some (.ref (ad 236)), some (.int x1), some (.int z3), some (.int 0)]) rfl ?_
  exact j12 _ _ _ _ _ h
set_option maxHeartbeats 4000000 in
set_option maxRecDepth 100000 in
theorem Z_X12_tellOne {l : Launch} {D : va_G} {ids : List Nat} {ad : Nat → Nat} {ca : Nat → ClassId} {σ : HS} {s0 : HS} (hid : ∀ i, i < 277 → i ∈ ids) (h : f_X12_tellOne σ = some s0) : Kv l D ids ad ca yX12_tellOne cX12_tellOne 2 6 126 [.ref (ad 236)] σ (fun σ1 => σ1 = s0) := by
  obtain ⟨R, hR⟩ : ∃ R, s0 = R := ⟨_, rfl⟩
  replace h := h.trans (congrArg some hR)
  refine Kv.of (by decide) (Nat.le_of_ble_eq_true rfl) 1 (fun Γ C Rt => ?_)
  show AW ids ad ca Γ 0 [some (.ref (ad 236)), none] [] σ
  unfold f_X12_tellOne at h
  have j188 : ∀ (y1 : Int32) (σ : HS), f_X12_tellOne_188 y1 σ = some R → AW ids ad ca Γ 188 [some (.ref (ad 236)), some (.int y1)] [] σ := by
    intro y1 σ h
    unfold f_X12_tellOne_188 at h
    refine a_aload_n C dX12_tellOne_188 (i := 0) rfl rfl ?_
    refine a_get C fl_RX12_191 (i := 236) kd_236 (hid 236 (by decide)) (v := .int (σ.1 236 13)) rfl dX12_tellOne_189 ?_
    refine p_if_le C (X := (σ.1 236 13).toInt) rfl dX12_tellOne_192 (tgt := 196) rfl h (fun h => ?_) (fun h => ?_)
    ·
      refine a_aload_n C dX12_tellOne_196 (i := 0) rfl rfl ?_
      refine p_callVv C (As := []) (i := 236) kd_236 (hid 236 (by decide)) ⟨_, _, rfl⟩ (by decide) h (fun _ e => Z_X12_goesOn hid e) mi_X12_goesOn ml_RX12_212 rfl rfl (Nat.le_of_ble_eq_true rfl) (Nat.le_of_ble_eq_true rfl) (Nat.le_of_ble_eq_true rfl) dX12_tellOne_197 (fun σ1 h => ?_)
      refine a_aload_n C dX12_tellOne_200 (i := 0) rfl rfl ?_
      refine a_iload_n C dX12_tellOne_201 (i := 1) rfl rfl ?_
      refine p_callVv C (As := [.int y1]) (i := 236) kd_236 (hid 236 (by decide)) ⟨_, _, rfl⟩ (by decide) h (fun _ e => Z_X12_tellLaw hid e) mi_X12_tellLaw ml_RX12_265 rfl rfl (Nat.le_of_ble_eq_true rfl) (Nat.le_of_ble_eq_true rfl) (Nat.le_of_ble_eq_true rfl) dX12_tellOne_202 (fun σ3 h => ?_)
      exact a_vret Rt dX12_tellOne_205 (retv_eq (h.trans (congrArg some hR.symm)))
    ·
      exact a_vret Rt dX12_tellOne_195 (retv_eq (h.trans (congrArg some hR.symm)))
  have j183 : ∀ (y1 : Int32) (σ : HS), f_X12_tellOne_183 y1 σ = some R → AW ids ad ca Γ 183 [some (.ref (ad 236)), some (.int y1)] [] σ := by
    intro y1 σ h
    unfold f_X12_tellOne_183 at h
    refine a_aload_n C dX12_tellOne_183 (i := 0) rfl rfl ?_
    refine a_iconst C dX12_tellOne_184 (v := 1) rfl ?_
    refine p_callVv C (As := [.int 1]) (i := 236) kd_236 (hid 236 (by decide)) ⟨_, _, rfl⟩ (by decide) h (fun _ e => Z_X12_fail hid e) mi_X12_fail ml_RX12_206 rfl rfl (Nat.le_of_ble_eq_true rfl) (Nat.le_of_ble_eq_true rfl) (Nat.le_of_ble_eq_true rfl) dX12_tellOne_185 (fun σ1 h => ?_)
    exact j188 _ _ h
  refine a_aload_n C dX12_tellOne_0 (i := 0) rfl rfl ?_
  refine a_get C fl_RX12_20 (i := 236) kd_236 (hid 236 (by decide)) (v := .ref (ad 239)) rfl dX12_tellOne_1 ?_
  refine a_aload_n C dX12_tellOne_4 (i := 0) rfl rfl ?_
  refine a_get C fl_RX12_194 (i := 236) kd_236 (hid 236 (by decide)) (v := .int (σ.1 236 11)) rfl dX12_tellOne_5 ?_
  refine p_iald C (i := 239) (show rowOK 239 from ⟨kd_239, by decide⟩) hid (by rw [al_239]; rfl) dX12_tellOne_8 h (fun h => ?_)
  refine ite_k h (fun c1 h => ?_) (fun c1 h => ?_)
  ·
    refine a_tableIn C dX12_tellOne_9 (by omega) (by omega) (by rw [c1]; rfl) (tgt := 56) rfl ?_
    refine a_aload_n C dX12_tellOne_56 (i := 0) rfl rfl ?_
    refine a_aload_n C dX12_tellOne_57 (i := 0) rfl rfl ?_
    refine a_get C fl_RX12_43 (i := 236) kd_236 (hid 236 (by decide)) (v := .ref (ad 245)) rfl dX12_tellOne_58 ?_
    refine a_aload_n C dX12_tellOne_61 (i := 0) rfl rfl ?_
    refine a_get C fl_RX12_224 (i := 236) kd_236 (hid 236 (by decide)) (v := .int (σ.1 236 19)) rfl dX12_tellOne_62 ?_
    refine p_iald C (i := 245) (show rowOK 245 from ⟨kd_245, by decide⟩) hid (by rw [al_245]; rfl) dX12_tellOne_65 h (fun h => ?_)
    refine a_bipush C dX12_tellOne_66 (v := 7) rfl ?_
    refine p_callVv C (As := [.int (σ.1 245 (σ.1 236 19).toInt.toNat), .int 7]) (i := 236) kd_236 (hid 236 (by decide)) ⟨_, _, rfl⟩ (by decide) h (fun _ e => Z_X12_roomFor hid e) mi_X12_roomFor ml_RX12_252 rfl rfl (Nat.le_of_ble_eq_true rfl) (Nat.le_of_ble_eq_true rfl) (Nat.le_of_ble_eq_true rfl) dX12_tellOne_68 (fun σ1 h => ?_)
    refine a_aload_n C dX12_tellOne_71 (i := 0) rfl rfl ?_
    refine a_get C fl_RX12_191 (i := 236) kd_236 (hid 236 (by decide)) (v := .int (σ1.1 236 13)) rfl dX12_tellOne_72 ?_
    refine p_if_ne C (X := (σ1.1 236 13).toInt) rfl dX12_tellOne_75 (tgt := 205) rfl h (fun h => ?_) (fun h => ?_)
    ·
      exact a_vret Rt dX12_tellOne_205 (retv_eq (h.trans (congrArg some hR.symm)))
    ·
      refine a_aload_n C dX12_tellOne_78 (i := 0) rfl rfl ?_
      refine p_callVv C (As := []) (i := 236) kd_236 (hid 236 (by decide)) ⟨_, _, rfl⟩ (by decide) h (fun _ e => Z_X12_tellThing hid e) mi_X12_tellThing ml_RX12_256 rfl rfl (Nat.le_of_ble_eq_true rfl) (Nat.le_of_ble_eq_true rfl) (Nat.le_of_ble_eq_true rfl) dX12_tellOne_79 (fun σ3 h => ?_)
      refine a_goto C dX12_tellOne_82 (tgt := 205) rfl ?_
      exact a_vret Rt dX12_tellOne_205 (retv_eq (h.trans (congrArg some hR.symm)))
  ·
    refine ite_k h (fun c2 h => ?_) (fun c2 h => ?_)
    ·
      refine a_tableIn C dX12_tellOne_9 (by omega) (by omega) (by rw [c2]; rfl) (tgt := 85) rfl ?_
      refine a_aload_n C dX12_tellOne_85 (i := 0) rfl rfl ?_
      refine a_aload_n C dX12_tellOne_86 (i := 0) rfl rfl ?_
      refine a_get C fl_RX12_55 (i := 236) kd_236 (hid 236 (by decide)) (v := .ref (ad 249)) rfl dX12_tellOne_87 ?_
      refine a_aload_n C dX12_tellOne_90 (i := 0) rfl rfl ?_
      refine a_get C fl_RX12_224 (i := 236) kd_236 (hid 236 (by decide)) (v := .int (σ.1 236 19)) rfl dX12_tellOne_91 ?_
      refine p_iald C (i := 249) (show rowOK 249 from ⟨kd_249, by decide⟩) hid (by rw [al_249]; rfl) dX12_tellOne_94 h (fun h => ?_)
      refine a_iconst C dX12_tellOne_95 (v := 5) rfl ?_
      refine p_callVv C (As := [.int (σ.1 249 (σ.1 236 19).toInt.toNat), .int 5]) (i := 236) kd_236 (hid 236 (by decide)) ⟨_, _, rfl⟩ (by decide) h (fun _ e => Z_X12_roomFor hid e) mi_X12_roomFor ml_RX12_252 rfl rfl (Nat.le_of_ble_eq_true rfl) (Nat.le_of_ble_eq_true rfl) (Nat.le_of_ble_eq_true rfl) dX12_tellOne_96 (fun σ5 h => ?_)
      refine a_aload_n C dX12_tellOne_99 (i := 0) rfl rfl ?_
      refine a_get C fl_RX12_191 (i := 236) kd_236 (hid 236 (by decide)) (v := .int (σ5.1 236 13)) rfl dX12_tellOne_100 ?_
      refine p_if_ne C (X := (σ5.1 236 13).toInt) rfl dX12_tellOne_103 (tgt := 205) rfl h (fun h => ?_) (fun h => ?_)
      ·
        exact a_vret Rt dX12_tellOne_205 (retv_eq (h.trans (congrArg some hR.symm)))
      ·
        refine a_aload_n C dX12_tellOne_106 (i := 0) rfl rfl ?_
        refine p_callVv C (As := []) (i := 236) kd_236 (hid 236 (by decide)) ⟨_, _, rfl⟩ (by decide) h (fun _ e => Z_X12_tellPattern hid e) mi_X12_tellPattern ml_RX12_259 rfl rfl (Nat.le_of_ble_eq_true rfl) (Nat.le_of_ble_eq_true rfl) (Nat.le_of_ble_eq_true rfl) dX12_tellOne_107 (fun σ7 h => ?_)
        refine a_goto C dX12_tellOne_110 (tgt := 205) rfl ?_
        exact a_vret Rt dX12_tellOne_205 (retv_eq (h.trans (congrArg some hR.symm)))
    ·
      refine ite_k h (fun c3 h => ?_) (fun c3 h => ?_)
      ·
        refine a_tableIn C dX12_tellOne_9 (by omega) (by omega) (by rw [c3]; rfl) (tgt := 113) rfl ?_
        refine a_aload_n C dX12_tellOne_113 (i := 0) rfl rfl ?_
        refine a_get C fl_RX12_64 (i := 236) kd_236 (hid 236 (by decide)) (v := .ref (ad 252)) rfl dX12_tellOne_114 ?_
        refine a_aload_n C dX12_tellOne_117 (i := 0) rfl rfl ?_
        refine a_get C fl_RX12_224 (i := 236) kd_236 (hid 236 (by decide)) (v := .int (σ.1 236 19)) rfl dX12_tellOne_118 ?_
        refine a_aload_n C dX12_tellOne_121 (i := 0) rfl rfl ?_
        refine a_iconst C dX12_tellOne_122 (v := 0) rfl ?_
        refine a_bipush C dX12_tellOne_123 (v := 99) rfl ?_
        refine p_callVi C (As := [.int 0, .int 99]) (i := 236) kd_236 (hid 236 (by decide)) ⟨_, _, rfl⟩ (by decide) h (fun _ _ e => Z_X12_toldInt hid e) mi_X12_toldInt ml_RX12_262 rfl rfl (Nat.le_of_ble_eq_true rfl) (Nat.le_of_ble_eq_true rfl) (Nat.le_of_ble_eq_true rfl) dX12_tellOne_125 (fun r10 σ9 h => ?_)
        refine p_iast C (i := 252) (show rowOK 252 from ⟨kd_252, by decide⟩) hid (by rw [al_252]; rfl) dX12_tellOne_128 h (fun σ11 h => ?_)
        refine a_goto C dX12_tellOne_129 (tgt := 205) rfl ?_
        exact a_vret Rt dX12_tellOne_205 (retv_eq (h.trans (congrArg some hR.symm)))
      ·
        refine ite_k h (fun c4 h => ?_) (fun c4 h => ?_)
        ·
          refine a_tableIn C dX12_tellOne_9 (by omega) (by omega) (by rw [c4]; rfl) (tgt := 132) rfl ?_
          refine a_aload_n C dX12_tellOne_132 (i := 0) rfl rfl ?_
          refine a_get C fl_RX12_67 (i := 236) kd_236 (hid 236 (by decide)) (v := .ref (ad 253)) rfl dX12_tellOne_133 ?_
          refine a_aload_n C dX12_tellOne_136 (i := 0) rfl rfl ?_
          refine a_get C fl_RX12_224 (i := 236) kd_236 (hid 236 (by decide)) (v := .int (σ.1 236 19)) rfl dX12_tellOne_137 ?_
          refine a_aload_n C dX12_tellOne_140 (i := 0) rfl rfl ?_
          refine a_iconst C dX12_tellOne_141 (v := 0) rfl ?_
          refine a_sipush C dX12_tellOne_142 (v := 9999) rfl ?_
          refine p_callVi C (As := [.int 0, .int 9999]) (i := 236) kd_236 (hid 236 (by decide)) ⟨_, _, rfl⟩ (by decide) h (fun _ _ e => Z_X12_toldInt hid e) mi_X12_toldInt ml_RX12_262 rfl rfl (Nat.le_of_ble_eq_true rfl) (Nat.le_of_ble_eq_true rfl) (Nat.le_of_ble_eq_true rfl) dX12_tellOne_145 (fun r13 σ12 h => ?_)
          refine p_iast C (i := 253) (show rowOK 253 from ⟨kd_253, by decide⟩) hid (by rw [al_253]; rfl) dX12_tellOne_148 h (fun σ14 h => ?_)
          refine a_goto C dX12_tellOne_149 (tgt := 205) rfl ?_
          exact a_vret Rt dX12_tellOne_205 (retv_eq (h.trans (congrArg some hR.symm)))
        ·
          by_cases cc22 : (σ.1 239 (σ.1 236 11).toInt.toNat).toInt = 22
          ·
            refine a_tableIn C dX12_tellOne_9 (by omega) (by omega) (by rw [cc22]; rfl) (tgt := 152) rfl ?_
            refine a_aload_n C dX12_tellOne_152 (i := 0) rfl rfl ?_
            refine a_get C fl_RX12_20 (i := 236) kd_236 (hid 236 (by decide)) (v := .ref (ad 239)) rfl dX12_tellOne_153 ?_
            refine a_aload_n C dX12_tellOne_156 (i := 0) rfl rfl ?_
            refine a_get C fl_RX12_194 (i := 236) kd_236 (hid 236 (by decide)) (v := .int (σ.1 236 11)) rfl dX12_tellOne_157 ?_
            refine p_iald C (i := 239) (show rowOK 239 from ⟨kd_239, by decide⟩) hid (by rw [al_239]; rfl) dX12_tellOne_160 h (fun h => ?_)
            refine a_bipush C dX12_tellOne_161 (v := 22) rfl ?_
            refine a_isub C dX12_tellOne_163 ?_
            refine p_istore_n C (fun z16 => [some (.ref (ad 236)), some (.int z16)]) dX12_tellOne_164 (i := 1) rfl (by decide) rfl (fun _ => rfl) h (fun z16 h => ?_)
            refine a_iload_n C dX12_tellOne_165 (i := 1) rfl rfl ?_
            refine p_if_lt C (X := z16.toInt) rfl dX12_tellOne_166 (tgt := 183) rfl h (fun h => ?_) (fun h => ?_)
            ·
              exact j183 _ _ h
            ·
              refine a_aload_n C dX12_tellOne_169 (i := 0) rfl rfl ?_
              refine a_get C fl_RX12_20 (i := 236) kd_236 (hid 236 (by decide)) (v := .ref (ad 239)) rfl dX12_tellOne_170 ?_
              refine a_aload_n C dX12_tellOne_173 (i := 0) rfl rfl ?_
              refine a_get C fl_RX12_194 (i := 236) kd_236 (hid 236 (by decide)) (v := .int (σ.1 236 11)) rfl dX12_tellOne_174 ?_
              refine p_iald C (i := 239) (show rowOK 239 from ⟨kd_239, by decide⟩) hid (by rw [al_239]; rfl) dX12_tellOne_177 h (fun h => ?_)
              refine a_bipush C dX12_tellOne_178 (v := 25) rfl ?_
              refine p_ic_le C (X := (σ.1 239 (σ.1 236 11).toInt.toNat).toInt) (Y := 25) rfl (by decide) dX12_tellOne_180 (tgt := 188) rfl h (fun h => ?_) (fun h => ?_)
              ·
                exact j188 _ _ h
              ·
                exact j183 _ _ h
          by_cases cc23 : (σ.1 239 (σ.1 236 11).toInt.toNat).toInt = 23
          ·
            refine a_tableIn C dX12_tellOne_9 (by omega) (by omega) (by rw [cc23]; rfl) (tgt := 152) rfl ?_
            refine a_aload_n C dX12_tellOne_152 (i := 0) rfl rfl ?_
            refine a_get C fl_RX12_20 (i := 236) kd_236 (hid 236 (by decide)) (v := .ref (ad 239)) rfl dX12_tellOne_153 ?_
            refine a_aload_n C dX12_tellOne_156 (i := 0) rfl rfl ?_
            refine a_get C fl_RX12_194 (i := 236) kd_236 (hid 236 (by decide)) (v := .int (σ.1 236 11)) rfl dX12_tellOne_157 ?_
            refine p_iald C (i := 239) (show rowOK 239 from ⟨kd_239, by decide⟩) hid (by rw [al_239]; rfl) dX12_tellOne_160 h (fun h => ?_)
            refine a_bipush C dX12_tellOne_161 (v := 22) rfl ?_
            refine a_isub C dX12_tellOne_163 ?_
            refine p_istore_n C (fun z17 => [some (.ref (ad 236)), some (.int z17)]) dX12_tellOne_164 (i := 1) rfl (by decide) rfl (fun _ => rfl) h (fun z17 h => ?_)
            refine a_iload_n C dX12_tellOne_165 (i := 1) rfl rfl ?_
            refine p_if_lt C (X := z17.toInt) rfl dX12_tellOne_166 (tgt := 183) rfl h (fun h => ?_) (fun h => ?_)
            ·
              exact j183 _ _ h
            ·
              refine a_aload_n C dX12_tellOne_169 (i := 0) rfl rfl ?_
              refine a_get C fl_RX12_20 (i := 236) kd_236 (hid 236 (by decide)) (v := .ref (ad 239)) rfl dX12_tellOne_170 ?_
              refine a_aload_n C dX12_tellOne_173 (i := 0) rfl rfl ?_
              refine a_get C fl_RX12_194 (i := 236) kd_236 (hid 236 (by decide)) (v := .int (σ.1 236 11)) rfl dX12_tellOne_174 ?_
              refine p_iald C (i := 239) (show rowOK 239 from ⟨kd_239, by decide⟩) hid (by rw [al_239]; rfl) dX12_tellOne_177 h (fun h => ?_)
              refine a_bipush C dX12_tellOne_178 (v := 25) rfl ?_
              refine p_ic_le C (X := (σ.1 239 (σ.1 236 11).toInt.toNat).toInt) (Y := 25) rfl (by decide) dX12_tellOne_180 (tgt := 188) rfl h (fun h => ?_) (fun h => ?_)
              ·
                exact j188 _ _ h
              ·
                exact j183 _ _ h
          by_cases cc24 : (σ.1 239 (σ.1 236 11).toInt.toNat).toInt = 24
          ·
            refine a_tableIn C dX12_tellOne_9 (by omega) (by omega) (by rw [cc24]; rfl) (tgt := 152) rfl ?_
            refine a_aload_n C dX12_tellOne_152 (i := 0) rfl rfl ?_
            refine a_get C fl_RX12_20 (i := 236) kd_236 (hid 236 (by decide)) (v := .ref (ad 239)) rfl dX12_tellOne_153 ?_
            refine a_aload_n C dX12_tellOne_156 (i := 0) rfl rfl ?_
            refine a_get C fl_RX12_194 (i := 236) kd_236 (hid 236 (by decide)) (v := .int (σ.1 236 11)) rfl dX12_tellOne_157 ?_
            refine p_iald C (i := 239) (show rowOK 239 from ⟨kd_239, by decide⟩) hid (by rw [al_239]; rfl) dX12_tellOne_160 h (fun h => ?_)
            refine a_bipush C dX12_tellOne_161 (v := 22) rfl ?_
            refine a_isub C dX12_tellOne_163 ?_
            refine p_istore_n C (fun z18 => [some (.ref (ad 236)), some (.int z18)]) dX12_tellOne_164 (i := 1) rfl (by decide) rfl (fun _ => rfl) h (fun z18 h => ?_)
            refine a_iload_n C dX12_tellOne_165 (i := 1) rfl rfl ?_
            refine p_if_lt C (X := z18.toInt) rfl dX12_tellOne_166 (tgt := 183) rfl h (fun h => ?_) (fun h => ?_)
            ·
              exact j183 _ _ h
            ·
              refine a_aload_n C dX12_tellOne_169 (i := 0) rfl rfl ?_
              refine a_get C fl_RX12_20 (i := 236) kd_236 (hid 236 (by decide)) (v := .ref (ad 239)) rfl dX12_tellOne_170 ?_
              refine a_aload_n C dX12_tellOne_173 (i := 0) rfl rfl ?_
              refine a_get C fl_RX12_194 (i := 236) kd_236 (hid 236 (by decide)) (v := .int (σ.1 236 11)) rfl dX12_tellOne_174 ?_
              refine p_iald C (i := 239) (show rowOK 239 from ⟨kd_239, by decide⟩) hid (by rw [al_239]; rfl) dX12_tellOne_177 h (fun h => ?_)
              refine a_bipush C dX12_tellOne_178 (v := 25) rfl ?_
              refine p_ic_le C (X := (σ.1 239 (σ.1 236 11).toInt.toNat).toInt) (Y := 25) rfl (by decide) dX12_tellOne_180 (tgt := 188) rfl h (fun h => ?_) (fun h => ?_)
              ·
                exact j188 _ _ h
              ·
                exact j183 _ _ h
          by_cases cc25 : (σ.1 239 (σ.1 236 11).toInt.toNat).toInt = 25
          ·
            refine a_tableIn C dX12_tellOne_9 (by omega) (by omega) (by rw [cc25]; rfl) (tgt := 152) rfl ?_
            refine a_aload_n C dX12_tellOne_152 (i := 0) rfl rfl ?_
            refine a_get C fl_RX12_20 (i := 236) kd_236 (hid 236 (by decide)) (v := .ref (ad 239)) rfl dX12_tellOne_153 ?_
            refine a_aload_n C dX12_tellOne_156 (i := 0) rfl rfl ?_
            refine a_get C fl_RX12_194 (i := 236) kd_236 (hid 236 (by decide)) (v := .int (σ.1 236 11)) rfl dX12_tellOne_157 ?_
            refine p_iald C (i := 239) (show rowOK 239 from ⟨kd_239, by decide⟩) hid (by rw [al_239]; rfl) dX12_tellOne_160 h (fun h => ?_)
            refine a_bipush C dX12_tellOne_161 (v := 22) rfl ?_
            refine a_isub C dX12_tellOne_163 ?_
            refine p_istore_n C (fun z19 => [some (.ref (ad 236)), some (.int z19)]) dX12_tellOne_164 (i := 1) rfl (by decide) rfl (fun _ => rfl) h (fun z19 h => ?_)
            refine a_iload_n C dX12_tellOne_165 (i := 1) rfl rfl ?_
            refine p_if_lt C (X := z19.toInt) rfl dX12_tellOne_166 (tgt := 183) rfl h (fun h => ?_) (fun h => ?_)
            ·
              exact j183 _ _ h
            ·
              refine a_aload_n C dX12_tellOne_169 (i := 0) rfl rfl ?_
              refine a_get C fl_RX12_20 (i := 236) kd_236 (hid 236 (by decide)) (v := .ref (ad 239)) rfl dX12_tellOne_170 ?_
              refine a_aload_n C dX12_tellOne_173 (i := 0) rfl rfl ?_
              refine a_get C fl_RX12_194 (i := 236) kd_236 (hid 236 (by decide)) (v := .int (σ.1 236 11)) rfl dX12_tellOne_174 ?_
              refine p_iald C (i := 239) (show rowOK 239 from ⟨kd_239, by decide⟩) hid (by rw [al_239]; rfl) dX12_tellOne_177 h (fun h => ?_)
              refine a_bipush C dX12_tellOne_178 (v := 25) rfl ?_
              refine p_ic_le C (X := (σ.1 239 (σ.1 236 11).toInt.toNat).toInt) (Y := 25) rfl (by decide) dX12_tellOne_180 (tgt := 188) rfl h (fun h => ?_) (fun h => ?_)
              ·
                exact j188 _ _ h
              ·
                exact j183 _ _ h
          refine a_tableOut C dX12_tellOne_9 (by omega) (tgt := 152) rfl ?_
          refine a_aload_n C dX12_tellOne_152 (i := 0) rfl rfl ?_
          refine a_get C fl_RX12_20 (i := 236) kd_236 (hid 236 (by decide)) (v := .ref (ad 239)) rfl dX12_tellOne_153 ?_
          refine a_aload_n C dX12_tellOne_156 (i := 0) rfl rfl ?_
          refine a_get C fl_RX12_194 (i := 236) kd_236 (hid 236 (by decide)) (v := .int (σ.1 236 11)) rfl dX12_tellOne_157 ?_
          refine p_iald C (i := 239) (show rowOK 239 from ⟨kd_239, by decide⟩) hid (by rw [al_239]; rfl) dX12_tellOne_160 h (fun h => ?_)
          refine a_bipush C dX12_tellOne_161 (v := 22) rfl ?_
          refine a_isub C dX12_tellOne_163 ?_
          refine p_istore_n C (fun z15 => [some (.ref (ad 236)), some (.int z15)]) dX12_tellOne_164 (i := 1) rfl (by decide) rfl (fun _ => rfl) h (fun z15 h => ?_)
          refine a_iload_n C dX12_tellOne_165 (i := 1) rfl rfl ?_
          refine p_if_lt C (X := z15.toInt) rfl dX12_tellOne_166 (tgt := 183) rfl h (fun h => ?_) (fun h => ?_)
          ·
            exact j183 _ _ h
          ·
            refine a_aload_n C dX12_tellOne_169 (i := 0) rfl rfl ?_
            refine a_get C fl_RX12_20 (i := 236) kd_236 (hid 236 (by decide)) (v := .ref (ad 239)) rfl dX12_tellOne_170 ?_
            refine a_aload_n C dX12_tellOne_173 (i := 0) rfl rfl ?_
            refine a_get C fl_RX12_194 (i := 236) kd_236 (hid 236 (by decide)) (v := .int (σ.1 236 11)) rfl dX12_tellOne_174 ?_
            refine p_iald C (i := 239) (show rowOK 239 from ⟨kd_239, by decide⟩) hid (by rw [al_239]; rfl) dX12_tellOne_177 h (fun h => ?_)
            refine a_bipush C dX12_tellOne_178 (v := 25) rfl ?_
            refine p_ic_le C (X := (σ.1 239 (σ.1 236 11).toInt.toNat).toInt) (Y := 25) rfl (by decide) dX12_tellOne_180 (tgt := 188) rfl h (fun h => ?_) (fun h => ?_)
            ·
              exact j188 _ _ h
            ·
              exact j183 _ _ h

set_option maxHeartbeats 4000000 in
set_option maxRecDepth 100000 in
theorem Z_X12_read {l : Launch} {D : va_G} {ids : List Nat} {ad : Nat → Nat} {ca : Nat → ClassId} {σ : HS} {r0 : Int32} {s0 : HS} (hid : ∀ i, i < 277 → i ∈ ids) (h : f_X12_read σ = some (r0, s0)) : Ki l D ids ad ca yX12_read cX12_read 2 .int 7 147 [.ref (ad 236)] σ (fun r σ1 => r = r0 ∧ σ1 = s0) := by
  obtain ⟨R, hR⟩ : ∃ R, (r0, s0) = R := ⟨_, rfl⟩
  replace h := h.trans (congrArg some hR)
  refine Ki.of (by decide) (Nat.le_of_ble_eq_true rfl) 1 (fun Γ C Rt => ?_)
  show AW ids ad ca Γ 0 [some (.ref (ad 236)), none] [] σ
  unfold f_X12_read at h
  have j219 : ∀ (n : Nat) (y1 : Int32) (σ : HS), f_X12_read_219 n y1 σ = some R → AW ids ad ca Γ 219 [some (.ref (ad 236)), some (.int y1)] [] σ := by
    intro n
    induction n with
    | zero => intro y1 σ h; exact nn h
    | succ n ih =>
      intro y1 σ h
      have h : b_X12_read_219 (f_X12_read_219 n) y1 σ = some R := h
      unfold b_X12_read_219 at h
      refine a_iload_n C dX12_read_219 (i := 1) rfl rfl ?_
      refine a_iconst C dX12_read_220 (v := 3) rfl ?_
      refine p_ic_ge C (X := y1.toInt) (Y := 3) rfl (by decide) dX12_read_221 (tgt := 237) rfl h (fun h => ?_) (fun h => ?_)
      ·
        refine a_iconst C dX12_read_237 (v := 0) rfl ?_
        exact a_iret Rt dX12_read_238 rfl (ret_eq (h.trans (congrArg some hR.symm)))
      ·
        refine a_aload_n C dX12_read_224 (i := 0) rfl rfl ?_
        refine a_get C fl_RX12_134 (i := 236) kd_236 (hid 236 (by decide)) (v := .ref (ad 275)) rfl dX12_read_225 ?_
        refine a_iload_n C dX12_read_228 (i := 1) rfl rfl ?_
        refine a_iconst C dX12_read_229 (v := 0) rfl ?_
        refine p_zast C (i := 275) kd_275 (hid 275 (by decide)) (by rw [al_275]; rfl) (by decide) dX12_read_230 h (fun σ1 h => ?_)
        refine p_iinc C (y := (y1 + 1)) (fun z2 => [some (.ref (ad 236)), some (.int z2)]) dX12_read_231 rfl rfl (by decide) rfl (fun _ => rfl) h (fun z2 h => ?_)
        refine a_goto C dX12_read_234 (tgt := 219) rfl ?_
        exact ih _ _ h
  have j164 : ∀ (v0 : Int32) (σ : HS), f_X12_read_164 v0 σ = some R → AW ids ad ca Γ 164 [some (.ref (ad 236)), none] [.int v0, .ref (ad 236)] σ := by
    intro v0 σ h
    unfold f_X12_read_164 at h
    refine p_put C fp_RX12_37 (i := 236) kd_236 (hid 236 (by decide)) rfl rfl dX12_read_164 h (fun σ1 h => ?_)
    refine a_aload_n C dX12_read_167 (i := 0) rfl rfl ?_
    refine a_get C fl_RX12_191 (i := 236) kd_236 (hid 236 (by decide)) (v := .int (σ1.1 236 13)) rfl dX12_read_168 ?_
    refine p_if_le C (X := (σ1.1 236 13).toInt) rfl dX12_read_171 (tgt := 179) rfl h (fun h => ?_) (fun h => ?_)
    ·
      refine a_aload_n C dX12_read_179 (i := 0) rfl rfl ?_
      refine a_get C fl_RX12_200 (i := 236) kd_236 (hid 236 (by decide)) (v := .int (σ1.1 236 15)) rfl dX12_read_180 ?_
      refine p_if_le C (X := (σ1.1 236 15).toInt) rfl dX12_read_183 (tgt := 191) rfl h (fun h => ?_) (fun h => ?_)
      ·
        refine a_aload_n C dX12_read_191 (i := 0) rfl rfl ?_
        refine a_aload_n C dX12_read_192 (i := 0) rfl rfl ?_
        refine a_get C fl_RX12_224 (i := 236) kd_236 (hid 236 (by decide)) (v := .int (σ1.1 236 19)) rfl dX12_read_193 ?_
        refine p_put C fp_RX12_221 (i := 236) kd_236 (hid 236 (by decide)) rfl rfl dX12_read_196 h (fun σ2 h => ?_)
        refine a_aload_n C dX12_read_199 (i := 0) rfl rfl ?_
        refine p_callVv C (As := []) (i := 236) kd_236 (hid 236 (by decide)) ⟨_, _, rfl⟩ (by decide) h (fun _ e => Z_X12_begins hid e) mi_X12_begins ml_RX12_148 rfl rfl (Nat.le_of_ble_eq_true rfl) (Nat.le_of_ble_eq_true rfl) (Nat.le_of_ble_eq_true rfl) dX12_read_200 (fun σ3 h => ?_)
        refine a_aload_n C dX12_read_203 (i := 0) rfl rfl ?_
        refine p_callVv C (As := []) (i := 236) kd_236 (hid 236 (by decide)) ⟨_, _, rfl⟩ (by decide) h (fun _ e => Z_X12_keepsRow hid e) mi_X12_keepsRow ml_RX12_151 rfl rfl (Nat.le_of_ble_eq_true rfl) (Nat.le_of_ble_eq_true rfl) (Nat.le_of_ble_eq_true rfl) dX12_read_204 (fun σ5 h => ?_)
        refine a_aload_n C dX12_read_207 (i := 0) rfl rfl ?_
        refine a_iconst C dX12_read_208 (v := 0) rfl ?_
        refine p_put C fp_RX12_239 (i := 236) kd_236 (hid 236 (by decide)) rfl rfl dX12_read_209 h (fun σ7 h => ?_)
        refine a_aload_n C dX12_read_212 (i := 0) rfl rfl ?_
        refine a_iconst C dX12_read_213 (v := 0) rfl ?_
        refine p_put C fp_RX12_242 (i := 236) kd_236 (hid 236 (by decide)) rfl rfl dX12_read_214 h (fun σ8 h => ?_)
        refine a_iconst C dX12_read_217 (v := 0) rfl ?_
        refine a_istore_n C dX12_read_218 (i := 1) rfl (by decide) rfl (vs1 := [some (.ref (ad 236)), some (.int 0)]) rfl ?_
        exact j219 _ _ _ h
      ·
        refine a_aload_n C dX12_read_186 (i := 0) rfl rfl ?_
        refine a_get C fl_RX12_200 (i := 236) kd_236 (hid 236 (by decide)) (v := .int (σ1.1 236 15)) rfl dX12_read_187 ?_
        exact a_iret Rt dX12_read_190 rfl (ret_eq (h.trans (congrArg some hR.symm)))
    ·
      refine a_aload_n C dX12_read_174 (i := 0) rfl rfl ?_
      refine a_get C fl_RX12_191 (i := 236) kd_236 (hid 236 (by decide)) (v := .int (σ1.1 236 13)) rfl dX12_read_175 ?_
      exact a_iret Rt dX12_read_178 rfl (ret_eq (h.trans (congrArg some hR.symm)))
  have j134 : ∀ (σ : HS), f_X12_read_134 σ = some R → AW ids ad ca Γ 134 [some (.ref (ad 236)), none] [] σ := by
    intro σ h
    unfold f_X12_read_134 at h
    refine a_aload_n C dX12_read_134 (i := 0) rfl rfl ?_
    refine a_aload_n C dX12_read_135 (i := 0) rfl rfl ?_
    refine a_get C fl_RX12_191 (i := 236) kd_236 (hid 236 (by decide)) (v := .int (σ.1 236 13)) rfl dX12_read_136 ?_
    refine p_if_le C (X := (σ.1 236 13).toInt) rfl dX12_read_139 (tgt := 149) rfl h (fun h => ?_) (fun h => ?_)
    ·
      refine a_aload_n C dX12_read_149 (i := 0) rfl rfl ?_
      refine a_get C fl_RX12_200 (i := 236) kd_236 (hid 236 (by decide)) (v := .int (σ.1 236 15)) rfl dX12_read_150 ?_
      refine p_if_le C (X := (σ.1 236 15).toInt) rfl dX12_read_153 (tgt := 163) rfl h (fun h => ?_) (fun h => ?_)
      ·
        refine a_iconst C dX12_read_163 (v := (-1)) rfl ?_
        exact j164 _ _ h
      ·
        refine a_aload_n C dX12_read_156 (i := 0) rfl rfl ?_
        refine a_get C fl_RX12_203 (i := 236) kd_236 (hid 236 (by decide)) (v := .int (σ.1 236 16)) rfl dX12_read_157 ?_
        refine a_goto C dX12_read_160 (tgt := 164) rfl ?_
        exact j164 _ _ h
    ·
      refine a_aload_n C dX12_read_142 (i := 0) rfl rfl ?_
      refine a_get C fl_RX12_197 (i := 236) kd_236 (hid 236 (by decide)) (v := .int (σ.1 236 14)) rfl dX12_read_143 ?_
      refine a_goto C dX12_read_146 (tgt := 164) rfl ?_
      exact j164 _ _ h
  have j112 : ∀ (n : Nat) (σ : HS), f_X12_read_112 n σ = some R → AW ids ad ca Γ 112 [some (.ref (ad 236)), none] [] σ := by
    intro n
    induction n with
    | zero => intro σ h; exact nn h
    | succ n ih =>
      intro σ h
      have h : b_X12_read_112 (f_X12_read_112 n) σ = some R := h
      unfold b_X12_read_112 at h
      refine a_aload_n C dX12_read_112 (i := 0) rfl rfl ?_
      refine a_get C fl_RX12_191 (i := 236) kd_236 (hid 236 (by decide)) (v := .int (σ.1 236 13)) rfl dX12_read_113 ?_
      refine p_if_ne C (X := (σ.1 236 13).toInt) rfl dX12_read_116 (tgt := 134) rfl h (fun h => ?_) (fun h => ?_)
      ·
        exact j134 _ h
      ·
        refine a_aload_n C dX12_read_119 (i := 0) rfl rfl ?_
        refine a_iconst C dX12_read_120 (v := 0) rfl ?_
        refine p_callVi C (As := [.int 0]) (i := 236) kd_236 (hid 236 (by decide)) ⟨_, _, rfl⟩ (by decide) h (fun _ _ e => Z_X12_is hid e) mi_X12_is ml_RX12_209 rfl rfl (Nat.le_of_ble_eq_true rfl) (Nat.le_of_ble_eq_true rfl) (Nat.le_of_ble_eq_true rfl) dX12_read_121 (fun r2 σ1 h => ?_)
        refine p_if_ne C (X := r2.toInt) rfl dX12_read_124 (tgt := 134) rfl h (fun h => ?_) (fun h => ?_)
        ·
          exact j134 _ h
        ·
          refine a_aload_n C dX12_read_127 (i := 0) rfl rfl ?_
          refine p_callVv C (As := []) (i := 236) kd_236 (hid 236 (by decide)) ⟨_, _, rfl⟩ (by decide) h (fun _ e => Z_X12_tellOne hid e) mi_X12_tellOne ml_RX12_236 rfl rfl (Nat.le_of_ble_eq_true rfl) (Nat.le_of_ble_eq_true rfl) (Nat.le_of_ble_eq_true rfl) dX12_read_128 (fun σ3 h => ?_)
          refine a_goto C dX12_read_131 (tgt := 112) rfl ?_
          exact ih _ h
  have j10 : ∀ (n : Nat) (y1 : Int32) (σ : HS), f_X12_read_10 n y1 σ = some R → AW ids ad ca Γ 10 [some (.ref (ad 236)), some (.int y1)] [] σ := by
    intro n
    induction n with
    | zero => intro y1 σ h; exact nn h
    | succ n ih =>
      intro y1 σ h
      have h : b_X12_read_10 (f_X12_read_10 n) y1 σ = some R := h
      unfold b_X12_read_10 at h
      refine a_iload_n C dX12_read_10 (i := 1) rfl rfl ?_
      refine a_aload_n C dX12_read_11 (i := 0) rfl rfl ?_
      refine a_get C fl_RX12_160 (i := 236) kd_236 (hid 236 (by decide)) (v := .int (σ.1 236 4)) rfl dX12_read_12 ?_
      refine p_ic_ge C (X := y1.toInt) (Y := (σ.1 236 4).toInt) rfl rfl dX12_read_15 (tgt := 36) rfl h (fun h => ?_) (fun h => ?_)
      ·
        refine a_aload_n C dX12_read_36 (i := 0) rfl rfl ?_
        refine a_iconst C dX12_read_37 (v := 0) rfl ?_
        refine p_put C fp_RX12_154 (i := 236) kd_236 (hid 236 (by decide)) rfl rfl dX12_read_38 h (fun σ1 h => ?_)
        refine a_aload_n C dX12_read_41 (i := 0) rfl rfl ?_
        refine p_callVv C (As := []) (i := 236) kd_236 (hid 236 (by decide)) ⟨_, _, rfl⟩ (by decide) h (fun _ e => Z_X12_cut hid e) mi_X12_cut ml_RX12_215 rfl rfl (Nat.le_of_ble_eq_true rfl) (Nat.le_of_ble_eq_true rfl) (Nat.le_of_ble_eq_true rfl) dX12_read_42 (fun σ2 h => ?_)
        refine a_aload_n C dX12_read_45 (i := 0) rfl rfl ?_
        refine a_iconst C dX12_read_46 (v := 0) rfl ?_
        refine p_put C fp_RX12_194 (i := 236) kd_236 (hid 236 (by decide)) rfl rfl dX12_read_47 h (fun σ4 h => ?_)
        refine a_aload_n C dX12_read_50 (i := 0) rfl rfl ?_
        refine a_iconst C dX12_read_51 (v := 0) rfl ?_
        refine p_put C fp_RX12_218 (i := 236) kd_236 (hid 236 (by decide)) rfl rfl dX12_read_52 h (fun σ5 h => ?_)
        refine a_aload_n C dX12_read_55 (i := 0) rfl rfl ?_
        refine a_iconst C dX12_read_56 (v := 0) rfl ?_
        refine p_put C fp_RX12_191 (i := 236) kd_236 (hid 236 (by decide)) rfl rfl dX12_read_57 h (fun σ6 h => ?_)
        refine a_aload_n C dX12_read_60 (i := 0) rfl rfl ?_
        refine a_iconst C dX12_read_61 (v := 0) rfl ?_
        refine p_put C fp_RX12_200 (i := 236) kd_236 (hid 236 (by decide)) rfl rfl dX12_read_62 h (fun σ7 h => ?_)
        refine a_aload_n C dX12_read_65 (i := 0) rfl rfl ?_
        refine a_iconst C dX12_read_66 (v := 1) rfl ?_
        refine a_aload_n C dX12_read_67 (i := 0) rfl rfl ?_
        refine a_get C fl_RX12_221 (i := 236) kd_236 (hid 236 (by decide)) (v := .int (σ7.1 236 18)) rfl dX12_read_68 ?_
        refine a_isub C dX12_read_71 ?_
        refine p_put C fp_RX12_224 (i := 236) kd_236 (hid 236 (by decide)) rfl rfl dX12_read_72 h (fun σ8 h => ?_)
        refine a_aload_n C dX12_read_75 (i := 0) rfl rfl ?_
        refine a_iconst C dX12_read_76 (v := 0) rfl ?_
        refine p_put C fp_RX12_227 (i := 236) kd_236 (hid 236 (by decide)) rfl rfl dX12_read_77 h (fun σ9 h => ?_)
        refine a_aload_n C dX12_read_80 (i := 0) rfl rfl ?_
        refine a_aload_n C dX12_read_81 (i := 0) rfl rfl ?_
        refine a_get C fl_RX12_224 (i := 236) kd_236 (hid 236 (by decide)) (v := .int (σ9.1 236 19)) rfl dX12_read_82 ?_
        refine p_callVv C (As := [.int (σ9.1 236 19)]) (i := 236) kd_236 (hid 236 (by decide)) ⟨_, _, rfl⟩ (by decide) h (fun _ e => Z_X12_plain hid e) mi_X12_plain ml_RX12_140 rfl rfl (Nat.le_of_ble_eq_true rfl) (Nat.le_of_ble_eq_true rfl) (Nat.le_of_ble_eq_true rfl) dX12_read_85 (fun σ10 h => ?_)
        refine a_aload_n C dX12_read_88 (i := 0) rfl rfl ?_
        refine a_sipush C dX12_read_89 (v := 130) rfl ?_
        refine a_aload_n C dX12_read_92 (i := 0) rfl rfl ?_
        refine a_get C fl_RX12_224 (i := 236) kd_236 (hid 236 (by decide)) (v := .int (σ10.1 236 19)) rfl dX12_read_93 ?_
        refine a_imul C dX12_read_96 ?_
        refine p_put C fp_RX12_230 (i := 236) kd_236 (hid 236 (by decide)) rfl rfl dX12_read_97 h (fun σ12 h => ?_)
        refine a_aload_n C dX12_read_100 (i := 0) rfl rfl ?_
        refine a_sipush C dX12_read_101 (v := 420) rfl ?_
        refine a_aload_n C dX12_read_104 (i := 0) rfl rfl ?_
        refine a_get C fl_RX12_224 (i := 236) kd_236 (hid 236 (by decide)) (v := .int (σ12.1 236 19)) rfl dX12_read_105 ?_
        refine a_imul C dX12_read_108 ?_
        refine p_put C fp_RX12_233 (i := 236) kd_236 (hid 236 (by decide)) rfl rfl dX12_read_109 h (fun σ13 h => ?_)
        refine AW.sub (vs' := [some (.ref (ad 236)), none]) (lsub_of (by simp [lsubB])) ?_
        exact j112 _ _ h
      ·
        refine a_aload_n C dX12_read_18 (i := 0) rfl rfl ?_
        refine a_get C fl_RX12_17 (i := 236) kd_236 (hid 236 (by decide)) (v := .ref (ad 238)) rfl dX12_read_19 ?_
        refine a_iload_n C dX12_read_22 (i := 1) rfl rfl ?_
        refine a_aload_n C dX12_read_23 (i := 0) rfl rfl ?_
        refine a_get C fl_RX12_13 (i := 236) kd_236 (hid 236 (by decide)) (v := .ref (ad 237)) rfl dX12_read_24 ?_
        refine a_iload_n C dX12_read_27 (i := 1) rfl rfl ?_
        refine p_bald C (i := 237) kd_237 (hid 237 (by decide)) (by rw [al_237]; rfl) dX12_read_28 h (fun h => ?_)
        refine p_bast C (i := 238) kd_238 (hid 238 (by decide)) (by rw [al_238]; rfl) dX12_read_29 h (fun σ14 h => ?_)
        refine p_iinc C (y := (y1 + 1)) (fun z15 => [some (.ref (ad 236)), some (.int z15)]) dX12_read_30 rfl rfl (by decide) rfl (fun _ => rfl) h (fun z15 h => ?_)
        refine a_goto C dX12_read_33 (tgt := 10) rfl ?_
        exact ih _ _ h
  refine a_aload_n C dX12_read_0 (i := 0) rfl rfl ?_
  refine a_aload_n C dX12_read_1 (i := 0) rfl rfl ?_
  refine a_get C fl_RX12_154 (i := 236) kd_236 (hid 236 (by decide)) (v := .int (σ.1 236 2)) rfl dX12_read_2 ?_
  refine p_put C fp_RX12_160 (i := 236) kd_236 (hid 236 (by decide)) rfl rfl dX12_read_5 h (fun σ1 h => ?_)
  refine a_iconst C dX12_read_8 (v := 0) rfl ?_
  refine a_istore_n C dX12_read_9 (i := 1) rfl (by decide) rfl (vs1 := [some (.ref (ad 236)), some (.int 0)]) rfl ?_
  exact j10 _ _ _ h
set_option maxHeartbeats 4000000 in
set_option maxRecDepth 100000 in
theorem Z_X12_place {l : Launch} {D : va_G} {ids : List Nat} {ad : Nat → Nat} {ca : Nat → ClassId} {σ : HS} {r0 : Int32} {s0 : HS} (hid : ∀ i, i < 277 → i ∈ ids) (h : f_X12_place σ = some (r0, s0)) : Ki l D ids ad ca yX12_place cX12_place 1 .int 0 0 [.ref (ad 236)] σ (fun r σ1 => r = r0 ∧ σ1 = s0) := by
  obtain ⟨R, hR⟩ : ∃ R, (r0, s0) = R := ⟨_, rfl⟩
  replace h := h.trans (congrArg some hR)
  refine Ki.of (by decide) (Nat.le_of_ble_eq_true rfl) 0 (fun Γ C Rt => ?_)
  show AW ids ad ca Γ 0 [some (.ref (ad 236))] [] σ
  unfold f_X12_place at h
  refine a_aload_n C dX12_place_0 (i := 0) rfl rfl ?_
  refine a_get C fl_RX12_37 (i := 236) kd_236 (hid 236 (by decide)) (v := .int (σ.1 236 17)) rfl dX12_place_1 ?_
  exact a_iret Rt dX12_place_4 rfl (ret_eq (h.trans (congrArg some hR.symm)))
set_option maxHeartbeats 4000000 in
set_option maxRecDepth 100000 in
theorem Z_X12_termOf {l : Launch} {D : va_G} {ids : List Nat} {ad : Nat → Nat} {ca : Nat → ClassId} {σ : HS} {x1 : Int32} {x2 : Int32} {r0 : Int32} {s0 : HS} (hid : ∀ i, i < 277 → i ∈ ids) (h : f_X12_termOf x1 x2 σ = some (r0, s0)) : Ki l D ids ad ca yX12_termOf cX12_termOf 8 .int 0 0 [.ref (ad 236), .int x1, .int x2] σ (fun r σ1 => r = r0 ∧ σ1 = s0) := by
  obtain ⟨R, hR⟩ : ∃ R, (r0, s0) = R := ⟨_, rfl⟩
  replace h := h.trans (congrArg some hR)
  refine Ki.of (by decide) (Nat.le_of_ble_eq_true rfl) 5 (fun Γ C Rt => ?_)
  show AW ids ad ca Γ 0 [some (.ref (ad 236)), some (.int x1), some (.int x2), none, none, none, none, none] [] σ
  unfold f_X12_termOf at h
  have j159 : ∀ (k5 : Int32 → Int32 → Int32 → HS → Option (Int32 × HS)) (hk5 : ∀ (y2 : Int32) (y3 : Int32) (y4 : Int32) (σ : HS), k5 y2 y3 y4 σ = some R → AW ids ad ca Γ 5 [some (.ref (ad 236)), none, some (.int y2), some (.int y3), some (.int y4), none, none, none] [] σ) (y2 : Int32) (y3 : Int32) (y4 : Int32) (σ : HS), f_X12_termOf_159 k5 y2 y3 y4 σ = some R → AW ids ad ca Γ 159 [some (.ref (ad 236)), none, some (.int y2), some (.int y3), some (.int y4), none, none, none] [] σ := by
    intro k5 hk5 y2 y3 y4 σ h
    unfold f_X12_termOf_159 at h
    refine p_iinc C (y := (y4 + 1)) (fun z1 => [some (.ref (ad 236)), none, some (.int y2), some (.int y3), some (.int z1), none, none, none]) dX12_termOf_159 rfl rfl (by decide) rfl (fun _ => rfl) h (fun z1 h => ?_)
    refine a_goto C dX12_termOf_162 (tgt := 5) rfl ?_
    exact hk5 _ _ _ _ h
  have j158 : ∀ (k5 : Int32 → Int32 → Int32 → HS → Option (Int32 × HS)) (hk5 : ∀ (y2 : Int32) (y3 : Int32) (y4 : Int32) (σ : HS), k5 y2 y3 y4 σ = some R → AW ids ad ca Γ 5 [some (.ref (ad 236)), none, some (.int y2), some (.int y3), some (.int y4), none, none, none] [] σ) (y2 : Int32) (y3 : Int32) (y4 : Int32) (v0 : Int32) (v1 : Int32) (σ : HS), f_X12_termOf_158 k5 y2 y3 y4 v0 v1 σ = some R → AW ids ad ca Γ 158 [some (.ref (ad 236)), none, some (.int y2), some (.int y3), some (.int y4), none, none, none] [.int v0, .int v1, .ref (ad 265)] σ := by
    intro k5 hk5 y2 y3 y4 v0 v1 σ h
    unfold f_X12_termOf_158 at h
    refine p_iast C (i := 265) (show rowOK 265 from ⟨kd_265, by decide⟩) hid (by rw [al_265]; rfl) dX12_termOf_158 h (fun σ1 h => ?_)
    exact j159 k5 hk5 _ _ _ _ h
  have j104 : ∀ (k5 : Int32 → Int32 → Int32 → HS → Option (Int32 × HS)) (hk5 : ∀ (y2 : Int32) (y3 : Int32) (y4 : Int32) (σ : HS), k5 y2 y3 y4 σ = some R → AW ids ad ca Γ 5 [some (.ref (ad 236)), none, some (.int y2), some (.int y3), some (.int y4), none, none, none] [] σ) (y2 : Int32) (y3 : Int32) (y4 : Int32) (y5 : Int32) (y6 : Int32) (y7 : Int32) (σ : HS), f_X12_termOf_104 k5 y2 y3 y4 y5 y6 y7 σ = some R → AW ids ad ca Γ 104 [some (.ref (ad 236)), none, some (.int y2), some (.int y3), some (.int y4), some (.int y5), some (.int y6), some (.int y7)] [] σ := by
    intro k5 hk5 y2 y3 y4 y5 y6 y7 σ h
    unfold f_X12_termOf_104 at h
    refine a_aload_n C dX12_termOf_104 (i := 0) rfl rfl ?_
    refine a_get C fl_RX12_104 (i := 236) kd_236 (hid 236 (by decide)) (v := .ref (ad 265)) rfl dX12_termOf_105 ?_
    refine a_iload_n C dX12_termOf_108 (i := 3) rfl rfl ?_
    refine a_iconst C dX12_termOf_109 (v := 1) rfl ?_
    refine a_isub C dX12_termOf_110 ?_
    refine a_iload C dX12_termOf_111 rfl ?_
    refine a_iconst C dX12_termOf_113 (v := 2) rfl ?_
    refine p_ic_ne C (X := y5.toInt) (Y := 2) rfl (by decide) dX12_termOf_114 (tgt := 125) rfl h (fun h => ?_) (fun h => ?_)
    ·
      refine a_iload C dX12_termOf_125 rfl ?_
      refine a_iconst C dX12_termOf_127 (v := 3) rfl ?_
      refine p_ic_ne C (X := y5.toInt) (Y := 3) rfl (by decide) dX12_termOf_128 (tgt := 139) rfl h (fun h => ?_) (fun h => ?_)
      ·
        refine a_iload C dX12_termOf_139 rfl ?_
        refine a_iconst C dX12_termOf_141 (v := 4) rfl ?_
        refine p_ic_ne C (X := y5.toInt) (Y := 4) rfl (by decide) dX12_termOf_142 (tgt := 153) rfl h (fun h => ?_) (fun h => ?_)
        ·
          refine a_iload C dX12_termOf_153 rfl ?_
          refine a_iload C dX12_termOf_155 rfl ?_
          refine p_idiv C rfl dX12_termOf_157 h (fun h => ?_)
          refine AW.sub (vs' := [some (.ref (ad 236)), none, some (.int y2), some (.int y3), some (.int y4), none, none, none]) (lsub_of (by simp [lsubB])) ?_
          exact j158 k5 hk5 _ _ _ _ _ _ h
        ·
          refine a_iload C dX12_termOf_145 rfl ?_
          refine a_iload C dX12_termOf_147 rfl ?_
          refine a_imul C dX12_termOf_149 ?_
          refine a_goto C dX12_termOf_150 (tgt := 158) rfl ?_
          refine AW.sub (vs' := [some (.ref (ad 236)), none, some (.int y2), some (.int y3), some (.int y4), none, none, none]) (lsub_of (by simp [lsubB])) ?_
          exact j158 k5 hk5 _ _ _ _ _ _ h
      ·
        refine a_iload C dX12_termOf_131 rfl ?_
        refine a_iload C dX12_termOf_133 rfl ?_
        refine a_isub C dX12_termOf_135 ?_
        refine a_goto C dX12_termOf_136 (tgt := 158) rfl ?_
        refine AW.sub (vs' := [some (.ref (ad 236)), none, some (.int y2), some (.int y3), some (.int y4), none, none, none]) (lsub_of (by simp [lsubB])) ?_
        exact j158 k5 hk5 _ _ _ _ _ _ h
    ·
      refine a_iload C dX12_termOf_117 rfl ?_
      refine a_iload C dX12_termOf_119 rfl ?_
      refine a_iadd C dX12_termOf_121 ?_
      refine a_goto C dX12_termOf_122 (tgt := 158) rfl ?_
      refine AW.sub (vs' := [some (.ref (ad 236)), none, some (.int y2), some (.int y3), some (.int y4), none, none, none]) (lsub_of (by simp [lsubB])) ?_
      exact j158 k5 hk5 _ _ _ _ _ _ h
  have j58 : ∀ (k5 : Int32 → Int32 → Int32 → HS → Option (Int32 × HS)) (hk5 : ∀ (y2 : Int32) (y3 : Int32) (y4 : Int32) (σ : HS), k5 y2 y3 y4 σ = some R → AW ids ad ca Γ 5 [some (.ref (ad 236)), none, some (.int y2), some (.int y3), some (.int y4), none, none, none] [] σ) (y2 : Int32) (y3 : Int32) (y4 : Int32) (v0 : Int32) (v1 : Int32) (σ : HS), f_X12_termOf_58 k5 y2 y3 y4 v0 v1 σ = some R → AW ids ad ca Γ 58 [some (.ref (ad 236)), none, some (.int y2), some (.int y3), some (.int y4), none, none, none] [.int v0, .int v1, .ref (ad 265)] σ := by
    intro k5 hk5 y2 y3 y4 v0 v1 σ h
    unfold f_X12_termOf_58 at h
    refine p_iast C (i := 265) (show rowOK 265 from ⟨kd_265, by decide⟩) hid (by rw [al_265]; rfl) dX12_termOf_58 h (fun σ1 h => ?_)
    refine p_iinc C (y := (y3 + 1)) (fun z2 => [some (.ref (ad 236)), none, some (.int y2), some (.int z2), some (.int y4), none, none, none]) dX12_termOf_59 rfl rfl (by decide) rfl (fun _ => rfl) h (fun z2 h => ?_)
    refine a_goto C dX12_termOf_62 (tgt := 159) rfl ?_
    exact j159 k5 hk5 _ _ _ _ h
  have j5 : ∀ (n : Nat) (y2 : Int32) (y3 : Int32) (y4 : Int32) (σ : HS), f_X12_termOf_5 n y2 y3 y4 σ = some R → AW ids ad ca Γ 5 [some (.ref (ad 236)), none, some (.int y2), some (.int y3), some (.int y4), none, none, none] [] σ := by
    intro n
    induction n with
    | zero => intro y2 y3 y4 σ h; exact nn h
    | succ n ih =>
      intro y2 y3 y4 σ h
      have h : b_X12_termOf_5 (f_X12_termOf_5 n) y2 y3 y4 σ = some R := h
      unfold b_X12_termOf_5 at h
      refine a_iload C dX12_termOf_5 rfl ?_
      refine a_iload_n C dX12_termOf_7 (i := 2) rfl rfl ?_
      refine p_ic_ge C (X := y4.toInt) (Y := y2.toInt) rfl rfl dX12_termOf_8 (tgt := 165) rfl h (fun h => ?_) (fun h => ?_)
      ·
        refine a_aload_n C dX12_termOf_165 (i := 0) rfl rfl ?_
        refine a_get C fl_RX12_104 (i := 236) kd_236 (hid 236 (by decide)) (v := .ref (ad 265)) rfl dX12_termOf_166 ?_
        refine a_iconst C dX12_termOf_169 (v := 0) rfl ?_
        refine p_ialdc C (i := 265) 0 (show rowOK 265 from ⟨kd_265, by decide⟩) hid (by decide) (by rw [al_265]; decide) dX12_termOf_170 ?_
        exact a_iret Rt dX12_termOf_171 rfl (ret_eq (h.trans (congrArg some hR.symm)))
      ·
        refine a_aload_n C dX12_termOf_11 (i := 0) rfl rfl ?_
        refine a_get C fl_RX12_92 (i := 236) kd_236 (hid 236 (by decide)) (v := .ref (ad 261)) rfl dX12_termOf_12 ?_
        refine a_iload C dX12_termOf_15 rfl ?_
        refine p_iald C (i := 261) (show rowOK 261 from ⟨kd_261, by decide⟩) hid (by rw [al_261]; rfl) dX12_termOf_17 h (fun h => ?_)
        refine p_istore C (fun z1 => [some (.ref (ad 236)), none, some (.int y2), some (.int y3), some (.int y4), some (.int z1), none, none]) dX12_termOf_18 (by decide) rfl (fun _ => rfl) h (fun z1 h => ?_)
        refine a_iload C dX12_termOf_20 rfl ?_
        refine a_iconst C dX12_termOf_22 (v := 2) rfl ?_
        refine p_ic_ge C (X := z1.toInt) (Y := 2) rfl (by decide) dX12_termOf_23 (tgt := 65) rfl h (fun h => ?_) (fun h => ?_)
        ·
          refine p_iinc C (y := (y3 + (-1))) (fun z2 => [some (.ref (ad 236)), none, some (.int y2), some (.int z2), some (.int y4), some (.int z1), none, none]) dX12_termOf_65 rfl rfl (by decide) rfl (fun _ => rfl) h (fun z2 h => ?_)
          refine a_aload_n C dX12_termOf_68 (i := 0) rfl rfl ?_
          refine a_get C fl_RX12_104 (i := 236) kd_236 (hid 236 (by decide)) (v := .ref (ad 265)) rfl dX12_termOf_69 ?_
          refine a_iload_n C dX12_termOf_72 (i := 3) rfl rfl ?_
          refine a_iconst C dX12_termOf_73 (v := 1) rfl ?_
          refine a_isub C dX12_termOf_74 ?_
          refine p_iald C (i := 265) (show rowOK 265 from ⟨kd_265, by decide⟩) hid (by rw [al_265]; rfl) dX12_termOf_75 h (fun h => ?_)
          refine p_istore C (fun z3 => [some (.ref (ad 236)), none, some (.int y2), some (.int z2), some (.int y4), some (.int z1), some (.int z3), none]) dX12_termOf_76 (by decide) rfl (fun _ => rfl) h (fun z3 h => ?_)
          refine a_aload_n C dX12_termOf_78 (i := 0) rfl rfl ?_
          refine a_get C fl_RX12_104 (i := 236) kd_236 (hid 236 (by decide)) (v := .ref (ad 265)) rfl dX12_termOf_79 ?_
          refine a_iload_n C dX12_termOf_82 (i := 3) rfl rfl ?_
          refine p_iald C (i := 265) (show rowOK 265 from ⟨kd_265, by decide⟩) hid (by rw [al_265]; rfl) dX12_termOf_83 h (fun h => ?_)
          refine p_istore C (fun z4 => [some (.ref (ad 236)), none, some (.int y2), some (.int z2), some (.int y4), some (.int z1), some (.int z3), some (.int z4)]) dX12_termOf_84 (by decide) rfl (fun _ => rfl) h (fun z4 h => ?_)
          refine a_iload C dX12_termOf_86 rfl ?_
          refine a_iconst C dX12_termOf_88 (v := 5) rfl ?_
          refine p_ic_ne C (X := z1.toInt) (Y := 5) rfl (by decide) dX12_termOf_89 (tgt := 104) rfl h (fun h => ?_) (fun h => ?_)
          ·
            exact j104 (f_X12_termOf_5 n) (fun y2 y3 y4 σ h => ih y2 y3 y4 σ h) _ _ _ _ _ _ _ h
          ·
            refine a_iload C dX12_termOf_92 rfl ?_
            refine p_if_ne C (X := z4.toInt) rfl dX12_termOf_94 (tgt := 104) rfl h (fun h => ?_) (fun h => ?_)
            ·
              exact j104 (f_X12_termOf_5 n) (fun y2 y3 y4 σ h => ih y2 y3 y4 σ h) _ _ _ _ _ _ _ h
            ·
              refine a_aload_n C dX12_termOf_97 (i := 0) rfl rfl ?_
              refine a_iconst C dX12_termOf_98 (v := 1) rfl ?_
              refine p_put C fp_RX12_297 (i := 236) kd_236 (hid 236 (by decide)) (nar_z (by decide)).1 (nar_z (by decide)).2 dX12_termOf_99 h (fun σ5 h => ?_)
              refine a_iconst C dX12_termOf_102 (v := 0) rfl ?_
              exact a_iret Rt dX12_termOf_103 rfl (ret_eq (h.trans (congrArg some hR.symm)))
        ·
          refine a_aload_n C dX12_termOf_26 (i := 0) rfl rfl ?_
          refine a_get C fl_RX12_104 (i := 236) kd_236 (hid 236 (by decide)) (v := .ref (ad 265)) rfl dX12_termOf_27 ?_
          refine a_iload_n C dX12_termOf_30 (i := 3) rfl rfl ?_
          refine a_iload C dX12_termOf_31 rfl ?_
          refine p_if_ne C (X := z1.toInt) rfl dX12_termOf_33 (tgt := 46) rfl h (fun h => ?_) (fun h => ?_)
          ·
            refine a_aload_n C dX12_termOf_46 (i := 0) rfl rfl ?_
            refine a_get C fl_RX12_101 (i := 236) kd_236 (hid 236 (by decide)) (v := .ref (ad 264)) rfl dX12_termOf_47 ?_
            refine a_aload_n C dX12_termOf_50 (i := 0) rfl rfl ?_
            refine a_get C fl_RX12_95 (i := 236) kd_236 (hid 236 (by decide)) (v := .ref (ad 262)) rfl dX12_termOf_51 ?_
            refine a_iload C dX12_termOf_54 rfl ?_
            refine p_iald C (i := 262) (show rowOK 262 from ⟨kd_262, by decide⟩) hid (by rw [al_262]; rfl) dX12_termOf_56 h (fun h => ?_)
            refine p_iald C (i := 264) (show rowOK 264 from ⟨kd_264, by decide⟩) hid (by rw [al_264]; rfl) dX12_termOf_57 h (fun h => ?_)
            refine AW.sub (vs' := [some (.ref (ad 236)), none, some (.int y2), some (.int y3), some (.int y4), none, none, none]) (lsub_of (by simp [lsubB])) ?_
            exact j58 (f_X12_termOf_5 n) (fun y2 y3 y4 σ h => ih y2 y3 y4 σ h) _ _ _ _ _ _ h
          ·
            refine a_aload_n C dX12_termOf_36 (i := 0) rfl rfl ?_
            refine a_get C fl_RX12_95 (i := 236) kd_236 (hid 236 (by decide)) (v := .ref (ad 262)) rfl dX12_termOf_37 ?_
            refine a_iload C dX12_termOf_40 rfl ?_
            refine p_iald C (i := 262) (show rowOK 262 from ⟨kd_262, by decide⟩) hid (by rw [al_262]; rfl) dX12_termOf_42 h (fun h => ?_)
            refine a_goto C dX12_termOf_43 (tgt := 58) rfl ?_
            refine AW.sub (vs' := [some (.ref (ad 236)), none, some (.int y2), some (.int y3), some (.int y4), none, none, none]) (lsub_of (by simp [lsubB])) ?_
            exact j58 (f_X12_termOf_5 n) (fun y2 y3 y4 σ h => ih y2 y3 y4 σ h) _ _ _ _ _ _ h
  refine a_iconst C dX12_termOf_0 (v := 0) rfl ?_
  refine a_istore_n C dX12_termOf_1 (i := 3) rfl (by decide) rfl (vs1 := [some (.ref (ad 236)), some (.int x1), some (.int x2), some (.int 0), none, none, none, none]) rfl ?_
  refine a_iload_n C dX12_termOf_2 (i := 1) rfl rfl ?_
  refine a_istore C dX12_termOf_3 (by decide) rfl (vs1 := [some (.ref (ad 236)), some (.int x1), some (.int x2), some (.int 0), some (.int x1), none, none, none]) rfl ?_
  refine AW.sub (vs' := [some (.ref (ad 236)), none, some (.int x2), some (.int 0), some (.int x1), none, none, none]) (lsub_of (by simp [lsubB])) ?_
  exact j5 _ _ _ _ _ h
set_option maxHeartbeats 4000000 in
set_option maxRecDepth 100000 in
theorem Z_X12_in {l : Launch} {D : va_G} {ids : List Nat} {ad : Nat → Nat} {ca : Nat → ClassId} {σ : HS} {x1 : Int32} {x2 : Int32} {x3 : Int32} {r0 : Int32} {s0 : HS} (hid : ∀ i, i < 277 → i ∈ ids) (h : f_X12_in x1 x2 x3 σ = some (r0, s0)) : Ki l D ids ad ca yX12_in cX12_in 3 .boolean 0 0 [.int x1, .int x2, .int x3] σ (fun r σ1 => r = r0 ∧ σ1 = s0) := by
  obtain ⟨R, hR⟩ : ∃ R, (r0, s0) = R := ⟨_, rfl⟩
  replace h := h.trans (congrArg some hR)
  refine Ki.of (by decide) (Nat.le_of_ble_eq_true rfl) 0 (fun Γ C Rt => ?_)
  show AW ids ad ca Γ 0 [some (.int x1), some (.int x2), some (.int x3)] [] σ
  unfold f_X12_in at h
  refine a_iload_n C dX12_in_0 (i := 0) rfl rfl ?_
  refine a_iload_n C dX12_in_1 (i := 1) rfl rfl ?_
  refine p_ic_lt C (X := x1.toInt) (Y := x2.toInt) rfl rfl dX12_in_2 (tgt := 14) rfl h (fun h => ?_) (fun h => ?_)
  ·
    refine a_iconst C dX12_in_14 (v := 0) rfl ?_
    exact a_iret Rt dX12_in_15 (nar_z (by decide)).1 (ret_eq (h.trans (congrArg some hR.symm)))
  ·
    refine a_iload_n C dX12_in_5 (i := 0) rfl rfl ?_
    refine a_iload_n C dX12_in_6 (i := 2) rfl rfl ?_
    refine p_ic_gt C (X := x1.toInt) (Y := x3.toInt) rfl rfl dX12_in_7 (tgt := 14) rfl h (fun h => ?_) (fun h => ?_)
    ·
      refine a_iconst C dX12_in_14 (v := 0) rfl ?_
      exact a_iret Rt dX12_in_15 (nar_z (by decide)).1 (ret_eq (h.trans (congrArg some hR.symm)))
    ·
      refine a_iconst C dX12_in_10 (v := 1) rfl ?_
      refine a_goto C dX12_in_11 (tgt := 15) rfl ?_
      exact a_iret Rt dX12_in_15 (nar_z (by decide)).1 (ret_eq (h.trans (congrArg some hR.symm)))
set_option maxHeartbeats 4000000 in
set_option maxRecDepth 100000 in
theorem Z_X12_held {l : Launch} {D : va_G} {ids : List Nat} {ad : Nat → Nat} {ca : Nat → ClassId} {σ : HS} {x1 : Int32} {x2 : Int32} {x3 : Int32} {r0 : Int32} {s0 : HS} (hid : ∀ i, i < 277 → i ∈ ids) (h : f_X12_held x1 x2 x3 σ = some (r0, s0)) : Ki l D ids ad ca yX12_held cX12_held 3 .int 0 0 [.int x1, .int x2, .int x3] σ (fun r σ1 => r = r0 ∧ σ1 = s0) := by
  obtain ⟨R, hR⟩ : ∃ R, (r0, s0) = R := ⟨_, rfl⟩
  replace h := h.trans (congrArg some hR)
  refine Ki.of (by decide) (Nat.le_of_ble_eq_true rfl) 0 (fun Γ C Rt => ?_)
  show AW ids ad ca Γ 0 [some (.int x1), some (.int x2), some (.int x3)] [] σ
  unfold f_X12_held at h
  refine a_iload_n C dX12_held_0 (i := 0) rfl rfl ?_
  refine a_iload_n C dX12_held_1 (i := 1) rfl rfl ?_
  refine p_ic_ge C (X := x1.toInt) (Y := x2.toInt) rfl rfl dX12_held_2 (tgt := 9) rfl h (fun h => ?_) (fun h => ?_)
  ·
    refine a_iload_n C dX12_held_9 (i := 0) rfl rfl ?_
    refine a_iload_n C dX12_held_10 (i := 2) rfl rfl ?_
    refine p_ic_le C (X := x1.toInt) (Y := x3.toInt) rfl rfl dX12_held_11 (tgt := 18) rfl h (fun h => ?_) (fun h => ?_)
    ·
      refine a_iload_n C dX12_held_18 (i := 0) rfl rfl ?_
      exact a_iret Rt dX12_held_19 rfl (ret_eq (h.trans (congrArg some hR.symm)))
    ·
      refine a_iload_n C dX12_held_14 (i := 2) rfl rfl ?_
      refine a_goto C dX12_held_15 (tgt := 19) rfl ?_
      exact a_iret Rt dX12_held_19 rfl (ret_eq (h.trans (congrArg some hR.symm)))
  ·
    refine a_iload_n C dX12_held_5 (i := 1) rfl rfl ?_
    refine a_goto C dX12_held_6 (tgt := 19) rfl ?_
    exact a_iret Rt dX12_held_19 rfl (ret_eq (h.trans (congrArg some hR.symm)))
set_option maxHeartbeats 4000000 in
set_option maxRecDepth 100000 in
theorem Z_X12_bits {l : Launch} {D : va_G} {ids : List Nat} {ad : Nat → Nat} {ca : Nat → ClassId} {σ : HS} {x1 : Int32} {r0 : Int32} {s0 : HS} (hid : ∀ i, i < 277 → i ∈ ids) (h : f_X12_bits x1 σ = some (r0, s0)) : Ki l D ids ad ca yX12_bits cX12_bits 3 .int 0 0 [.int x1] σ (fun r σ1 => r = r0 ∧ σ1 = s0) := by
  obtain ⟨R, hR⟩ : ∃ R, (r0, s0) = R := ⟨_, rfl⟩
  replace h := h.trans (congrArg some hR)
  refine Ki.of (by decide) (Nat.le_of_ble_eq_true rfl) 2 (fun Γ C Rt => ?_)
  show AW ids ad ca Γ 0 [some (.int x1), none, none] [] σ
  unfold f_X12_bits at h
  have j4 : ∀ (n : Nat) (y0 : Int32) (y1 : Int32) (y2 : Int32) (σ : HS), f_X12_bits_4 n y0 y1 y2 σ = some R → AW ids ad ca Γ 4 [some (.int y0), some (.int y1), some (.int y2)] [] σ := by
    intro n
    induction n with
    | zero => intro y0 y1 y2 σ h; exact nn h
    | succ n ih =>
      intro y0 y1 y2 σ h
      have h : b_X12_bits_4 (f_X12_bits_4 n) y0 y1 y2 σ = some R := h
      unfold b_X12_bits_4 at h
      refine a_iload_n C dX12_bits_4 (i := 2) rfl rfl ?_
      refine a_bipush C dX12_bits_5 (v := 10) rfl ?_
      refine p_ic_ge C (X := y2.toInt) (Y := 10) rfl (by decide) dX12_bits_7 (tgt := 24) rfl h (fun h => ?_) (fun h => ?_)
      ·
        refine a_iload_n C dX12_bits_24 (i := 1) rfl rfl ?_
        exact a_iret Rt dX12_bits_25 rfl (ret_eq (h.trans (congrArg some hR.symm)))
      ·
        refine a_iload_n C dX12_bits_10 (i := 1) rfl rfl ?_
        refine a_iload_n C dX12_bits_11 (i := 0) rfl rfl ?_
        refine a_iload_n C dX12_bits_12 (i := 2) rfl rfl ?_
        refine a_ishr C dX12_bits_13 ?_
        refine a_iconst C dX12_bits_14 (v := 1) rfl ?_
        refine a_iand C dX12_bits_15 ?_
        refine a_iadd C dX12_bits_16 ?_
        refine p_istore_n C (fun z1 => [some (.int y0), some (.int z1), some (.int y2)]) dX12_bits_17 (i := 1) rfl (by decide) rfl (fun _ => rfl) h (fun z1 h => ?_)
        refine p_iinc C (y := (y2 + 1)) (fun z2 => [some (.int y0), some (.int z1), some (.int z2)]) dX12_bits_18 rfl rfl (by decide) rfl (fun _ => rfl) h (fun z2 h => ?_)
        refine a_goto C dX12_bits_21 (tgt := 4) rfl ?_
        exact ih _ _ _ _ h
  refine a_iconst C dX12_bits_0 (v := 0) rfl ?_
  refine a_istore_n C dX12_bits_1 (i := 1) rfl (by decide) rfl (vs1 := [some (.int x1), some (.int 0), none]) rfl ?_
  refine a_iconst C dX12_bits_2 (v := 0) rfl ?_
  refine a_istore_n C dX12_bits_3 (i := 2) rfl (by decide) rfl (vs1 := [some (.int x1), some (.int 0), some (.int 0)]) rfl ?_
  exact j4 _ _ _ _ _ h
set_option maxHeartbeats 4000000 in
set_option maxRecDepth 100000 in
theorem Z_X12_isThing {l : Launch} {D : va_G} {ids : List Nat} {ad : Nat → Nat} {ca : Nat → ClassId} {σ : HS} {x1 : Int32} {r0 : Int32} {s0 : HS} (hid : ∀ i, i < 277 → i ∈ ids) (h : f_X12_isThing x1 σ = some (r0, s0)) : Ki l D ids ad ca yX12_isThing cX12_isThing 2 .boolean 1 22 [.ref (ad 236), .int x1] σ (fun r σ1 => r = r0 ∧ σ1 = s0) := by
  obtain ⟨R, hR⟩ : ∃ R, (r0, s0) = R := ⟨_, rfl⟩
  replace h := h.trans (congrArg some hR)
  refine Ki.of (by decide) (Nat.le_of_ble_eq_true rfl) 0 (fun Γ C Rt => ?_)
  show AW ids ad ca Γ 0 [some (.ref (ad 236)), some (.int x1)] [] σ
  unfold f_X12_isThing at h
  refine a_iload_n C dX12_isThing_0 (i := 1) rfl rfl ?_
  refine a_iconst C dX12_isThing_1 (v := 0) rfl ?_
  refine a_aload_n C dX12_isThing_2 (i := 0) rfl rfl ?_
  refine a_get C fl_RX12_43 (i := 236) kd_236 (hid 236 (by decide)) (v := .ref (ad 245)) rfl dX12_isThing_3 ?_
  refine a_aload_n C dX12_isThing_6 (i := 0) rfl rfl ?_
  refine a_get C fl_RX12_221 (i := 236) kd_236 (hid 236 (by decide)) (v := .int (σ.1 236 18)) rfl dX12_isThing_7 ?_
  refine p_iald C (i := 245) (show rowOK 245 from ⟨kd_245, by decide⟩) hid (by rw [al_245]; rfl) dX12_isThing_10 h (fun h => ?_)
  refine a_iconst C dX12_isThing_11 (v := 1) rfl ?_
  refine a_isub C dX12_isThing_12 ?_
  refine p_callSi C (As := [.int x1, .int 0, .int ((σ.1 245 (σ.1 236 18).toInt.toNat) - (1 : Int32))]) h (fun _ _ e => Z_X12_in hid e) ms_X12_in ml_RX12_301 rfl rfl (Nat.le_of_ble_eq_true rfl) (Nat.le_of_ble_eq_true rfl) (Nat.le_of_ble_eq_true rfl) dX12_isThing_13 (fun r2 σ1 h => ?_)
  refine ite_n h (fun c h => ?_)
  exact a_iret Rt dX12_isThing_16 (nar_z c).1 (ret_eq (h.trans (congrArg some hR.symm)))
set_option maxHeartbeats 4000000 in
set_option maxRecDepth 100000 in
theorem Z_X12_isPattern {l : Launch} {D : va_G} {ids : List Nat} {ad : Nat → Nat} {ca : Nat → ClassId} {σ : HS} {x1 : Int32} {r0 : Int32} {s0 : HS} (hid : ∀ i, i < 277 → i ∈ ids) (h : f_X12_isPattern x1 σ = some (r0, s0)) : Ki l D ids ad ca yX12_isPattern cX12_isPattern 2 .boolean 1 22 [.ref (ad 236), .int x1] σ (fun r σ1 => r = r0 ∧ σ1 = s0) := by
  obtain ⟨R, hR⟩ : ∃ R, (r0, s0) = R := ⟨_, rfl⟩
  replace h := h.trans (congrArg some hR)
  refine Ki.of (by decide) (Nat.le_of_ble_eq_true rfl) 0 (fun Γ C Rt => ?_)
  show AW ids ad ca Γ 0 [some (.ref (ad 236)), some (.int x1)] [] σ
  unfold f_X12_isPattern at h
  refine a_iload_n C dX12_isPattern_0 (i := 1) rfl rfl ?_
  refine a_iconst C dX12_isPattern_1 (v := 0) rfl ?_
  refine a_aload_n C dX12_isPattern_2 (i := 0) rfl rfl ?_
  refine a_get C fl_RX12_55 (i := 236) kd_236 (hid 236 (by decide)) (v := .ref (ad 249)) rfl dX12_isPattern_3 ?_
  refine a_aload_n C dX12_isPattern_6 (i := 0) rfl rfl ?_
  refine a_get C fl_RX12_221 (i := 236) kd_236 (hid 236 (by decide)) (v := .int (σ.1 236 18)) rfl dX12_isPattern_7 ?_
  refine p_iald C (i := 249) (show rowOK 249 from ⟨kd_249, by decide⟩) hid (by rw [al_249]; rfl) dX12_isPattern_10 h (fun h => ?_)
  refine a_iconst C dX12_isPattern_11 (v := 1) rfl ?_
  refine a_isub C dX12_isPattern_12 ?_
  refine p_callSi C (As := [.int x1, .int 0, .int ((σ.1 249 (σ.1 236 18).toInt.toNat) - (1 : Int32))]) h (fun _ _ e => Z_X12_in hid e) ms_X12_in ml_RX12_301 rfl rfl (Nat.le_of_ble_eq_true rfl) (Nat.le_of_ble_eq_true rfl) (Nat.le_of_ble_eq_true rfl) dX12_isPattern_13 (fun r2 σ1 h => ?_)
  refine ite_n h (fun c h => ?_)
  exact a_iret Rt dX12_isPattern_16 (nar_z c).1 (ret_eq (h.trans (congrArg some hR.symm)))
set_option maxHeartbeats 4000000 in
set_option maxRecDepth 100000 in
theorem Z_X12_copies {l : Launch} {D : va_G} {ids : List Nat} {ad : Nat → Nat} {ca : Nat → ClassId} {σ : HS} {s0 : HS} (hid : ∀ i, i < 277 → i ∈ ids) (h : f_X12_copies σ = some s0) : Kv l D ids ad ca yX12_copies cX12_copies 2 0 0 [.ref (ad 236)] σ (fun σ1 => σ1 = s0) := by
  obtain ⟨R, hR⟩ : ∃ R, s0 = R := ⟨_, rfl⟩
  replace h := h.trans (congrArg some hR)
  refine Kv.of (by decide) (Nat.le_of_ble_eq_true rfl) 1 (fun Γ C Rt => ?_)
  show AW ids ad ca Γ 0 [some (.ref (ad 236)), none] [] σ
  unfold f_X12_copies at h
  have j2 : ∀ (n : Nat) (y1 : Int32) (σ : HS), f_X12_copies_2 n y1 σ = some R → AW ids ad ca Γ 2 [some (.ref (ad 236)), some (.int y1)] [] σ := by
    intro n
    induction n with
    | zero => intro y1 σ h; exact nn h
    | succ n ih =>
      intro y1 σ h
      have h : b_X12_copies_2 (f_X12_copies_2 n) y1 σ = some R := h
      unfold b_X12_copies_2 at h
      refine a_iload_n C dX12_copies_2 (i := 1) rfl rfl ?_
      refine a_bipush C dX12_copies_3 (v := 29) rfl ?_
      refine p_ic_ge C (X := y1.toInt) (Y := 29) rfl (by decide) dX12_copies_5 (tgt := 26) rfl h (fun h => ?_) (fun h => ?_)
      ·
        refine a_aload_n C dX12_copies_26 (i := 0) rfl rfl ?_
        refine a_aload_n C dX12_copies_27 (i := 0) rfl rfl ?_
        refine a_get C fl_RX12_67 (i := 236) kd_236 (hid 236 (by decide)) (v := .ref (ad 253)) rfl dX12_copies_28 ?_
        refine a_aload_n C dX12_copies_31 (i := 0) rfl rfl ?_
        refine a_get C fl_RX12_221 (i := 236) kd_236 (hid 236 (by decide)) (v := .int (σ.1 236 18)) rfl dX12_copies_32 ?_
        refine p_iald C (i := 253) (show rowOK 253 from ⟨kd_253, by decide⟩) hid (by rw [al_253]; rfl) dX12_copies_35 h (fun h => ?_)
        refine p_put C fp_RX12_305 (i := 236) kd_236 (hid 236 (by decide)) rfl rfl dX12_copies_36 h (fun σ1 h => ?_)
        refine a_aload_n C dX12_copies_39 (i := 0) rfl rfl ?_
        refine a_iconst C dX12_copies_40 (v := 0) rfl ?_
        refine p_put C fp_RX12_308 (i := 236) kd_236 (hid 236 (by decide)) (nar_z (by decide)).1 (nar_z (by decide)).2 dX12_copies_41 h (fun σ2 h => ?_)
        exact a_vret Rt dX12_copies_44 (retv_eq (h.trans (congrArg some hR.symm)))
      ·
        refine a_aload_n C dX12_copies_8 (i := 0) rfl rfl ?_
        refine a_get C fl_RX12_110 (i := 236) kd_236 (hid 236 (by decide)) (v := .ref (ad 267)) rfl dX12_copies_9 ?_
        refine a_iload_n C dX12_copies_12 (i := 1) rfl rfl ?_
        refine a_aload_n C dX12_copies_13 (i := 0) rfl rfl ?_
        refine a_get C fl_RX12_107 (i := 236) kd_236 (hid 236 (by decide)) (v := .ref (ad 266)) rfl dX12_copies_14 ?_
        refine a_iload_n C dX12_copies_17 (i := 1) rfl rfl ?_
        refine p_iald C (i := 266) (show rowOK 266 from ⟨kd_266, by decide⟩) hid (by rw [al_266]; rfl) dX12_copies_18 h (fun h => ?_)
        refine p_iast C (i := 267) (show rowOK 267 from ⟨kd_267, by decide⟩) hid (by rw [al_267]; rfl) dX12_copies_19 h (fun σ3 h => ?_)
        refine p_iinc C (y := (y1 + 1)) (fun z4 => [some (.ref (ad 236)), some (.int z4)]) dX12_copies_20 rfl rfl (by decide) rfl (fun _ => rfl) h (fun z4 h => ?_)
        refine a_goto C dX12_copies_23 (tgt := 2) rfl ?_
        exact ih _ _ h
  refine a_iconst C dX12_copies_0 (v := 0) rfl ?_
  refine a_istore_n C dX12_copies_1 (i := 1) rfl (by decide) rfl (vs1 := [some (.ref (ad 236)), some (.int 0)]) rfl ?_
  exact j2 _ _ _ h
set_option maxHeartbeats 4000000 in
set_option maxRecDepth 100000 in
theorem Z_X12_copiesStill {l : Launch} {D : va_G} {ids : List Nat} {ad : Nat → Nat} {ca : Nat → ClassId} {σ : HS} {s0 : HS} (hid : ∀ i, i < 277 → i ∈ ids) (h : f_X12_copiesStill σ = some s0) : Kv l D ids ad ca yX12_copiesStill cX12_copiesStill 1 1 21 [.ref (ad 236)] σ (fun σ1 => σ1 = s0) := by
  obtain ⟨R, hR⟩ : ∃ R, s0 = R := ⟨_, rfl⟩
  replace h := h.trans (congrArg some hR)
  refine Kv.of (by decide) (Nat.le_of_ble_eq_true rfl) 0 (fun Γ C Rt => ?_)
  show AW ids ad ca Γ 0 [some (.ref (ad 236))] [] σ
  unfold f_X12_copiesStill at h
  refine a_aload_n C dX12_copiesStill_0 (i := 0) rfl rfl ?_
  refine p_callVv C (As := []) (i := 236) kd_236 (hid 236 (by decide)) ⟨_, _, rfl⟩ (by decide) h (fun _ e => Z_X12_copies hid e) mi_X12_copies ml_RX12_311 rfl rfl (Nat.le_of_ble_eq_true rfl) (Nat.le_of_ble_eq_true rfl) (Nat.le_of_ble_eq_true rfl) dX12_copiesStill_1 (fun σ1 h => ?_)
  refine a_aload_n C dX12_copiesStill_4 (i := 0) rfl rfl ?_
  refine a_iconst C dX12_copiesStill_5 (v := 1) rfl ?_
  refine p_put C fp_RX12_308 (i := 236) kd_236 (hid 236 (by decide)) (nar_z (by decide)).1 (nar_z (by decide)).2 dX12_copiesStill_6 h (fun σ3 h => ?_)
  exact a_vret Rt dX12_copiesStill_9 (retv_eq (h.trans (congrArg some hR.symm)))
set_option maxHeartbeats 4000000 in
set_option maxRecDepth 100000 in
theorem Z_X12_mixed {l : Launch} {D : va_G} {ids : List Nat} {ad : Nat → Nat} {ca : Nat → ClassId} {σ : HS} {x1 : Int32} {x2 : Int32} {r0 : Int32} {s0 : HS} (hid : ∀ i, i < 277 → i ∈ ids) (h : f_X12_mixed x1 x2 σ = some (r0, s0)) : Ki l D ids ad ca yX12_mixed cX12_mixed 3 .int 0 0 [.int x1, .int x2] σ (fun r σ1 => r = r0 ∧ σ1 = s0) := by
  obtain ⟨R, hR⟩ : ∃ R, (r0, s0) = R := ⟨_, rfl⟩
  replace h := h.trans (congrArg some hR)
  refine Ki.of (by decide) (Nat.le_of_ble_eq_true rfl) 1 (fun Γ C Rt => ?_)
  show AW ids ad ca Γ 0 [some (.int x1), some (.int x2), none] [] σ
  unfold f_X12_mixed at h
  refine a_iload_n C dX12_mixed_0 (i := 0) rfl rfl ?_
  refine a_iload_n C dX12_mixed_1 (i := 1) rfl rfl ?_
  refine a_ixor C dX12_mixed_2 ?_
  refine a_ldcw C dX12_mixed_3 ko_RX12_314 ?_
  refine a_imul C dX12_mixed_6 ?_
  refine a_sipush C dX12_mixed_7 (v := 12345) rfl ?_
  refine a_iadd C dX12_mixed_10 ?_
  refine p_istore_n C (fun z1 => [some (.int x1), some (.int x2), some (.int z1)]) dX12_mixed_11 (i := 2) rfl (by decide) rfl (fun _ => rfl) h (fun z1 h => ?_)
  refine a_iload_n C dX12_mixed_12 (i := 2) rfl rfl ?_
  refine a_iload_n C dX12_mixed_13 (i := 2) rfl rfl ?_
  refine a_bipush C dX12_mixed_14 (v := 15) rfl ?_
  refine a_iushr C dX12_mixed_16 ?_
  refine a_ixor C dX12_mixed_17 ?_
  exact a_iret Rt dX12_mixed_18 rfl (ret_eq (h.trans (congrArg some hR.symm)))
set_option maxHeartbeats 4000000 in
set_option maxRecDepth 100000 in
theorem Z_X12_lotNow {l : Launch} {D : va_G} {ids : List Nat} {ad : Nat → Nat} {ca : Nat → ClassId} {σ : HS} {r0 : Int32} {s0 : HS} (hid : ∀ i, i < 277 → i ∈ ids) (h : f_X12_lotNow σ = some (r0, s0)) : Ki l D ids ad ca yX12_lotNow cX12_lotNow 1 .int 1 22 [.ref (ad 236)] σ (fun r σ1 => r = r0 ∧ σ1 = s0) := by
  obtain ⟨R, hR⟩ : ∃ R, (r0, s0) = R := ⟨_, rfl⟩
  replace h := h.trans (congrArg some hR)
  refine Ki.of (by decide) (Nat.le_of_ble_eq_true rfl) 0 (fun Γ C Rt => ?_)
  show AW ids ad ca Γ 0 [some (.ref (ad 236))] [] σ
  unfold f_X12_lotNow at h
  refine a_aload_n C dX12_lotNow_0 (i := 0) rfl rfl ?_
  refine a_get C fl_RX12_305 (i := 236) kd_236 (hid 236 (by decide)) (v := .int (σ.1 236 49)) rfl dX12_lotNow_1 ?_
  refine a_bipush C dX12_lotNow_4 (v := 125) rfl ?_
  refine p_callSi C (As := [.int (σ.1 236 49), .int 125]) h (fun _ _ e => Z_X12_mixed hid e) ms_X12_mixed ml_RX12_315 rfl rfl (Nat.le_of_ble_eq_true rfl) (Nat.le_of_ble_eq_true rfl) (Nat.le_of_ble_eq_true rfl) dX12_lotNow_6 (fun r2 σ1 h => ?_)
  refine a_iconst C dX12_lotNow_9 (v := 4) rfl ?_
  refine a_aload_n C dX12_lotNow_10 (i := 0) rfl rfl ?_
  refine a_get C fl_RX12_110 (i := 236) kd_236 (hid 236 (by decide)) (v := .ref (ad 267)) rfl dX12_lotNow_11 ?_
  refine a_bipush C dX12_lotNow_14 (v := 21) rfl ?_
  refine p_ialdc C (i := 267) 21 (show rowOK 267 from ⟨kd_267, by decide⟩) hid (by decide) (by rw [al_267]; decide) dX12_lotNow_16 ?_
  refine a_imul C dX12_lotNow_17 ?_
  refine p_callSi C (As := [.int r2, .int ((4 : Int32) * (σ1.1 267 21))]) h (fun _ _ e => Z_X12_mixed hid e) ms_X12_mixed ml_RX12_315 rfl rfl (Nat.le_of_ble_eq_true rfl) (Nat.le_of_ble_eq_true rfl) (Nat.le_of_ble_eq_true rfl) dX12_lotNow_18 (fun r4 σ3 h => ?_)
  refine a_iconst C dX12_lotNow_21 (v := 1) rfl ?_
  refine a_iushr C dX12_lotNow_22 ?_
  refine a_bipush C dX12_lotNow_23 (v := 100) rfl ?_
  refine a_irem C dX12_lotNow_25 (by decide) ?_
  exact a_iret Rt dX12_lotNow_26 rfl (ret_eq (h.trans (congrArg some hR.symm)))
set_option maxHeartbeats 4000000 in
set_option maxRecDepth 100000 in
theorem Z_X12_lengthOf {l : Launch} {D : va_G} {ids : List Nat} {ad : Nat → Nat} {ca : Nat → ClassId} {σ : HS} {x1 : Int32} {r0 : Int32} {s0 : HS} (hid : ∀ i, i < 277 → i ∈ ids) (h : f_X12_lengthOf x1 σ = some (r0, s0)) : Ki l D ids ad ca yX12_lengthOf cX12_lengthOf 2 .int 0 0 [.ref (ad 236), .int x1] σ (fun r σ1 => r = r0 ∧ σ1 = s0) := by
  obtain ⟨R, hR⟩ : ∃ R, (r0, s0) = R := ⟨_, rfl⟩
  replace h := h.trans (congrArg some hR)
  refine Ki.of (by decide) (Nat.le_of_ble_eq_true rfl) 0 (fun Γ C Rt => ?_)
  show AW ids ad ca Γ 0 [some (.ref (ad 236)), some (.int x1)] [] σ
  unfold f_X12_lengthOf at h
  refine a_aload_n C dX12_lengthOf_0 (i := 0) rfl rfl ?_
  refine a_get C fl_RX12_58 (i := 236) kd_236 (hid 236 (by decide)) (v := .ref (ad 250)) rfl dX12_lengthOf_1 ?_
  refine a_iconst C dX12_lengthOf_4 (v := 5) rfl ?_
  refine a_aload_n C dX12_lengthOf_5 (i := 0) rfl rfl ?_
  refine a_get C fl_RX12_221 (i := 236) kd_236 (hid 236 (by decide)) (v := .int (σ.1 236 18)) rfl dX12_lengthOf_6 ?_
  refine a_imul C dX12_lengthOf_9 ?_
  refine a_iload_n C dX12_lengthOf_10 (i := 1) rfl rfl ?_
  refine a_iadd C dX12_lengthOf_11 ?_
  refine p_iald C (i := 250) (show rowOK 250 from ⟨kd_250, by decide⟩) hid (by rw [al_250]; rfl) dX12_lengthOf_12 h (fun h => ?_)
  exact a_iret Rt dX12_lengthOf_13 rfl (ret_eq (h.trans (congrArg some hR.symm)))
set_option maxHeartbeats 4000000 in
set_option maxRecDepth 100000 in
theorem Z_X12_heightAt {l : Launch} {D : va_G} {ids : List Nat} {ad : Nat → Nat} {ca : Nat → ClassId} {σ : HS} {x1 : Int32} {x2 : Int32} {r0 : Int32} {s0 : HS} (hid : ∀ i, i < 277 → i ∈ ids) (h : f_X12_heightAt x1 x2 σ = some (r0, s0)) : Ki l D ids ad ca yX12_heightAt cX12_heightAt 3 .int 1 21 [.ref (ad 236), .int x1, .int x2] σ (fun r σ1 => r = r0 ∧ σ1 = s0) := by
  obtain ⟨R, hR⟩ : ∃ R, (r0, s0) = R := ⟨_, rfl⟩
  replace h := h.trans (congrArg some hR)
  refine Ki.of (by decide) (Nat.le_of_ble_eq_true rfl) 0 (fun Γ C Rt => ?_)
  show AW ids ad ca Γ 0 [some (.ref (ad 236)), some (.int x1), some (.int x2)] [] σ
  unfold f_X12_heightAt at h
  refine a_aload_n C dX12_heightAt_0 (i := 0) rfl rfl ?_
  refine a_get C fl_RX12_61 (i := 236) kd_236 (hid 236 (by decide)) (v := .ref (ad 251)) rfl dX12_heightAt_1 ?_
  refine a_bipush C dX12_heightAt_4 (v := 8) rfl ?_
  refine a_iconst C dX12_heightAt_6 (v := 5) rfl ?_
  refine a_aload_n C dX12_heightAt_7 (i := 0) rfl rfl ?_
  refine a_get C fl_RX12_221 (i := 236) kd_236 (hid 236 (by decide)) (v := .int (σ.1 236 18)) rfl dX12_heightAt_8 ?_
  refine a_imul C dX12_heightAt_11 ?_
  refine a_iload_n C dX12_heightAt_12 (i := 1) rfl rfl ?_
  refine a_iadd C dX12_heightAt_13 ?_
  refine a_imul C dX12_heightAt_14 ?_
  refine a_iload_n C dX12_heightAt_15 (i := 2) rfl rfl ?_
  refine a_aload_n C dX12_heightAt_16 (i := 0) rfl rfl ?_
  refine a_iload_n C dX12_heightAt_17 (i := 1) rfl rfl ?_
  refine p_callVi C (As := [.int x1]) (i := 236) kd_236 (hid 236 (by decide)) ⟨_, _, rfl⟩ (by decide) h (fun _ _ e => Z_X12_lengthOf hid e) mi_X12_lengthOf ml_RX12_318 rfl rfl (Nat.le_of_ble_eq_true rfl) (Nat.le_of_ble_eq_true rfl) (Nat.le_of_ble_eq_true rfl) dX12_heightAt_18 (fun r2 σ1 h => ?_)
  refine p_irem C rfl dX12_heightAt_21 h (fun h => ?_)
  refine a_iadd C dX12_heightAt_22 ?_
  refine p_iald C (i := 251) (show rowOK 251 from ⟨kd_251, by decide⟩) hid (by rw [al_251]; rfl) dX12_heightAt_23 h (fun h => ?_)
  exact a_iret Rt dX12_heightAt_24 rfl (ret_eq (h.trans (congrArg some hR.symm)))
set_option maxHeartbeats 4000000 in
set_option maxRecDepth 100000 in
theorem Z_X12_heightNow {l : Launch} {D : va_G} {ids : List Nat} {ad : Nat → Nat} {ca : Nat → ClassId} {σ : HS} {r0 : Int32} {s0 : HS} (hid : ∀ i, i < 277 → i ∈ ids) (h : f_X12_heightNow σ = some (r0, s0)) : Ki l D ids ad ca yX12_heightNow cX12_heightNow 1 .int 2 43 [.ref (ad 236)] σ (fun r σ1 => r = r0 ∧ σ1 = s0) := by
  obtain ⟨R, hR⟩ : ∃ R, (r0, s0) = R := ⟨_, rfl⟩
  replace h := h.trans (congrArg some hR)
  refine Ki.of (by decide) (Nat.le_of_ble_eq_true rfl) 0 (fun Γ C Rt => ?_)
  show AW ids ad ca Γ 0 [some (.ref (ad 236))] [] σ
  unfold f_X12_heightNow at h
  refine a_aload_n C dX12_heightNow_0 (i := 0) rfl rfl ?_
  refine a_get C fl_RX12_110 (i := 236) kd_236 (hid 236 (by decide)) (v := .ref (ad 267)) rfl dX12_heightNow_1 ?_
  refine a_bipush C dX12_heightNow_4 (v := 28) rfl ?_
  refine p_ialdc C (i := 267) 28 (show rowOK 267 from ⟨kd_267, by decide⟩) hid (by decide) (by rw [al_267]; decide) dX12_heightNow_6 ?_
  refine p_if_lt C (X := (σ.1 267 28).toInt) rfl dX12_heightNow_7 (tgt := 18) rfl h (fun h => ?_) (fun h => ?_)
  ·
    refine a_aload_n C dX12_heightNow_18 (i := 0) rfl rfl ?_
    refine a_get C fl_RX12_110 (i := 236) kd_236 (hid 236 (by decide)) (v := .ref (ad 267)) rfl dX12_heightNow_19 ?_
    refine a_bipush C dX12_heightNow_22 (v := 26) rfl ?_
    refine p_ialdc C (i := 267) 26 (show rowOK 267 from ⟨kd_267, by decide⟩) hid (by decide) (by rw [al_267]; decide) dX12_heightNow_24 ?_
    refine p_if_ge C (X := (σ.1 267 26).toInt) rfl dX12_heightNow_25 (tgt := 32) rfl h (fun h => ?_) (fun h => ?_)
    ·
      refine a_aload_n C dX12_heightNow_32 (i := 0) rfl rfl ?_
      refine a_aload_n C dX12_heightNow_33 (i := 0) rfl rfl ?_
      refine a_get C fl_RX12_110 (i := 236) kd_236 (hid 236 (by decide)) (v := .ref (ad 267)) rfl dX12_heightNow_34 ?_
      refine a_bipush C dX12_heightNow_37 (v := 26) rfl ?_
      refine p_ialdc C (i := 267) 26 (show rowOK 267 from ⟨kd_267, by decide⟩) hid (by decide) (by rw [al_267]; decide) dX12_heightNow_39 ?_
      refine a_aload_n C dX12_heightNow_40 (i := 0) rfl rfl ?_
      refine a_get C fl_RX12_110 (i := 236) kd_236 (hid 236 (by decide)) (v := .ref (ad 267)) rfl dX12_heightNow_41 ?_
      refine a_bipush C dX12_heightNow_44 (v := 21) rfl ?_
      refine p_ialdc C (i := 267) 21 (show rowOK 267 from ⟨kd_267, by decide⟩) hid (by decide) (by rw [al_267]; decide) dX12_heightNow_46 ?_
      refine a_aload_n C dX12_heightNow_47 (i := 0) rfl rfl ?_
      refine a_get C fl_RX12_110 (i := 236) kd_236 (hid 236 (by decide)) (v := .ref (ad 267)) rfl dX12_heightNow_48 ?_
      refine a_bipush C dX12_heightNow_51 (v := 27) rfl ?_
      refine p_ialdc C (i := 267) 27 (show rowOK 267 from ⟨kd_267, by decide⟩) hid (by decide) (by rw [al_267]; decide) dX12_heightNow_53 ?_
      refine a_isub C dX12_heightNow_54 ?_
      refine p_callVi C (As := [.int (σ.1 267 26), .int ((σ.1 267 21) - (σ.1 267 27))]) (i := 236) kd_236 (hid 236 (by decide)) ⟨_, _, rfl⟩ (by decide) h (fun _ _ e => Z_X12_heightAt hid e) mi_X12_heightAt ml_RX12_321 rfl rfl (Nat.le_of_ble_eq_true rfl) (Nat.le_of_ble_eq_true rfl) (Nat.le_of_ble_eq_true rfl) dX12_heightNow_55 (fun r2 σ1 h => ?_)
      exact a_iret Rt dX12_heightNow_58 rfl (ret_eq (h.trans (congrArg some hR.symm)))
    ·
      refine a_iconst C dX12_heightNow_28 (v := 3) rfl ?_
      refine a_goto C dX12_heightNow_29 (tgt := 58) rfl ?_
      exact a_iret Rt dX12_heightNow_58 rfl (ret_eq (h.trans (congrArg some hR.symm)))
  ·
    refine a_aload_n C dX12_heightNow_10 (i := 0) rfl rfl ?_
    refine a_get C fl_RX12_110 (i := 236) kd_236 (hid 236 (by decide)) (v := .ref (ad 267)) rfl dX12_heightNow_11 ?_
    refine a_bipush C dX12_heightNow_14 (v := 28) rfl ?_
    refine p_ialdc C (i := 267) 28 (show rowOK 267 from ⟨kd_267, by decide⟩) hid (by decide) (by rw [al_267]; decide) dX12_heightNow_16 ?_
    exact a_iret Rt dX12_heightNow_17 rfl (ret_eq (h.trans (congrArg some hR.symm)))
set_option maxHeartbeats 4000000 in
set_option maxRecDepth 100000 in
theorem Z_X12_thingsSo {l : Launch} {D : va_G} {ids : List Nat} {ad : Nat → Nat} {ca : Nat → ClassId} {σ : HS} {x1 : Int32} {r0 : Int32} {s0 : HS} (hid : ∀ i, i < 277 → i ∈ ids) (h : f_X12_thingsSo x1 σ = some (r0, s0)) : Ki l D ids ad ca yX12_thingsSo cX12_thingsSo 4 .int 0 0 [.ref (ad 236), .int x1] σ (fun r σ1 => r = r0 ∧ σ1 = s0) := by
  obtain ⟨R, hR⟩ : ∃ R, (r0, s0) = R := ⟨_, rfl⟩
  replace h := h.trans (congrArg some hR)
  refine Ki.of (by decide) (Nat.le_of_ble_eq_true rfl) 2 (fun Γ C Rt => ?_)
  show AW ids ad ca Γ 0 [some (.ref (ad 236)), some (.int x1), none, none] [] σ
  unfold f_X12_thingsSo at h
  have j33 : ∀ (k4 : Int32 → Int32 → Int32 → HS → Option (Int32 × HS)) (hk4 : ∀ (y1 : Int32) (y2 : Int32) (y3 : Int32) (σ : HS), k4 y1 y2 y3 σ = some R → AW ids ad ca Γ 4 [some (.ref (ad 236)), some (.int y1), some (.int y2), some (.int y3)] [] σ) (y1 : Int32) (y2 : Int32) (y3 : Int32) (σ : HS), f_X12_thingsSo_33 k4 y1 y2 y3 σ = some R → AW ids ad ca Γ 33 [some (.ref (ad 236)), some (.int y1), some (.int y2), some (.int y3)] [] σ := by
    intro k4 hk4 y1 y2 y3 σ h
    unfold f_X12_thingsSo_33 at h
    refine p_iinc C (y := (y3 + 1)) (fun z1 => [some (.ref (ad 236)), some (.int y1), some (.int y2), some (.int z1)]) dX12_thingsSo_33 rfl rfl (by decide) rfl (fun _ => rfl) h (fun z1 h => ?_)
    refine a_goto C dX12_thingsSo_36 (tgt := 4) rfl ?_
    exact hk4 _ _ _ _ h
  have j4 : ∀ (n : Nat) (y1 : Int32) (y2 : Int32) (y3 : Int32) (σ : HS), f_X12_thingsSo_4 n y1 y2 y3 σ = some R → AW ids ad ca Γ 4 [some (.ref (ad 236)), some (.int y1), some (.int y2), some (.int y3)] [] σ := by
    intro n
    induction n with
    | zero => intro y1 y2 y3 σ h; exact nn h
    | succ n ih =>
      intro y1 y2 y3 σ h
      have h : b_X12_thingsSo_4 (f_X12_thingsSo_4 n) y1 y2 y3 σ = some R := h
      unfold b_X12_thingsSo_4 at h
      refine a_iload_n C dX12_thingsSo_4 (i := 3) rfl rfl ?_
      refine a_aload_n C dX12_thingsSo_5 (i := 0) rfl rfl ?_
      refine a_get C fl_RX12_43 (i := 236) kd_236 (hid 236 (by decide)) (v := .ref (ad 245)) rfl dX12_thingsSo_6 ?_
      refine a_aload_n C dX12_thingsSo_9 (i := 0) rfl rfl ?_
      refine a_get C fl_RX12_221 (i := 236) kd_236 (hid 236 (by decide)) (v := .int (σ.1 236 18)) rfl dX12_thingsSo_10 ?_
      refine p_iald C (i := 245) (show rowOK 245 from ⟨kd_245, by decide⟩) hid (by rw [al_245]; rfl) dX12_thingsSo_13 h (fun h => ?_)
      refine p_ic_ge C (X := y3.toInt) (Y := (σ.1 245 (σ.1 236 18).toInt.toNat).toInt) rfl rfl dX12_thingsSo_14 (tgt := 39) rfl h (fun h => ?_) (fun h => ?_)
      ·
        refine a_iload_n C dX12_thingsSo_39 (i := 2) rfl rfl ?_
        exact a_iret Rt dX12_thingsSo_40 rfl (ret_eq (h.trans (congrArg some hR.symm)))
      ·
        refine a_aload_n C dX12_thingsSo_17 (i := 0) rfl rfl ?_
        refine a_get C fl_RX12_110 (i := 236) kd_236 (hid 236 (by decide)) (v := .ref (ad 267)) rfl dX12_thingsSo_18 ?_
        refine a_iload_n C dX12_thingsSo_21 (i := 3) rfl rfl ?_
        refine p_iald C (i := 267) (show rowOK 267 from ⟨kd_267, by decide⟩) hid (by rw [al_267]; rfl) dX12_thingsSo_22 h (fun h => ?_)
        refine a_iload_n C dX12_thingsSo_23 (i := 1) rfl rfl ?_
        refine p_ic_ne C (X := (σ.1 267 y3.toInt.toNat).toInt) (Y := y1.toInt) rfl rfl dX12_thingsSo_24 (tgt := 33) rfl h (fun h => ?_) (fun h => ?_)
        ·
          exact j33 (f_X12_thingsSo_4 n) (fun y1 y2 y3 σ h => ih y1 y2 y3 σ h) _ _ _ _ h
        ·
          refine a_iload_n C dX12_thingsSo_27 (i := 2) rfl rfl ?_
          refine a_iconst C dX12_thingsSo_28 (v := 1) rfl ?_
          refine a_iload_n C dX12_thingsSo_29 (i := 3) rfl rfl ?_
          refine a_ishl C dX12_thingsSo_30 ?_
          refine a_ior C dX12_thingsSo_31 ?_
          refine p_istore_n C (fun z1 => [some (.ref (ad 236)), some (.int y1), some (.int z1), some (.int y3)]) dX12_thingsSo_32 (i := 2) rfl (by decide) rfl (fun _ => rfl) h (fun z1 h => ?_)
          exact j33 (f_X12_thingsSo_4 n) (fun y1 y2 y3 σ h => ih y1 y2 y3 σ h) _ _ _ _ h
  refine a_iconst C dX12_thingsSo_0 (v := 0) rfl ?_
  refine a_istore_n C dX12_thingsSo_1 (i := 2) rfl (by decide) rfl (vs1 := [some (.ref (ad 236)), some (.int x1), some (.int 0), none]) rfl ?_
  refine a_iconst C dX12_thingsSo_2 (v := 0) rfl ?_
  refine a_istore_n C dX12_thingsSo_3 (i := 3) rfl (by decide) rfl (vs1 := [some (.ref (ad 236)), some (.int x1), some (.int 0), some (.int 0)]) rfl ?_
  exact j4 _ _ _ _ _ h
set_option maxHeartbeats 4000000 in
set_option maxRecDepth 100000 in
theorem Z_X12_doesLand {l : Launch} {D : va_G} {ids : List Nat} {ad : Nat → Nat} {ca : Nat → ClassId} {σ : HS} {x1 : Int32} {x2 : Int32} {r0 : Int32} {s0 : HS} (hid : ∀ i, i < 277 → i ∈ ids) (h : f_X12_doesLand x1 x2 σ = some (r0, s0)) : Ki l D ids ad ca yX12_doesLand cX12_doesLand 3 .boolean 0 0 [.ref (ad 236), .int x1, .int x2] σ (fun r σ1 => r = r0 ∧ σ1 = s0) := by
  obtain ⟨R, hR⟩ : ∃ R, (r0, s0) = R := ⟨_, rfl⟩
  replace h := h.trans (congrArg some hR)
  refine Ki.of (by decide) (Nat.le_of_ble_eq_true rfl) 0 (fun Γ C Rt => ?_)
  show AW ids ad ca Γ 0 [some (.ref (ad 236)), some (.int x1), some (.int x2)] [] σ
  unfold f_X12_doesLand at h
  refine a_aload_n C dX12_doesLand_0 (i := 0) rfl rfl ?_
  refine a_get C fl_RX12_110 (i := 236) kd_236 (hid 236 (by decide)) (v := .ref (ad 267)) rfl dX12_doesLand_1 ?_
  refine a_iload_n C dX12_doesLand_4 (i := 1) rfl rfl ?_
  refine p_iald C (i := 267) (show rowOK 267 from ⟨kd_267, by decide⟩) hid (by rw [al_267]; rfl) dX12_doesLand_5 h (fun h => ?_)
  refine p_if_ne C (X := (σ.1 267 x1.toInt.toNat).toInt) rfl dX12_doesLand_6 (tgt := 26) rfl h (fun h => ?_) (fun h => ?_)
  ·
    refine a_iconst C dX12_doesLand_26 (v := 0) rfl ?_
    exact a_iret Rt dX12_doesLand_27 (nar_z (by decide)).1 (ret_eq (h.trans (congrArg some hR.symm)))
  ·
    refine a_aload_n C dX12_doesLand_9 (i := 0) rfl rfl ?_
    refine a_get C fl_RX12_110 (i := 236) kd_236 (hid 236 (by decide)) (v := .ref (ad 267)) rfl dX12_doesLand_10 ?_
    refine a_bipush C dX12_doesLand_13 (v := 7) rfl ?_
    refine a_iload_n C dX12_doesLand_15 (i := 1) rfl rfl ?_
    refine a_iadd C dX12_doesLand_16 ?_
    refine p_iald C (i := 267) (show rowOK 267 from ⟨kd_267, by decide⟩) hid (by rw [al_267]; rfl) dX12_doesLand_17 h (fun h => ?_)
    refine a_iload_n C dX12_doesLand_18 (i := 2) rfl rfl ?_
    refine p_ic_ne C (X := (σ.1 267 ((7 : Int32) + x1).toInt.toNat).toInt) (Y := x2.toInt) rfl rfl dX12_doesLand_19 (tgt := 26) rfl h (fun h => ?_) (fun h => ?_)
    ·
      refine a_iconst C dX12_doesLand_26 (v := 0) rfl ?_
      exact a_iret Rt dX12_doesLand_27 (nar_z (by decide)).1 (ret_eq (h.trans (congrArg some hR.symm)))
    ·
      refine a_iconst C dX12_doesLand_22 (v := 1) rfl ?_
      refine a_goto C dX12_doesLand_23 (tgt := 27) rfl ?_
      exact a_iret Rt dX12_doesLand_27 (nar_z (by decide)).1 (ret_eq (h.trans (congrArg some hR.symm)))
set_option maxHeartbeats 4000000 in
set_option maxRecDepth 100000 in
theorem Z_X12_landsAt {l : Launch} {D : va_G} {ids : List Nat} {ad : Nat → Nat} {ca : Nat → ClassId} {σ : HS} {x1 : Int32} {r0 : Int32} {s0 : HS} (hid : ∀ i, i < 277 → i ∈ ids) (h : f_X12_landsAt x1 σ = some (r0, s0)) : Ki l D ids ad ca yX12_landsAt cX12_landsAt 4 .int 1 22 [.ref (ad 236), .int x1] σ (fun r σ1 => r = r0 ∧ σ1 = s0) := by
  obtain ⟨R, hR⟩ : ∃ R, (r0, s0) = R := ⟨_, rfl⟩
  replace h := h.trans (congrArg some hR)
  refine Ki.of (by decide) (Nat.le_of_ble_eq_true rfl) 2 (fun Γ C Rt => ?_)
  show AW ids ad ca Γ 0 [some (.ref (ad 236)), some (.int x1), none, none] [] σ
  unfold f_X12_landsAt at h
  have j29 : ∀ (k4 : Int32 → Int32 → Int32 → HS → Option (Int32 × HS)) (hk4 : ∀ (y1 : Int32) (y2 : Int32) (y3 : Int32) (σ : HS), k4 y1 y2 y3 σ = some R → AW ids ad ca Γ 4 [some (.ref (ad 236)), some (.int y1), some (.int y2), some (.int y3)] [] σ) (y1 : Int32) (y2 : Int32) (y3 : Int32) (σ : HS), f_X12_landsAt_29 k4 y1 y2 y3 σ = some R → AW ids ad ca Γ 29 [some (.ref (ad 236)), some (.int y1), some (.int y2), some (.int y3)] [] σ := by
    intro k4 hk4 y1 y2 y3 σ h
    unfold f_X12_landsAt_29 at h
    refine p_iinc C (y := (y3 + 1)) (fun z1 => [some (.ref (ad 236)), some (.int y1), some (.int y2), some (.int z1)]) dX12_landsAt_29 rfl rfl (by decide) rfl (fun _ => rfl) h (fun z1 h => ?_)
    refine a_goto C dX12_landsAt_32 (tgt := 4) rfl ?_
    exact hk4 _ _ _ _ h
  have j4 : ∀ (n : Nat) (y1 : Int32) (y2 : Int32) (y3 : Int32) (σ : HS), f_X12_landsAt_4 n y1 y2 y3 σ = some R → AW ids ad ca Γ 4 [some (.ref (ad 236)), some (.int y1), some (.int y2), some (.int y3)] [] σ := by
    intro n
    induction n with
    | zero => intro y1 y2 y3 σ h; exact nn h
    | succ n ih =>
      intro y1 y2 y3 σ h
      have h : b_X12_landsAt_4 (f_X12_landsAt_4 n) y1 y2 y3 σ = some R := h
      unfold b_X12_landsAt_4 at h
      refine a_iload_n C dX12_landsAt_4 (i := 3) rfl rfl ?_
      refine a_aload_n C dX12_landsAt_5 (i := 0) rfl rfl ?_
      refine a_get C fl_RX12_43 (i := 236) kd_236 (hid 236 (by decide)) (v := .ref (ad 245)) rfl dX12_landsAt_6 ?_
      refine a_aload_n C dX12_landsAt_9 (i := 0) rfl rfl ?_
      refine a_get C fl_RX12_221 (i := 236) kd_236 (hid 236 (by decide)) (v := .int (σ.1 236 18)) rfl dX12_landsAt_10 ?_
      refine p_iald C (i := 245) (show rowOK 245 from ⟨kd_245, by decide⟩) hid (by rw [al_245]; rfl) dX12_landsAt_13 h (fun h => ?_)
      refine p_ic_ge C (X := y3.toInt) (Y := (σ.1 245 (σ.1 236 18).toInt.toNat).toInt) rfl rfl dX12_landsAt_14 (tgt := 35) rfl h (fun h => ?_) (fun h => ?_)
      ·
        refine a_iload_n C dX12_landsAt_35 (i := 2) rfl rfl ?_
        exact a_iret Rt dX12_landsAt_36 rfl (ret_eq (h.trans (congrArg some hR.symm)))
      ·
        refine a_aload_n C dX12_landsAt_17 (i := 0) rfl rfl ?_
        refine a_iload_n C dX12_landsAt_18 (i := 3) rfl rfl ?_
        refine a_iload_n C dX12_landsAt_19 (i := 1) rfl rfl ?_
        refine p_callVi C (As := [.int y3, .int y1]) (i := 236) kd_236 (hid 236 (by decide)) ⟨_, _, rfl⟩ (by decide) h (fun _ _ e => Z_X12_doesLand hid e) mi_X12_doesLand ml_RX12_324 rfl rfl (Nat.le_of_ble_eq_true rfl) (Nat.le_of_ble_eq_true rfl) (Nat.le_of_ble_eq_true rfl) dX12_landsAt_20 (fun r2 σ1 h => ?_)
        refine p_if_eq C (X := r2.toInt) rfl dX12_landsAt_23 (tgt := 29) rfl h (fun h => ?_) (fun h => ?_)
        ·
          exact j29 (f_X12_landsAt_4 n) (fun y1 y2 y3 σ h => ih y1 y2 y3 σ h) _ _ _ _ h
        ·
          refine p_iinc C (y := (y2 + 1)) (fun z3 => [some (.ref (ad 236)), some (.int y1), some (.int z3), some (.int y3)]) dX12_landsAt_26 rfl rfl (by decide) rfl (fun _ => rfl) h (fun z3 h => ?_)
          exact j29 (f_X12_landsAt_4 n) (fun y1 y2 y3 σ h => ih y1 y2 y3 σ h) _ _ _ _ h
  refine a_iconst C dX12_landsAt_0 (v := 0) rfl ?_
  refine a_istore_n C dX12_landsAt_1 (i := 2) rfl (by decide) rfl (vs1 := [some (.ref (ad 236)), some (.int x1), some (.int 0), none]) rfl ?_
  refine a_iconst C dX12_landsAt_2 (v := 0) rfl ?_
  refine a_istore_n C dX12_landsAt_3 (i := 3) rfl (by decide) rfl (vs1 := [some (.ref (ad 236)), some (.int x1), some (.int 0), some (.int 0)]) rfl ?_
  exact j4 _ _ _ _ _ h
set_option maxHeartbeats 4000000 in
set_option maxRecDepth 100000 in
theorem Z_X12_catchesNow {l : Launch} {D : va_G} {ids : List Nat} {ad : Nat → Nat} {ca : Nat → ClassId} {σ : HS} {r0 : Int32} {s0 : HS} (hid : ∀ i, i < 277 → i ∈ ids) (h : f_X12_catchesNow σ = some (r0, s0)) : Ki l D ids ad ca yX12_catchesNow cX12_catchesNow 2 .int 1 22 [.ref (ad 236)] σ (fun r σ1 => r = r0 ∧ σ1 = s0) := by
  obtain ⟨R, hR⟩ : ∃ R, (r0, s0) = R := ⟨_, rfl⟩
  replace h := h.trans (congrArg some hR)
  refine Ki.of (by decide) (Nat.le_of_ble_eq_true rfl) 1 (fun Γ C Rt => ?_)
  show AW ids ad ca Γ 0 [some (.ref (ad 236)), none] [] σ
  unfold f_X12_catchesNow at h
  have j2 : ∀ (n : Nat) (y1 : Int32) (σ : HS), f_X12_catchesNow_2 n y1 σ = some R → AW ids ad ca Γ 2 [some (.ref (ad 236)), some (.int y1)] [] σ := by
    intro n
    induction n with
    | zero => intro y1 σ h; exact nn h
    | succ n ih =>
      intro y1 σ h
      have h : b_X12_catchesNow_2 (f_X12_catchesNow_2 n) y1 σ = some R := h
      unfold b_X12_catchesNow_2 at h
      refine a_iload_n C dX12_catchesNow_2 (i := 1) rfl rfl ?_
      refine a_aload_n C dX12_catchesNow_3 (i := 0) rfl rfl ?_
      refine a_get C fl_RX12_43 (i := 236) kd_236 (hid 236 (by decide)) (v := .ref (ad 245)) rfl dX12_catchesNow_4 ?_
      refine a_aload_n C dX12_catchesNow_7 (i := 0) rfl rfl ?_
      refine a_get C fl_RX12_221 (i := 236) kd_236 (hid 236 (by decide)) (v := .int (σ.1 236 18)) rfl dX12_catchesNow_8 ?_
      refine p_iald C (i := 245) (show rowOK 245 from ⟨kd_245, by decide⟩) hid (by rw [al_245]; rfl) dX12_catchesNow_11 h (fun h => ?_)
      refine p_ic_ge C (X := y1.toInt) (Y := (σ.1 245 (σ.1 236 18).toInt.toNat).toInt) rfl rfl dX12_catchesNow_12 (tgt := 32) rfl h (fun h => ?_) (fun h => ?_)
      ·
        refine a_bipush C dX12_catchesNow_32 (v := (-2)) rfl ?_
        exact a_iret Rt dX12_catchesNow_34 rfl (ret_eq (h.trans (congrArg some hR.symm)))
      ·
        refine a_aload_n C dX12_catchesNow_15 (i := 0) rfl rfl ?_
        refine a_iload_n C dX12_catchesNow_16 (i := 1) rfl rfl ?_
        refine a_iconst C dX12_catchesNow_17 (v := 0) rfl ?_
        refine p_callVi C (As := [.int y1, .int 0]) (i := 236) kd_236 (hid 236 (by decide)) ⟨_, _, rfl⟩ (by decide) h (fun _ _ e => Z_X12_doesLand hid e) mi_X12_doesLand ml_RX12_324 rfl rfl (Nat.le_of_ble_eq_true rfl) (Nat.le_of_ble_eq_true rfl) (Nat.le_of_ble_eq_true rfl) dX12_catchesNow_18 (fun r2 σ1 h => ?_)
        refine p_if_eq C (X := r2.toInt) rfl dX12_catchesNow_21 (tgt := 26) rfl h (fun h => ?_) (fun h => ?_)
        ·
          refine p_iinc C (y := (y1 + 1)) (fun z3 => [some (.ref (ad 236)), some (.int z3)]) dX12_catchesNow_26 rfl rfl (by decide) rfl (fun _ => rfl) h (fun z3 h => ?_)
          refine a_goto C dX12_catchesNow_29 (tgt := 2) rfl ?_
          exact ih _ _ h
        ·
          refine a_iload_n C dX12_catchesNow_24 (i := 1) rfl rfl ?_
          exact a_iret Rt dX12_catchesNow_25 rfl (ret_eq (h.trans (congrArg some hR.symm)))
  refine a_iconst C dX12_catchesNow_0 (v := 0) rfl ?_
  refine a_istore_n C dX12_catchesNow_1 (i := 1) rfl (by decide) rfl (vs1 := [some (.ref (ad 236)), some (.int 0)]) rfl ?_
  exact j2 _ _ _ h
set_option maxHeartbeats 4000000 in
set_option maxRecDepth 100000 in
theorem Z_X12_looksAt {l : Launch} {D : va_G} {ids : List Nat} {ad : Nat → Nat} {ca : Nat → ClassId} {σ : HS} {x1 : Int32} {x2 : Int32} {x3 : Int32} {s0 : HS} (hid : ∀ i, i < 277 → i ∈ ids) (h : f_X12_looksAt x1 x2 x3 σ = some s0) : Kv l D ids ad ca yX12_looksAt cX12_looksAt 4 0 0 [.ref (ad 236), .int x1, .int x2, .int x3] σ (fun σ1 => σ1 = s0) := by
  obtain ⟨R, hR⟩ : ∃ R, s0 = R := ⟨_, rfl⟩
  replace h := h.trans (congrArg some hR)
  refine Kv.of (by decide) (Nat.le_of_ble_eq_true rfl) 0 (fun Γ C Rt => ?_)
  show AW ids ad ca Γ 0 [some (.ref (ad 236)), some (.int x1), some (.int x2), some (.int x3)] [] σ
  unfold f_X12_looksAt at h
  refine a_aload_n C dX12_looksAt_0 (i := 0) rfl rfl ?_
  refine a_get C fl_RX12_101 (i := 236) kd_236 (hid 236 (by decide)) (v := .ref (ad 264)) rfl dX12_looksAt_1 ?_
  refine a_iconst C dX12_looksAt_4 (v := 0) rfl ?_
  refine a_aload_n C dX12_looksAt_5 (i := 0) rfl rfl ?_
  refine a_get C fl_RX12_46 (i := 236) kd_236 (hid 236 (by decide)) (v := .ref (ad 246)) rfl dX12_looksAt_6 ?_
  refine a_bipush C dX12_looksAt_9 (v := 7) rfl ?_
  refine a_aload_n C dX12_looksAt_11 (i := 0) rfl rfl ?_
  refine a_get C fl_RX12_221 (i := 236) kd_236 (hid 236 (by decide)) (v := .int (σ.1 236 18)) rfl dX12_looksAt_12 ?_
  refine a_imul C dX12_looksAt_15 ?_
  refine a_iload_n C dX12_looksAt_16 (i := 1) rfl rfl ?_
  refine a_iadd C dX12_looksAt_17 ?_
  refine p_iald C (i := 246) (show rowOK 246 from ⟨kd_246, by decide⟩) hid (by rw [al_246]; rfl) dX12_looksAt_18 h (fun h => ?_)
  refine p_iastc C (i := 264) 0 (show rowOK 264 from ⟨kd_264, by decide⟩) hid (by decide) (by rw [al_264]; decide) dX12_looksAt_19 h (fun σ1 h => ?_)
  refine a_aload_n C dX12_looksAt_20 (i := 0) rfl rfl ?_
  refine a_get C fl_RX12_101 (i := 236) kd_236 (hid 236 (by decide)) (v := .ref (ad 264)) rfl dX12_looksAt_21 ?_
  refine a_iconst C dX12_looksAt_24 (v := 1) rfl ?_
  refine a_aload_n C dX12_looksAt_25 (i := 0) rfl rfl ?_
  refine a_get C fl_RX12_49 (i := 236) kd_236 (hid 236 (by decide)) (v := .ref (ad 247)) rfl dX12_looksAt_26 ?_
  refine a_bipush C dX12_looksAt_29 (v := 7) rfl ?_
  refine a_aload_n C dX12_looksAt_31 (i := 0) rfl rfl ?_
  refine a_get C fl_RX12_221 (i := 236) kd_236 (hid 236 (by decide)) (v := .int (σ1.1 236 18)) rfl dX12_looksAt_32 ?_
  refine a_imul C dX12_looksAt_35 ?_
  refine a_iload_n C dX12_looksAt_36 (i := 1) rfl rfl ?_
  refine a_iadd C dX12_looksAt_37 ?_
  refine p_iald C (i := 247) (show rowOK 247 from ⟨kd_247, by decide⟩) hid (by rw [al_247]; rfl) dX12_looksAt_38 h (fun h => ?_)
  refine p_iastc C (i := 264) 1 (show rowOK 264 from ⟨kd_264, by decide⟩) hid (by decide) (by rw [al_264]; decide) dX12_looksAt_39 h (fun σ2 h => ?_)
  refine a_aload_n C dX12_looksAt_40 (i := 0) rfl rfl ?_
  refine a_get C fl_RX12_101 (i := 236) kd_236 (hid 236 (by decide)) (v := .ref (ad 264)) rfl dX12_looksAt_41 ?_
  refine a_iconst C dX12_looksAt_44 (v := 2) rfl ?_
  refine a_iload_n C dX12_looksAt_45 (i := 2) rfl rfl ?_
  refine p_iastc C (i := 264) 2 (show rowOK 264 from ⟨kd_264, by decide⟩) hid (by decide) (by rw [al_264]; decide) dX12_looksAt_46 h (fun σ3 h => ?_)
  refine a_aload_n C dX12_looksAt_47 (i := 0) rfl rfl ?_
  refine a_get C fl_RX12_101 (i := 236) kd_236 (hid 236 (by decide)) (v := .ref (ad 264)) rfl dX12_looksAt_48 ?_
  refine a_iconst C dX12_looksAt_51 (v := 3) rfl ?_
  refine a_aload_n C dX12_looksAt_52 (i := 0) rfl rfl ?_
  refine a_get C fl_RX12_110 (i := 236) kd_236 (hid 236 (by decide)) (v := .ref (ad 267)) rfl dX12_looksAt_53 ?_
  refine a_bipush C dX12_looksAt_56 (v := 21) rfl ?_
  refine p_ialdc C (i := 267) 21 (show rowOK 267 from ⟨kd_267, by decide⟩) hid (by decide) (by rw [al_267]; decide) dX12_looksAt_58 ?_
  refine p_iastc C (i := 264) 3 (show rowOK 264 from ⟨kd_264, by decide⟩) hid (by decide) (by rw [al_264]; decide) dX12_looksAt_59 h (fun σ4 h => ?_)
  refine a_aload_n C dX12_looksAt_60 (i := 0) rfl rfl ?_
  refine a_get C fl_RX12_101 (i := 236) kd_236 (hid 236 (by decide)) (v := .ref (ad 264)) rfl dX12_looksAt_61 ?_
  refine a_iconst C dX12_looksAt_64 (v := 4) rfl ?_
  refine a_aload_n C dX12_looksAt_65 (i := 0) rfl rfl ?_
  refine a_get C fl_RX12_110 (i := 236) kd_236 (hid 236 (by decide)) (v := .ref (ad 267)) rfl dX12_looksAt_66 ?_
  refine a_bipush C dX12_looksAt_69 (v := 22) rfl ?_
  refine p_ialdc C (i := 267) 22 (show rowOK 267 from ⟨kd_267, by decide⟩) hid (by decide) (by rw [al_267]; decide) dX12_looksAt_71 ?_
  refine p_iastc C (i := 264) 4 (show rowOK 264 from ⟨kd_264, by decide⟩) hid (by decide) (by rw [al_264]; decide) dX12_looksAt_72 h (fun σ5 h => ?_)
  refine a_aload_n C dX12_looksAt_73 (i := 0) rfl rfl ?_
  refine a_get C fl_RX12_101 (i := 236) kd_236 (hid 236 (by decide)) (v := .ref (ad 264)) rfl dX12_looksAt_74 ?_
  refine a_iconst C dX12_looksAt_77 (v := 5) rfl ?_
  refine a_iload_n C dX12_looksAt_78 (i := 3) rfl rfl ?_
  refine p_iastc C (i := 264) 5 (show rowOK 264 from ⟨kd_264, by decide⟩) hid (by decide) (by rw [al_264]; decide) dX12_looksAt_79 h (fun σ6 h => ?_)
  refine a_aload_n C dX12_looksAt_80 (i := 0) rfl rfl ?_
  refine a_get C fl_RX12_101 (i := 236) kd_236 (hid 236 (by decide)) (v := .ref (ad 264)) rfl dX12_looksAt_81 ?_
  refine a_bipush C dX12_looksAt_84 (v := 6) rfl ?_
  refine a_iload_n C dX12_looksAt_86 (i := 1) rfl rfl ?_
  refine p_iastc C (i := 264) 6 (show rowOK 264 from ⟨kd_264, by decide⟩) hid (by decide) (by rw [al_264]; decide) dX12_looksAt_87 h (fun σ7 h => ?_)
  refine a_aload_n C dX12_looksAt_88 (i := 0) rfl rfl ?_
  refine a_get C fl_RX12_101 (i := 236) kd_236 (hid 236 (by decide)) (v := .ref (ad 264)) rfl dX12_looksAt_89 ?_
  refine a_bipush C dX12_looksAt_92 (v := 7) rfl ?_
  refine a_aload_n C dX12_looksAt_94 (i := 0) rfl rfl ?_
  refine a_get C fl_RX12_110 (i := 236) kd_236 (hid 236 (by decide)) (v := .ref (ad 267)) rfl dX12_looksAt_95 ?_
  refine a_bipush C dX12_looksAt_98 (v := 24) rfl ?_
  refine p_ialdc C (i := 267) 24 (show rowOK 267 from ⟨kd_267, by decide⟩) hid (by decide) (by rw [al_267]; decide) dX12_looksAt_100 ?_
  refine p_iastc C (i := 264) 7 (show rowOK 264 from ⟨kd_264, by decide⟩) hid (by decide) (by rw [al_264]; decide) dX12_looksAt_101 h (fun σ8 h => ?_)
  refine a_aload_n C dX12_looksAt_102 (i := 0) rfl rfl ?_
  refine a_get C fl_RX12_101 (i := 236) kd_236 (hid 236 (by decide)) (v := .ref (ad 264)) rfl dX12_looksAt_103 ?_
  refine a_bipush C dX12_looksAt_106 (v := 8) rfl ?_
  refine a_aload_n C dX12_looksAt_108 (i := 0) rfl rfl ?_
  refine a_get C fl_RX12_110 (i := 236) kd_236 (hid 236 (by decide)) (v := .ref (ad 267)) rfl dX12_looksAt_109 ?_
  refine a_bipush C dX12_looksAt_112 (v := 21) rfl ?_
  refine p_ialdc C (i := 267) 21 (show rowOK 267 from ⟨kd_267, by decide⟩) hid (by decide) (by rw [al_267]; decide) dX12_looksAt_114 ?_
  refine a_iconst C dX12_looksAt_115 (v := 2) rfl ?_
  refine a_irem C dX12_looksAt_116 (by decide) ?_
  refine p_iastc C (i := 264) 8 (show rowOK 264 from ⟨kd_264, by decide⟩) hid (by decide) (by rw [al_264]; decide) dX12_looksAt_117 h (fun σ9 h => ?_)
  exact a_vret Rt dX12_looksAt_118 (retv_eq (h.trans (congrArg some hR.symm)))
set_option maxHeartbeats 4000000 in
set_option maxRecDepth 100000 in
theorem Z_X12_lawTells {l : Launch} {D : va_G} {ids : List Nat} {ad : Nat → Nat} {ca : Nat → ClassId} {σ : HS} {x1 : Int32} {x2 : Int32} {r0 : Int32} {s0 : HS} (hid : ∀ i, i < 277 → i ∈ ids) (h : f_X12_lawTells x1 x2 σ = some (r0, s0)) : Ki l D ids ad ca yX12_lawTells cX12_lawTells 7 .int 1 27 [.ref (ad 236), .int x1, .int x2] σ (fun r σ1 => r = r0 ∧ σ1 = s0) := by
  obtain ⟨R, hR⟩ : ∃ R, (r0, s0) = R := ⟨_, rfl⟩
  replace h := h.trans (congrArg some hR)
  refine Ki.of (by decide) (Nat.le_of_ble_eq_true rfl) 4 (fun Γ C Rt => ?_)
  show AW ids ad ca Γ 0 [some (.ref (ad 236)), some (.int x1), some (.int x2), none, none, none, none] [] σ
  unfold f_X12_lawTells at h
  have j119 : ∀ (y4 : Int32) (σ : HS), f_X12_lawTells_119 y4 σ = some R → AW ids ad ca Γ 119 [some (.ref (ad 236)), none, none, none, some (.int y4), none, none] [] σ := by
    intro y4 σ h
    unfold f_X12_lawTells_119 at h
    refine a_aload_n C dX12_lawTells_119 (i := 0) rfl rfl ?_
    refine a_aload_n C dX12_lawTells_120 (i := 0) rfl rfl ?_
    refine a_get C fl_RX12_86 (i := 236) kd_236 (hid 236 (by decide)) (v := .ref (ad 259)) rfl dX12_lawTells_121 ?_
    refine a_iload C dX12_lawTells_124 rfl ?_
    refine p_iald C (i := 259) (show rowOK 259 from ⟨kd_259, by decide⟩) hid (by rw [al_259]; rfl) dX12_lawTells_126 h (fun h => ?_)
    refine a_aload_n C dX12_lawTells_127 (i := 0) rfl rfl ?_
    refine a_get C fl_RX12_89 (i := 236) kd_236 (hid 236 (by decide)) (v := .ref (ad 260)) rfl dX12_lawTells_128 ?_
    refine a_iload C dX12_lawTells_131 rfl ?_
    refine p_iald C (i := 260) (show rowOK 260 from ⟨kd_260, by decide⟩) hid (by rw [al_260]; rfl) dX12_lawTells_133 h (fun h => ?_)
    refine p_callVi C (As := [.int (σ.1 259 y4.toInt.toNat), .int (σ.1 260 y4.toInt.toNat)]) (i := 236) kd_236 (hid 236 (by decide)) ⟨_, _, rfl⟩ (by decide) h (fun _ _ e => Z_X12_termOf hid e) mi_X12_termOf ml_RX12_328 rfl rfl (Nat.le_of_ble_eq_true rfl) (Nat.le_of_ble_eq_true rfl) (Nat.le_of_ble_eq_true rfl) dX12_lawTells_134 (fun r2 σ1 h => ?_)
    refine a_istore C dX12_lawTells_137 (by decide) rfl (vs1 := [some (.ref (ad 236)), none, none, none, some (.int y4), some (.int r2), none]) rfl ?_
    refine a_aload_n C dX12_lawTells_139 (i := 0) rfl rfl ?_
    refine a_get C fl_RX12_297 (i := 236) kd_236 (hid 236 (by decide)) (v := .int (σ1.1 236 46)) rfl dX12_lawTells_140 ?_
    refine p_if_eq C (X := (σ1.1 236 46).toInt) rfl dX12_lawTells_143 (tgt := 150) rfl h (fun h => ?_) (fun h => ?_)
    ·
      refine a_iload C dX12_lawTells_150 rfl ?_
      exact a_iret Rt dX12_lawTells_152 rfl (ret_eq (h.trans (congrArg some hR.symm)))
    ·
      refine a_iconst C dX12_lawTells_146 (v := 0) rfl ?_
      refine a_goto C dX12_lawTells_147 (tgt := 152) rfl ?_
      exact a_iret Rt dX12_lawTells_152 rfl (ret_eq (h.trans (congrArg some hR.symm)))
  have j39 : ∀ (n : Nat) (y3 : Int32) (y4 : Int32) (σ : HS), f_X12_lawTells_39 n y3 y4 σ = some R → AW ids ad ca Γ 39 [some (.ref (ad 236)), none, none, some (.int y3), some (.int y4), none, none] [] σ := by
    intro n
    induction n with
    | zero => intro y3 y4 σ h; exact nn h
    | succ n ih =>
      intro y3 y4 σ h
      have h : b_X12_lawTells_39 (f_X12_lawTells_39 n) y3 y4 σ = some R := h
      unfold b_X12_lawTells_39 at h
      refine a_iload C dX12_lawTells_39 rfl ?_
      refine a_aload_n C dX12_lawTells_41 (i := 0) rfl rfl ?_
      refine a_get C fl_RX12_73 (i := 236) kd_236 (hid 236 (by decide)) (v := .ref (ad 255)) rfl dX12_lawTells_42 ?_
      refine a_iload_n C dX12_lawTells_45 (i := 3) rfl rfl ?_
      refine p_iald C (i := 255) (show rowOK 255 from ⟨kd_255, by decide⟩) hid (by rw [al_255]; rfl) dX12_lawTells_46 h (fun h => ?_)
      refine p_ic_ge C (X := y4.toInt) (Y := (σ.1 255 y3.toInt.toNat).toInt) rfl rfl dX12_lawTells_47 (tgt := 159) rfl h (fun h => ?_) (fun h => ?_)
      ·
        refine a_iconst C dX12_lawTells_159 (v := 0) rfl ?_
        exact a_iret Rt dX12_lawTells_160 rfl (ret_eq (h.trans (congrArg some hR.symm)))
      ·
        refine a_aload_n C dX12_lawTells_50 (i := 0) rfl rfl ?_
        refine a_get C fl_RX12_76 (i := 236) kd_236 (hid 236 (by decide)) (v := .ref (ad 256)) rfl dX12_lawTells_51 ?_
        refine a_iload C dX12_lawTells_54 rfl ?_
        refine p_zald C (i := 256) kd_256 (hid 256 (by decide)) (by rw [al_256]; rfl) dX12_lawTells_56 h (fun h => ?_)
        refine p_if_eq C (X := (σ.1 256 y4.toInt.toNat).toInt) rfl dX12_lawTells_57 (tgt := 119) rfl h (fun h => ?_) (fun h => ?_)
        ·
          refine AW.sub (vs' := [some (.ref (ad 236)), none, none, none, some (.int y4), none, none]) (lsub_of (by simp [lsubB])) ?_
          exact j119 _ _ h
        ·
          refine a_aload_n C dX12_lawTells_60 (i := 0) rfl rfl ?_
          refine a_aload_n C dX12_lawTells_61 (i := 0) rfl rfl ?_
          refine a_get C fl_RX12_80 (i := 236) kd_236 (hid 236 (by decide)) (v := .ref (ad 257)) rfl dX12_lawTells_62 ?_
          refine a_iload C dX12_lawTells_65 rfl ?_
          refine p_iald C (i := 257) (show rowOK 257 from ⟨kd_257, by decide⟩) hid (by rw [al_257]; rfl) dX12_lawTells_67 h (fun h => ?_)
          refine a_aload_n C dX12_lawTells_68 (i := 0) rfl rfl ?_
          refine a_get C fl_RX12_83 (i := 236) kd_236 (hid 236 (by decide)) (v := .ref (ad 258)) rfl dX12_lawTells_69 ?_
          refine a_iload C dX12_lawTells_72 rfl ?_
          refine p_iald C (i := 258) (show rowOK 258 from ⟨kd_258, by decide⟩) hid (by rw [al_258]; rfl) dX12_lawTells_74 h (fun h => ?_)
          refine p_callVi C (As := [.int (σ.1 257 y4.toInt.toNat), .int (σ.1 258 y4.toInt.toNat)]) (i := 236) kd_236 (hid 236 (by decide)) ⟨_, _, rfl⟩ (by decide) h (fun _ _ e => Z_X12_termOf hid e) mi_X12_termOf ml_RX12_328 rfl rfl (Nat.le_of_ble_eq_true rfl) (Nat.le_of_ble_eq_true rfl) (Nat.le_of_ble_eq_true rfl) dX12_lawTells_75 (fun r2 σ1 h => ?_)
          refine a_istore C dX12_lawTells_78 (by decide) rfl (vs1 := [some (.ref (ad 236)), none, none, some (.int y3), some (.int y4), some (.int r2), none]) rfl ?_
          refine a_aload_n C dX12_lawTells_80 (i := 0) rfl rfl ?_
          refine a_aload_n C dX12_lawTells_81 (i := 0) rfl rfl ?_
          refine a_get C fl_RX12_83 (i := 236) kd_236 (hid 236 (by decide)) (v := .ref (ad 258)) rfl dX12_lawTells_82 ?_
          refine a_iload C dX12_lawTells_85 rfl ?_
          refine p_iald C (i := 258) (show rowOK 258 from ⟨kd_258, by decide⟩) hid (by rw [al_258]; rfl) dX12_lawTells_87 h (fun h => ?_)
          refine a_aload_n C dX12_lawTells_88 (i := 0) rfl rfl ?_
          refine a_get C fl_RX12_86 (i := 236) kd_236 (hid 236 (by decide)) (v := .ref (ad 259)) rfl dX12_lawTells_89 ?_
          refine a_iload C dX12_lawTells_92 rfl ?_
          refine p_iald C (i := 259) (show rowOK 259 from ⟨kd_259, by decide⟩) hid (by rw [al_259]; rfl) dX12_lawTells_94 h (fun h => ?_)
          refine p_callVi C (As := [.int (σ1.1 258 y4.toInt.toNat), .int (σ1.1 259 y4.toInt.toNat)]) (i := 236) kd_236 (hid 236 (by decide)) ⟨_, _, rfl⟩ (by decide) h (fun _ _ e => Z_X12_termOf hid e) mi_X12_termOf ml_RX12_328 rfl rfl (Nat.le_of_ble_eq_true rfl) (Nat.le_of_ble_eq_true rfl) (Nat.le_of_ble_eq_true rfl) dX12_lawTells_95 (fun r4 σ3 h => ?_)
          refine a_istore C dX12_lawTells_98 (by decide) rfl (vs1 := [some (.ref (ad 236)), none, none, some (.int y3), some (.int y4), some (.int r2), some (.int r4)]) rfl ?_
          refine a_aload_n C dX12_lawTells_100 (i := 0) rfl rfl ?_
          refine a_get C fl_RX12_297 (i := 236) kd_236 (hid 236 (by decide)) (v := .int (σ3.1 236 46)) rfl dX12_lawTells_101 ?_
          refine p_if_eq C (X := (σ3.1 236 46).toInt) rfl dX12_lawTells_104 (tgt := 109) rfl h (fun h => ?_) (fun h => ?_)
          ·
            refine a_iload C dX12_lawTells_109 rfl ?_
            refine a_iload C dX12_lawTells_111 rfl ?_
            refine p_ic_lt C (X := r2.toInt) (Y := r4.toInt) rfl rfl dX12_lawTells_113 (tgt := 119) rfl h (fun h => ?_) (fun h => ?_)
            ·
              refine AW.sub (vs' := [some (.ref (ad 236)), none, none, none, some (.int y4), none, none]) (lsub_of (by simp [lsubB])) ?_
              exact j119 _ _ h
            ·
              refine a_goto C dX12_lawTells_116 (tgt := 153) rfl ?_
              refine p_iinc C (y := (y4 + 1)) (fun z5 => [some (.ref (ad 236)), none, none, some (.int y3), some (.int z5), some (.int r2), some (.int r4)]) dX12_lawTells_153 rfl rfl (by decide) rfl (fun _ => rfl) h (fun z5 h => ?_)
              refine a_goto C dX12_lawTells_156 (tgt := 39) rfl ?_
              refine AW.sub (vs' := [some (.ref (ad 236)), none, none, some (.int y3), some (.int z5), none, none]) (lsub_of (by simp [lsubB])) ?_
              exact ih _ _ _ h
          ·
            refine a_iconst C dX12_lawTells_107 (v := 0) rfl ?_
            exact a_iret Rt dX12_lawTells_108 rfl (ret_eq (h.trans (congrArg some hR.symm)))
  refine a_iconst C dX12_lawTells_0 (v := 4) rfl ?_
  refine a_aload_n C dX12_lawTells_1 (i := 0) rfl rfl ?_
  refine a_get C fl_RX12_221 (i := 236) kd_236 (hid 236 (by decide)) (v := .int (σ.1 236 18)) rfl dX12_lawTells_2 ?_
  refine a_imul C dX12_lawTells_5 ?_
  refine a_iload_n C dX12_lawTells_6 (i := 1) rfl rfl ?_
  refine a_iadd C dX12_lawTells_7 ?_
  refine p_istore_n C (fun z1 => [some (.ref (ad 236)), some (.int x1), some (.int x2), some (.int z1), none, none, none]) dX12_lawTells_8 (i := 3) rfl (by decide) rfl (fun _ => rfl) h (fun z1 h => ?_)
  refine a_aload_n C dX12_lawTells_9 (i := 0) rfl rfl ?_
  refine a_get C fl_RX12_70 (i := 236) kd_236 (hid 236 (by decide)) (v := .ref (ad 254)) rfl dX12_lawTells_10 ?_
  refine a_iload_n C dX12_lawTells_13 (i := 3) rfl rfl ?_
  refine p_iald C (i := 254) (show rowOK 254 from ⟨kd_254, by decide⟩) hid (by rw [al_254]; rfl) dX12_lawTells_14 h (fun h => ?_)
  refine a_aload_n C dX12_lawTells_15 (i := 0) rfl rfl ?_
  refine a_get C fl_RX12_73 (i := 236) kd_236 (hid 236 (by decide)) (v := .ref (ad 255)) rfl dX12_lawTells_16 ?_
  refine a_iload_n C dX12_lawTells_19 (i := 3) rfl rfl ?_
  refine p_iald C (i := 255) (show rowOK 255 from ⟨kd_255, by decide⟩) hid (by rw [al_255]; rfl) dX12_lawTells_20 h (fun h => ?_)
  refine p_ic_ne C (X := (σ.1 254 z1.toInt.toNat).toInt) (Y := (σ.1 255 z1.toInt.toNat).toInt) rfl rfl dX12_lawTells_21 (tgt := 26) rfl h (fun h => ?_) (fun h => ?_)
  ·
    refine a_aload_n C dX12_lawTells_26 (i := 0) rfl rfl ?_
    refine a_iconst C dX12_lawTells_27 (v := 0) rfl ?_
    refine p_put C fp_RX12_297 (i := 236) kd_236 (hid 236 (by decide)) (nar_z (by decide)).1 (nar_z (by decide)).2 dX12_lawTells_28 h (fun σ2 h => ?_)
    refine a_aload_n C dX12_lawTells_31 (i := 0) rfl rfl ?_
    refine a_get C fl_RX12_70 (i := 236) kd_236 (hid 236 (by decide)) (v := .ref (ad 254)) rfl dX12_lawTells_32 ?_
    refine a_iload_n C dX12_lawTells_35 (i := 3) rfl rfl ?_
    refine p_iald C (i := 254) (show rowOK 254 from ⟨kd_254, by decide⟩) hid (by rw [al_254]; rfl) dX12_lawTells_36 h (fun h => ?_)
    refine p_istore C (fun z3 => [some (.ref (ad 236)), some (.int x1), some (.int x2), some (.int z1), some (.int z3), none, none]) dX12_lawTells_37 (by decide) rfl (fun _ => rfl) h (fun z3 h => ?_)
    refine AW.sub (vs' := [some (.ref (ad 236)), none, none, some (.int z1), some (.int z3), none, none]) (lsub_of (by simp [lsubB])) ?_
    exact j39 _ _ _ _ h
  ·
    refine a_iload_n C dX12_lawTells_24 (i := 2) rfl rfl ?_
    exact a_iret Rt dX12_lawTells_25 rfl (ret_eq (h.trans (congrArg some hR.symm)))
set_option maxHeartbeats 4000000 in
set_option maxRecDepth 100000 in
theorem Z_X12_tiresBy {l : Launch} {D : va_G} {ids : List Nat} {ad : Nat → Nat} {ca : Nat → ClassId} {σ : HS} {x1 : Int32} {x2 : Int32} {x3 : Int32} {r0 : Int32} {s0 : HS} (hid : ∀ i, i < 277 → i ∈ ids) (h : f_X12_tiresBy x1 x2 x3 σ = some (r0, s0)) : Ki l D ids ad ca yX12_tiresBy cX12_tiresBy 4 .int 2 53 [.ref (ad 236), .int x1, .int x2, .int x3] σ (fun r σ1 => r = r0 ∧ σ1 = s0) := by
  obtain ⟨R, hR⟩ : ∃ R, (r0, s0) = R := ⟨_, rfl⟩
  replace h := h.trans (congrArg some hR)
  refine Ki.of (by decide) (Nat.le_of_ble_eq_true rfl) 0 (fun Γ C Rt => ?_)
  show AW ids ad ca Γ 0 [some (.ref (ad 236)), some (.int x1), some (.int x2), some (.int x3)] [] σ
  unfold f_X12_tiresBy at h
  refine a_aload_n C dX12_tiresBy_0 (i := 0) rfl rfl ?_
  refine a_iload_n C dX12_tiresBy_1 (i := 1) rfl rfl ?_
  refine a_iload_n C dX12_tiresBy_2 (i := 2) rfl rfl ?_
  refine a_iload_n C dX12_tiresBy_3 (i := 3) rfl rfl ?_
  refine p_callVv C (As := [.int x1, .int x2, .int x3]) (i := 236) kd_236 (hid 236 (by decide)) ⟨_, _, rfl⟩ (by decide) h (fun _ e => Z_X12_looksAt hid e) mi_X12_looksAt ml_RX12_331 rfl rfl (Nat.le_of_ble_eq_true rfl) (Nat.le_of_ble_eq_true rfl) (Nat.le_of_ble_eq_true rfl) dX12_tiresBy_4 (fun σ1 h => ?_)
  refine a_aload_n C dX12_tiresBy_7 (i := 0) rfl rfl ?_
  refine a_iconst C dX12_tiresBy_8 (v := 0) rfl ?_
  refine a_iconst C dX12_tiresBy_9 (v := 0) rfl ?_
  refine p_callVi C (As := [.int 0, .int 0]) (i := 236) kd_236 (hid 236 (by decide)) ⟨_, _, rfl⟩ (by decide) h (fun _ _ e => Z_X12_lawTells hid e) mi_X12_lawTells ml_RX12_335 rfl rfl (Nat.le_of_ble_eq_true rfl) (Nat.le_of_ble_eq_true rfl) (Nat.le_of_ble_eq_true rfl) dX12_tiresBy_10 (fun r4 σ3 h => ?_)
  refine a_iconst C dX12_tiresBy_13 (v := 0) rfl ?_
  refine a_bipush C dX12_tiresBy_14 (v := 99) rfl ?_
  refine p_callSi C (As := [.int r4, .int 0, .int 99]) h (fun _ _ e => Z_X12_held hid e) ms_X12_held ml_RX12_338 rfl rfl (Nat.le_of_ble_eq_true rfl) (Nat.le_of_ble_eq_true rfl) (Nat.le_of_ble_eq_true rfl) dX12_tiresBy_16 (fun r6 σ5 h => ?_)
  exact a_iret Rt dX12_tiresBy_19 rfl (ret_eq (h.trans (congrArg some hR.symm)))

