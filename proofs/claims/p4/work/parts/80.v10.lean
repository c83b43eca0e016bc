set_option maxHeartbeats 4000000 in
set_option maxRecDepth 100000 in
theorem Z_X12_toldInt {l : Launch} {D : va_G} {ids : List Nat} {ad : Nat → Nat} {ca : Nat → ClassId} {σ : HS} {x1 : Int32} {x2 : Int32} {r0 : Int32} {s0 : HS} (hid : ∀ i, i < 277 → i ∈ ids) (h : f_X12_toldInt x1 x2 σ = some (r0, s0)) : Ki l D ids ad ca yX12_toldInt cX12_toldInt 4 .int 3 64 [.ref (ad 236), .int x1, .int x2] σ (fun r σ1 => r = r0 ∧ σ1 = s0) := by
  obtain ⟨R, hR⟩ : ∃ R, (r0, s0) = R := ⟨_, rfl⟩
  replace h := h.trans (congrArg some hR)
  refine Ki.of (by decide) (Nat.le_of_ble_eq_true rfl) 1 (fun Γ C Rt => ?_)
  show AW ids ad ca Γ 0 [some (.ref (ad 236)), some (.int x1), some (.int x2), none] [] σ
  unfold f_X12_toldInt at h
  refine a_aload_n C dX12_toldInt_0 (i := 0) rfl rfl ?_
  refine p_callVv C (As := []) (i := 236) kd_236 (hid 236 (by decide)) ⟨_, _, rfl⟩ (by decide) h (fun _ e => Z_X12_goesOn hid e) mi_X12_goesOn ml_RX12_212 rfl rfl (Nat.le_of_ble_eq_true rfl) (Nat.le_of_ble_eq_true rfl) (Nat.le_of_ble_eq_true rfl) dX12_toldInt_1 (fun σ1 h => ?_)
  refine a_aload_n C dX12_toldInt_4 (i := 0) rfl rfl ?_
  refine a_iload_n C dX12_toldInt_5 (i := 1) rfl rfl ?_
  refine a_iload_n C dX12_toldInt_6 (i := 2) rfl rfl ?_
  refine p_callVi C (As := [.int x1, .int x2]) (i := 236) kd_236 (hid 236 (by decide)) ⟨_, _, rfl⟩ (by decide) h (fun _ _ e => Z_X12_bounded hid e) mi_X12_bounded ml_RX12_245 rfl rfl (Nat.le_of_ble_eq_true rfl) (Nat.le_of_ble_eq_true rfl) (Nat.le_of_ble_eq_true rfl) dX12_toldInt_7 (fun r4 σ3 h => ?_)
  refine a_istore_n C dX12_toldInt_10 (i := 3) rfl (by decide) rfl (vs1 := [some (.ref (ad 236)), some (.int x1), some (.int x2), some (.int r4)]) rfl ?_
  refine a_aload_n C dX12_toldInt_11 (i := 0) rfl rfl ?_
  refine a_iconst C dX12_toldInt_12 (v := 4) rfl ?_
  refine p_callVv C (As := [.int 4]) (i := 236) kd_236 (hid 236 (by decide)) ⟨_, _, rfl⟩ (by decide) h (fun _ e => Z_X12_must hid e) mi_X12_must ml_RX12_249 rfl rfl (Nat.le_of_ble_eq_true rfl) (Nat.le_of_ble_eq_true rfl) (Nat.le_of_ble_eq_true rfl) dX12_toldInt_13 (fun σ5 h => ?_)
  refine a_iload_n C dX12_toldInt_16 (i := 3) rfl rfl ?_
  exact a_iret Rt dX12_toldInt_17 rfl (ret_eq (h.trans (congrArg some hR.symm)))
set_option maxHeartbeats 4000000 in
set_option maxRecDepth 100000 in
theorem Z_X12_emit {l : Launch} {D : va_G} {ids : List Nat} {ad : Nat → Nat} {ca : Nat → ClassId} {σ : HS} {x1 : Int32} {x2 : Int32} {s0 : HS} (hid : ∀ i, i < 277 → i ∈ ids) (h : f_X12_emit x1 x2 σ = some s0) : Kv l D ids ad ca yX12_emit cX12_emit 3 0 0 [.ref (ad 236), .int x1, .int x2] σ (fun σ1 => σ1 = s0) := by
  obtain ⟨R, hR⟩ : ∃ R, s0 = R := ⟨_, rfl⟩
  replace h := h.trans (congrArg some hR)
  refine Kv.of (by decide) (Nat.le_of_ble_eq_true rfl) 0 (fun Γ C Rt => ?_)
  show AW ids ad ca Γ 0 [some (.ref (ad 236)), some (.int x1), some (.int x2)] [] σ
  unfold f_X12_emit at h
  refine a_aload_n C dX12_emit_0 (i := 0) rfl rfl ?_
  refine a_get C fl_RX12_92 (i := 236) kd_236 (hid 236 (by decide)) (v := .ref (ad 261)) rfl dX12_emit_1 ?_
  refine a_aload_n C dX12_emit_4 (i := 0) rfl rfl ?_
  refine a_get C fl_RX12_233 (i := 236) kd_236 (hid 236 (by decide)) (v := .int (σ.1 236 39)) rfl dX12_emit_5 ?_
  refine a_iload_n C dX12_emit_8 (i := 1) rfl rfl ?_
  refine p_iast C (i := 261) (show rowOK 261 from ⟨kd_261, by decide⟩) hid (by rw [al_261]; rfl) dX12_emit_9 h (fun σ1 h => ?_)
  refine a_aload_n C dX12_emit_10 (i := 0) rfl rfl ?_
  refine a_get C fl_RX12_95 (i := 236) kd_236 (hid 236 (by decide)) (v := .ref (ad 262)) rfl dX12_emit_11 ?_
  refine a_aload_n C dX12_emit_14 (i := 0) rfl rfl ?_
  refine a_get C fl_RX12_233 (i := 236) kd_236 (hid 236 (by decide)) (v := .int (σ1.1 236 39)) rfl dX12_emit_15 ?_
  refine a_iload_n C dX12_emit_18 (i := 2) rfl rfl ?_
  refine p_iast C (i := 262) (show rowOK 262 from ⟨kd_262, by decide⟩) hid (by rw [al_262]; rfl) dX12_emit_19 h (fun σ2 h => ?_)
  refine a_aload_n C dX12_emit_20 (i := 0) rfl rfl ?_
  refine a_dup C dX12_emit_21 rfl ?_
  refine a_get C fl_RX12_233 (i := 236) kd_236 (hid 236 (by decide)) (v := .int (σ2.1 236 39)) rfl dX12_emit_22 ?_
  refine a_iconst C dX12_emit_25 (v := 1) rfl ?_
  refine a_iadd C dX12_emit_26 ?_
  refine p_put C fp_RX12_233 (i := 236) kd_236 (hid 236 (by decide)) rfl rfl dX12_emit_27 h (fun σ3 h => ?_)
  exact a_vret Rt dX12_emit_30 (retv_eq (h.trans (congrArg some hR.symm)))
set_option maxHeartbeats 4000000 in
set_option maxRecDepth 100000 in
theorem Z_X12_unit {l : Launch} {D : va_G} {ids : List Nat} {ad : Nat → Nat} {ca : Nat → ClassId} {σ : HS} {s0 : HS} (hid : ∀ i, i < 277 → i ∈ ids) (h : f_X12_unit σ = some s0) : Kv l D ids ad ca yX12_unit cX12_unit 1 2 41 [.ref (ad 236)] σ (fun σ1 => σ1 = s0) := by
  obtain ⟨R, hR⟩ : ∃ R, s0 = R := ⟨_, rfl⟩
  replace h := h.trans (congrArg some hR)
  refine Kv.of (by decide) (Nat.le_of_ble_eq_true rfl) 0 (fun Γ C Rt => ?_)
  show AW ids ad ca Γ 0 [some (.ref (ad 236))] [] σ
  unfold f_X12_unit at h
  have j88 : ∀ (σ : HS), f_X12_unit_88 σ = some R → AW ids ad ca Γ 88 [some (.ref (ad 236))] [] σ := by
    intro σ h
    unfold f_X12_unit_88 at h
    refine a_aload_n C dX12_unit_88 (i := 0) rfl rfl ?_
    refine a_iconst C dX12_unit_89 (v := 1) rfl ?_
    refine p_callVv C (As := [.int 1]) (i := 236) kd_236 (hid 236 (by decide)) ⟨_, _, rfl⟩ (by decide) h (fun _ e => Z_X12_fail hid e) mi_X12_fail ml_RX12_206 rfl rfl (Nat.le_of_ble_eq_true rfl) (Nat.le_of_ble_eq_true rfl) (Nat.le_of_ble_eq_true rfl) dX12_unit_90 (fun σ1 h => ?_)
    exact a_vret Rt dX12_unit_93 (retv_eq (h.trans (congrArg some hR.symm)))
  refine a_aload_n C dX12_unit_0 (i := 0) rfl rfl ?_
  refine a_iconst C dX12_unit_1 (v := 2) rfl ?_
  refine p_callVi C (As := [.int 2]) (i := 236) kd_236 (hid 236 (by decide)) ⟨_, _, rfl⟩ (by decide) h (fun _ _ e => Z_X12_is hid e) mi_X12_is ml_RX12_209 rfl rfl (Nat.le_of_ble_eq_true rfl) (Nat.le_of_ble_eq_true rfl) (Nat.le_of_ble_eq_true rfl) dX12_unit_2 (fun r2 σ1 h => ?_)
  refine p_if_eq C (X := r2.toInt) rfl dX12_unit_5 (tgt := 29) rfl h (fun h => ?_) (fun h => ?_)
  ·
    refine a_aload_n C dX12_unit_29 (i := 0) rfl rfl ?_
    refine a_get C fl_RX12_191 (i := 236) kd_236 (hid 236 (by decide)) (v := .int (σ1.1 236 13)) rfl dX12_unit_30 ?_
    refine p_if_ne C (X := (σ1.1 236 13).toInt) rfl dX12_unit_33 (tgt := 88) rfl h (fun h => ?_) (fun h => ?_)
    ·
      exact j88 _ h
    ·
      refine a_aload_n C dX12_unit_36 (i := 0) rfl rfl ?_
      refine a_get C fl_RX12_20 (i := 236) kd_236 (hid 236 (by decide)) (v := .ref (ad 239)) rfl dX12_unit_37 ?_
      refine a_aload_n C dX12_unit_40 (i := 0) rfl rfl ?_
      refine a_get C fl_RX12_194 (i := 236) kd_236 (hid 236 (by decide)) (v := .int (σ1.1 236 11)) rfl dX12_unit_41 ?_
      refine p_iald C (i := 239) (show rowOK 239 from ⟨kd_239, by decide⟩) hid (by rw [al_239]; rfl) dX12_unit_44 h (fun h => ?_)
      refine a_bipush C dX12_unit_45 (v := 31) rfl ?_
      refine p_ic_lt C (X := (σ1.1 239 (σ1.1 236 11).toInt.toNat).toInt) (Y := 31) rfl (by decide) dX12_unit_47 (tgt := 88) rfl h (fun h => ?_) (fun h => ?_)
      ·
        exact j88 _ h
      ·
        refine a_aload_n C dX12_unit_50 (i := 0) rfl rfl ?_
        refine a_get C fl_RX12_20 (i := 236) kd_236 (hid 236 (by decide)) (v := .ref (ad 239)) rfl dX12_unit_51 ?_
        refine a_aload_n C dX12_unit_54 (i := 0) rfl rfl ?_
        refine a_get C fl_RX12_194 (i := 236) kd_236 (hid 236 (by decide)) (v := .int (σ1.1 236 11)) rfl dX12_unit_55 ?_
        refine p_iald C (i := 239) (show rowOK 239 from ⟨kd_239, by decide⟩) hid (by rw [al_239]; rfl) dX12_unit_58 h (fun h => ?_)
        refine a_bipush C dX12_unit_59 (v := 39) rfl ?_
        refine p_ic_gt C (X := (σ1.1 239 (σ1.1 236 11).toInt.toNat).toInt) (Y := 39) rfl (by decide) dX12_unit_61 (tgt := 88) rfl h (fun h => ?_) (fun h => ?_)
        ·
          exact j88 _ h
        ·
          refine a_aload_n C dX12_unit_64 (i := 0) rfl rfl ?_
          refine a_iconst C dX12_unit_65 (v := 1) rfl ?_
          refine a_aload_n C dX12_unit_66 (i := 0) rfl rfl ?_
          refine a_get C fl_RX12_20 (i := 236) kd_236 (hid 236 (by decide)) (v := .ref (ad 239)) rfl dX12_unit_67 ?_
          refine a_aload_n C dX12_unit_70 (i := 0) rfl rfl ?_
          refine a_get C fl_RX12_194 (i := 236) kd_236 (hid 236 (by decide)) (v := .int (σ1.1 236 11)) rfl dX12_unit_71 ?_
          refine p_iald C (i := 239) (show rowOK 239 from ⟨kd_239, by decide⟩) hid (by rw [al_239]; rfl) dX12_unit_74 h (fun h => ?_)
          refine a_bipush C dX12_unit_75 (v := 31) rfl ?_
          refine a_isub C dX12_unit_77 ?_
          refine p_callVv C (As := [.int 1, .int ((σ1.1 239 (σ1.1 236 11).toInt.toNat) - (31 : Int32))]) (i := 236) kd_236 (hid 236 (by decide)) ⟨_, _, rfl⟩ (by decide) h (fun _ e => Z_X12_emit hid e) mi_X12_emit ml_RX12_287 rfl rfl (Nat.le_of_ble_eq_true rfl) (Nat.le_of_ble_eq_true rfl) (Nat.le_of_ble_eq_true rfl) dX12_unit_78 (fun σ3 h => ?_)
          refine a_aload_n C dX12_unit_81 (i := 0) rfl rfl ?_
          refine p_callVv C (As := []) (i := 236) kd_236 (hid 236 (by decide)) ⟨_, _, rfl⟩ (by decide) h (fun _ e => Z_X12_goesOn hid e) mi_X12_goesOn ml_RX12_212 rfl rfl (Nat.le_of_ble_eq_true rfl) (Nat.le_of_ble_eq_true rfl) (Nat.le_of_ble_eq_true rfl) dX12_unit_82 (fun σ5 h => ?_)
          refine a_goto C dX12_unit_85 (tgt := 93) rfl ?_
          exact a_vret Rt dX12_unit_93 (retv_eq (h.trans (congrArg some hR.symm)))
  ·
    refine a_aload_n C dX12_unit_8 (i := 0) rfl rfl ?_
    refine a_iconst C dX12_unit_9 (v := 0) rfl ?_
    refine a_aload_n C dX12_unit_10 (i := 0) rfl rfl ?_
    refine a_get C fl_RX12_27 (i := 236) kd_236 (hid 236 (by decide)) (v := .ref (ad 241)) rfl dX12_unit_11 ?_
    refine a_aload_n C dX12_unit_14 (i := 0) rfl rfl ?_
    refine a_get C fl_RX12_194 (i := 236) kd_236 (hid 236 (by decide)) (v := .int (σ1.1 236 11)) rfl dX12_unit_15 ?_
    refine p_iald C (i := 241) (show rowOK 241 from ⟨kd_241, by decide⟩) hid (by rw [al_241]; rfl) dX12_unit_18 h (fun h => ?_)
    refine p_callVv C (As := [.int 0, .int (σ1.1 241 (σ1.1 236 11).toInt.toNat)]) (i := 236) kd_236 (hid 236 (by decide)) ⟨_, _, rfl⟩ (by decide) h (fun _ e => Z_X12_emit hid e) mi_X12_emit ml_RX12_287 rfl rfl (Nat.le_of_ble_eq_true rfl) (Nat.le_of_ble_eq_true rfl) (Nat.le_of_ble_eq_true rfl) dX12_unit_19 (fun σ7 h => ?_)
    refine a_aload_n C dX12_unit_22 (i := 0) rfl rfl ?_
    refine p_callVv C (As := []) (i := 236) kd_236 (hid 236 (by decide)) ⟨_, _, rfl⟩ (by decide) h (fun _ e => Z_X12_goesOn hid e) mi_X12_goesOn ml_RX12_212 rfl rfl (Nat.le_of_ble_eq_true rfl) (Nat.le_of_ble_eq_true rfl) (Nat.le_of_ble_eq_true rfl) dX12_unit_23 (fun σ9 h => ?_)
    refine a_goto C dX12_unit_26 (tgt := 93) rfl ?_
    exact a_vret Rt dX12_unit_93 (retv_eq (h.trans (congrArg some hR.symm)))
set_option maxHeartbeats 4000000 in
set_option maxRecDepth 100000 in
theorem Z_X12_comesOut {l : Launch} {D : va_G} {ids : List Nat} {ad : Nat → Nat} {ca : Nat → ClassId} {σ : HS} {x1 : Int32} {s0 : HS} (hid : ∀ i, i < 277 → i ∈ ids) (h : f_X12_comesOut x1 σ = some s0) : Kv l D ids ad ca yX12_comesOut cX12_comesOut 3 1 22 [.ref (ad 236), .int x1] σ (fun σ1 => σ1 = s0) := by
  obtain ⟨R, hR⟩ : ∃ R, s0 = R := ⟨_, rfl⟩
  replace h := h.trans (congrArg some hR)
  refine Kv.of (by decide) (Nat.le_of_ble_eq_true rfl) 1 (fun Γ C Rt => ?_)
  show AW ids ad ca Γ 0 [some (.ref (ad 236)), some (.int x1), none] [] σ
  unfold f_X12_comesOut at h
  have j84 : ∀ (k0 : Int32 → HS → Option (HS)) (hk0 : ∀ (y1 : Int32) (σ : HS), k0 y1 σ = some R → AW ids ad ca Γ 0 [some (.ref (ad 236)), some (.int y1), none] [] σ) (y1 : Int32) (v0 : Int32) (σ : HS), f_X12_comesOut_84 k0 y1 v0 σ = some R → AW ids ad ca Γ 84 [some (.ref (ad 236)), some (.int y1), none] [.int v0, .ref (ad 236)] σ := by
    intro k0 hk0 y1 v0 σ h
    unfold f_X12_comesOut_84 at h
    refine a_iconst C dX12_comesOut_84 (v := 0) rfl ?_
    refine p_callVv C (As := [.int v0, .int 0]) (i := 236) kd_236 (hid 236 (by decide)) ⟨_, _, rfl⟩ (by decide) h (fun _ e => Z_X12_emit hid e) mi_X12_emit ml_RX12_287 rfl rfl (Nat.le_of_ble_eq_true rfl) (Nat.le_of_ble_eq_true rfl) (Nat.le_of_ble_eq_true rfl) dX12_comesOut_85 (fun σ1 h => ?_)
    refine a_goto C dX12_comesOut_88 (tgt := 0) rfl ?_
    exact hk0 _ _ h
  have j42 : ∀ (k0 : Int32 → HS → Option (HS)) (hk0 : ∀ (y1 : Int32) (σ : HS), k0 y1 σ = some R → AW ids ad ca Γ 0 [some (.ref (ad 236)), some (.int y1), none] [] σ) (y1 : Int32) (y2 : Int32) (σ : HS), f_X12_comesOut_42 k0 y1 y2 σ = some R → AW ids ad ca Γ 42 [some (.ref (ad 236)), some (.int y1), some (.int y2)] [] σ := by
    intro k0 hk0 y1 y2 σ h
    unfold f_X12_comesOut_42 at h
    refine a_aload_n C dX12_comesOut_42 (i := 0) rfl rfl ?_
    refine a_dup C dX12_comesOut_43 rfl ?_
    refine a_get C fl_RX12_284 (i := 236) kd_236 (hid 236 (by decide)) (v := .int (σ.1 236 43)) rfl dX12_comesOut_44 ?_
    refine a_iconst C dX12_comesOut_47 (v := 1) rfl ?_
    refine a_isub C dX12_comesOut_48 ?_
    refine p_put C fp_RX12_284 (i := 236) kd_236 (hid 236 (by decide)) rfl rfl dX12_comesOut_49 h (fun σ1 h => ?_)
    refine a_aload_n C dX12_comesOut_52 (i := 0) rfl rfl ?_
    refine a_iload_n C dX12_comesOut_53 (i := 2) rfl rfl ?_
    refine a_bipush C dX12_comesOut_54 (v := 8) rfl ?_
    refine p_ic_ne C (X := y2.toInt) (Y := 8) rfl (by decide) dX12_comesOut_56 (tgt := 63) rfl h (fun h => ?_) (fun h => ?_)
    ·
      refine a_iload_n C dX12_comesOut_63 (i := 2) rfl rfl ?_
      refine a_bipush C dX12_comesOut_64 (v := 9) rfl ?_
      refine p_ic_ne C (X := y2.toInt) (Y := 9) rfl (by decide) dX12_comesOut_66 (tgt := 73) rfl h (fun h => ?_) (fun h => ?_)
      ·
        refine a_iload_n C dX12_comesOut_73 (i := 2) rfl rfl ?_
        refine a_bipush C dX12_comesOut_74 (v := 10) rfl ?_
        refine p_ic_ne C (X := y2.toInt) (Y := 10) rfl (by decide) dX12_comesOut_76 (tgt := 83) rfl h (fun h => ?_) (fun h => ?_)
        ·
          refine a_iconst C dX12_comesOut_83 (v := 5) rfl ?_
          refine AW.sub (vs' := [some (.ref (ad 236)), some (.int y1), none]) (lsub_of (by simp [lsubB])) ?_
          exact j84 k0 hk0 _ _ _ h
        ·
          refine a_iconst C dX12_comesOut_79 (v := 4) rfl ?_
          refine a_goto C dX12_comesOut_80 (tgt := 84) rfl ?_
          refine AW.sub (vs' := [some (.ref (ad 236)), some (.int y1), none]) (lsub_of (by simp [lsubB])) ?_
          exact j84 k0 hk0 _ _ _ h
      ·
        refine a_iconst C dX12_comesOut_69 (v := 3) rfl ?_
        refine a_goto C dX12_comesOut_70 (tgt := 84) rfl ?_
        refine AW.sub (vs' := [some (.ref (ad 236)), some (.int y1), none]) (lsub_of (by simp [lsubB])) ?_
        exact j84 k0 hk0 _ _ _ h
    ·
      refine a_iconst C dX12_comesOut_59 (v := 2) rfl ?_
      refine a_goto C dX12_comesOut_60 (tgt := 84) rfl ?_
      refine AW.sub (vs' := [some (.ref (ad 236)), some (.int y1), none]) (lsub_of (by simp [lsubB])) ?_
      exact j84 k0 hk0 _ _ _ h
  have j0 : ∀ (n : Nat) (y1 : Int32) (σ : HS), f_X12_comesOut_0 n y1 σ = some R → AW ids ad ca Γ 0 [some (.ref (ad 236)), some (.int y1), none] [] σ := by
    intro n
    induction n with
    | zero => intro y1 σ h; exact nn h
    | succ n ih =>
      intro y1 σ h
      have h : b_X12_comesOut_0 (f_X12_comesOut_0 n) y1 σ = some R := h
      unfold b_X12_comesOut_0 at h
      refine a_aload_n C dX12_comesOut_0 (i := 0) rfl rfl ?_
      refine a_get C fl_RX12_284 (i := 236) kd_236 (hid 236 (by decide)) (v := .int (σ.1 236 43)) rfl dX12_comesOut_1 ?_
      refine p_if_le C (X := (σ.1 236 43).toInt) rfl dX12_comesOut_4 (tgt := 91) rfl h (fun h => ?_) (fun h => ?_)
      ·
        exact a_vret Rt dX12_comesOut_91 (retv_eq (h.trans (congrArg some hR.symm)))
      ·
        refine a_aload_n C dX12_comesOut_7 (i := 0) rfl rfl ?_
        refine a_get C fl_RX12_98 (i := 236) kd_236 (hid 236 (by decide)) (v := .ref (ad 263)) rfl dX12_comesOut_8 ?_
        refine a_aload_n C dX12_comesOut_11 (i := 0) rfl rfl ?_
        refine a_get C fl_RX12_284 (i := 236) kd_236 (hid 236 (by decide)) (v := .int (σ.1 236 43)) rfl dX12_comesOut_12 ?_
        refine a_iconst C dX12_comesOut_15 (v := 1) rfl ?_
        refine a_isub C dX12_comesOut_16 ?_
        refine p_iald C (i := 263) (show rowOK 263 from ⟨kd_263, by decide⟩) hid (by rw [al_263]; rfl) dX12_comesOut_17 h (fun h => ?_)
        refine p_istore_n C (fun z1 => [some (.ref (ad 236)), some (.int y1), some (.int z1)]) dX12_comesOut_18 (i := 2) rfl (by decide) rfl (fun _ => rfl) h (fun z1 h => ?_)
        refine a_iload_n C dX12_comesOut_19 (i := 2) rfl rfl ?_
        refine a_bipush C dX12_comesOut_20 (v := 6) rfl ?_
        refine p_ic_eq C (X := z1.toInt) (Y := 6) rfl (by decide) dX12_comesOut_22 (tgt := 41) rfl h (fun h => ?_) (fun h => ?_)
        ·
          exact a_vret Rt dX12_comesOut_41 (retv_eq (h.trans (congrArg some hR.symm)))
        ·
          refine a_iload_n C dX12_comesOut_25 (i := 1) rfl rfl ?_
          refine p_if_eq C (X := y1.toInt) rfl dX12_comesOut_26 (tgt := 42) rfl h (fun h => ?_) (fun h => ?_)
          ·
            exact j42 (f_X12_comesOut_0 n) (fun y1 σ h => ih y1 σ h) _ _ _ h
          ·
            refine a_iload_n C dX12_comesOut_29 (i := 2) rfl rfl ?_
            refine a_bipush C dX12_comesOut_30 (v := 8) rfl ?_
            refine p_ic_eq C (X := z1.toInt) (Y := 8) rfl (by decide) dX12_comesOut_32 (tgt := 41) rfl h (fun h => ?_) (fun h => ?_)
            ·
              exact a_vret Rt dX12_comesOut_41 (retv_eq (h.trans (congrArg some hR.symm)))
            ·
              refine a_iload_n C dX12_comesOut_35 (i := 2) rfl rfl ?_
              refine a_bipush C dX12_comesOut_36 (v := 9) rfl ?_
              refine p_ic_ne C (X := z1.toInt) (Y := 9) rfl (by decide) dX12_comesOut_38 (tgt := 42) rfl h (fun h => ?_) (fun h => ?_)
              ·
                exact j42 (f_X12_comesOut_0 n) (fun y1 σ h => ih y1 σ h) _ _ _ h
              ·
                exact a_vret Rt dX12_comesOut_41 (retv_eq (h.trans (congrArg some hR.symm)))
  exact j0 _ _ _ h
set_option maxHeartbeats 4000000 in
set_option maxRecDepth 100000 in
theorem Z_X12_expression {l : Launch} {D : va_G} {ids : List Nat} {ad : Nat → Nat} {ca : Nat → ClassId} {σ : HS} {s0 : HS} (hid : ∀ i, i < 277 → i ∈ ids) (h : f_X12_expression σ = some s0) : Kv l D ids ad ca yX12_expression cX12_expression 3 3 61 [.ref (ad 236)] σ (fun σ1 => σ1 = s0) := by
  obtain ⟨R, hR⟩ : ∃ R, s0 = R := ⟨_, rfl⟩
  replace h := h.trans (congrArg some hR)
  refine Kv.of (by decide) (Nat.le_of_ble_eq_true rfl) 2 (fun Γ C Rt => ?_)
  show AW ids ad ca Γ 0 [some (.ref (ad 236)), none, none] [] σ
  unfold f_X12_expression at h
  have j234 : ∀ (k12 : Int32 → Int32 → HS → Option (HS)) (hk12 : ∀ (y1 : Int32) (y2 : Int32) (σ : HS), k12 y1 y2 σ = some R → AW ids ad ca Γ 12 [some (.ref (ad 236)), some (.int y1), some (.int y2)] [] σ) (y1 : Int32) (y2 : Int32) (v0 : Int32) (σ : HS), f_X12_expression_234 k12 y1 y2 v0 σ = some R → AW ids ad ca Γ 234 [some (.ref (ad 236)), some (.int y1), some (.int y2)] [.int v0, .ref (ad 236)] σ := by
    intro k12 hk12 y1 y2 v0 σ h
    unfold f_X12_expression_234 at h
    refine p_callVv C (As := [.int v0]) (i := 236) kd_236 (hid 236 (by decide)) ⟨_, _, rfl⟩ (by decide) h (fun _ e => Z_X12_comesOut hid e) mi_X12_comesOut ml_RX12_293 rfl rfl (Nat.le_of_ble_eq_true rfl) (Nat.le_of_ble_eq_true rfl) (Nat.le_of_ble_eq_true rfl) dX12_expression_234 (fun σ1 h => ?_)
    refine a_aload_n C dX12_expression_237 (i := 0) rfl rfl ?_
    refine a_get C fl_RX12_98 (i := 236) kd_236 (hid 236 (by decide)) (v := .ref (ad 263)) rfl dX12_expression_238 ?_
    refine a_aload_n C dX12_expression_241 (i := 0) rfl rfl ?_
    refine a_get C fl_RX12_284 (i := 236) kd_236 (hid 236 (by decide)) (v := .int (σ1.1 236 43)) rfl dX12_expression_242 ?_
    refine a_aload_n C dX12_expression_245 (i := 0) rfl rfl ?_
    refine a_get C fl_RX12_20 (i := 236) kd_236 (hid 236 (by decide)) (v := .ref (ad 239)) rfl dX12_expression_246 ?_
    refine a_aload_n C dX12_expression_249 (i := 0) rfl rfl ?_
    refine a_get C fl_RX12_194 (i := 236) kd_236 (hid 236 (by decide)) (v := .int (σ1.1 236 11)) rfl dX12_expression_250 ?_
    refine p_iald C (i := 239) (show rowOK 239 from ⟨kd_239, by decide⟩) hid (by rw [al_239]; rfl) dX12_expression_253 h (fun h => ?_)
    refine p_iast C (i := 263) (show rowOK 263 from ⟨kd_263, by decide⟩) hid (by rw [al_263]; rfl) dX12_expression_254 h (fun σ3 h => ?_)
    refine a_aload_n C dX12_expression_255 (i := 0) rfl rfl ?_
    refine a_dup C dX12_expression_256 rfl ?_
    refine a_get C fl_RX12_284 (i := 236) kd_236 (hid 236 (by decide)) (v := .int (σ3.1 236 43)) rfl dX12_expression_257 ?_
    refine a_iconst C dX12_expression_260 (v := 1) rfl ?_
    refine a_iadd C dX12_expression_261 ?_
    refine p_put C fp_RX12_284 (i := 236) kd_236 (hid 236 (by decide)) rfl rfl dX12_expression_262 h (fun σ4 h => ?_)
    refine a_aload_n C dX12_expression_265 (i := 0) rfl rfl ?_
    refine p_callVv C (As := []) (i := 236) kd_236 (hid 236 (by decide)) ⟨_, _, rfl⟩ (by decide) h (fun _ e => Z_X12_goesOn hid e) mi_X12_goesOn ml_RX12_212 rfl rfl (Nat.le_of_ble_eq_true rfl) (Nat.le_of_ble_eq_true rfl) (Nat.le_of_ble_eq_true rfl) dX12_expression_266 (fun σ5 h => ?_)
    refine a_goto C dX12_expression_269 (tgt := 12) rfl ?_
    exact hk12 _ _ _ h
  have j229 : ∀ (k12 : Int32 → Int32 → HS → Option (HS)) (hk12 : ∀ (y1 : Int32) (y2 : Int32) (σ : HS), k12 y1 y2 σ = some R → AW ids ad ca Γ 12 [some (.ref (ad 236)), some (.int y1), some (.int y2)] [] σ) (y1 : Int32) (y2 : Int32) (σ : HS), f_X12_expression_229 k12 y1 y2 σ = some R → AW ids ad ca Γ 229 [some (.ref (ad 236)), some (.int y1), some (.int y2)] [.ref (ad 236)] σ := by
    intro k12 hk12 y1 y2 σ h
    unfold f_X12_expression_229 at h
    refine a_iconst C dX12_expression_229 (v := 1) rfl ?_
    refine a_goto C dX12_expression_230 (tgt := 234) rfl ?_
    exact j234 k12 hk12 _ _ _ _ h
  have j204 : ∀ (σ : HS), f_X12_expression_204 σ = some R → AW ids ad ca Γ 204 [some (.ref (ad 236)), none, none] [] σ := by
    intro σ h
    unfold f_X12_expression_204 at h
    refine a_aload_n C dX12_expression_204 (i := 0) rfl rfl ?_
    refine a_iconst C dX12_expression_205 (v := 0) rfl ?_
    refine p_callVv C (As := [.int 0]) (i := 236) kd_236 (hid 236 (by decide)) ⟨_, _, rfl⟩ (by decide) h (fun _ e => Z_X12_comesOut hid e) mi_X12_comesOut ml_RX12_293 rfl rfl (Nat.le_of_ble_eq_true rfl) (Nat.le_of_ble_eq_true rfl) (Nat.le_of_ble_eq_true rfl) dX12_expression_206 (fun σ1 h => ?_)
    exact a_vret Rt dX12_expression_209 (retv_eq (h.trans (congrArg some hR.symm)))
  have j186 : ∀ (k12 : Int32 → Int32 → HS → Option (HS)) (hk12 : ∀ (y1 : Int32) (y2 : Int32) (σ : HS), k12 y1 y2 σ = some R → AW ids ad ca Γ 12 [some (.ref (ad 236)), some (.int y1), some (.int y2)] [] σ) (y1 : Int32) (v0 : Int32) (σ : HS), f_X12_expression_186 k12 y1 v0 σ = some R → AW ids ad ca Γ 186 [some (.ref (ad 236)), some (.int y1), none] [.int v0] σ := by
    intro k12 hk12 y1 v0 σ h
    unfold f_X12_expression_186 at h
    refine a_istore_n C dX12_expression_186 (i := 2) rfl (by decide) rfl (vs1 := [some (.ref (ad 236)), some (.int y1), some (.int v0)]) rfl ?_
    refine a_iload_n C dX12_expression_187 (i := 2) rfl rfl ?_
    refine p_if_ne C (X := v0.toInt) rfl dX12_expression_188 (tgt := 210) rfl h (fun h => ?_) (fun h => ?_)
    ·
      refine a_aload_n C dX12_expression_210 (i := 0) rfl rfl ?_
      refine a_aload_n C dX12_expression_211 (i := 0) rfl rfl ?_
      refine a_bipush C dX12_expression_212 (v := 10) rfl ?_
      refine p_callVi C (As := [.int 10]) (i := 236) kd_236 (hid 236 (by decide)) ⟨_, _, rfl⟩ (by decide) h (fun _ _ e => Z_X12_is hid e) mi_X12_is ml_RX12_209 rfl rfl (Nat.le_of_ble_eq_true rfl) (Nat.le_of_ble_eq_true rfl) (Nat.le_of_ble_eq_true rfl) dX12_expression_214 (fun r2 σ1 h => ?_)
      refine p_if_ne C (X := r2.toInt) rfl dX12_expression_217 (tgt := 229) rfl h (fun h => ?_) (fun h => ?_)
      ·
        exact j229 k12 hk12 _ _ _ h
      ·
        refine a_aload_n C dX12_expression_220 (i := 0) rfl rfl ?_
        refine a_bipush C dX12_expression_221 (v := 15) rfl ?_
        refine p_callVi C (As := [.int 15]) (i := 236) kd_236 (hid 236 (by decide)) ⟨_, _, rfl⟩ (by decide) h (fun _ _ e => Z_X12_is hid e) mi_X12_is ml_RX12_209 rfl rfl (Nat.le_of_ble_eq_true rfl) (Nat.le_of_ble_eq_true rfl) (Nat.le_of_ble_eq_true rfl) dX12_expression_223 (fun r4 σ3 h => ?_)
        refine p_if_eq C (X := r4.toInt) rfl dX12_expression_226 (tgt := 233) rfl h (fun h => ?_) (fun h => ?_)
        ·
          refine a_iconst C dX12_expression_233 (v := 0) rfl ?_
          exact j234 k12 hk12 _ _ _ _ h
        ·
          exact j229 k12 hk12 _ _ _ h
    ·
      refine a_aload_n C dX12_expression_191 (i := 0) rfl rfl ?_
      refine a_get C fl_RX12_218 (i := 236) kd_236 (hid 236 (by decide)) (v := .int (σ.1 236 12)) rfl dX12_expression_192 ?_
      refine a_iload_n C dX12_expression_195 (i := 1) rfl rfl ?_
      refine p_ic_le C (X := (σ.1 236 12).toInt) (Y := y1.toInt) rfl rfl dX12_expression_196 (tgt := 204) rfl h (fun h => ?_) (fun h => ?_)
      ·
        refine AW.sub (vs' := [some (.ref (ad 236)), none, none]) (lsub_of (by simp [lsubB])) ?_
        exact j204 _ h
      ·
        refine a_aload_n C dX12_expression_199 (i := 0) rfl rfl ?_
        refine a_iconst C dX12_expression_200 (v := 1) rfl ?_
        refine p_callVv C (As := [.int 1]) (i := 236) kd_236 (hid 236 (by decide)) ⟨_, _, rfl⟩ (by decide) h (fun _ e => Z_X12_fail hid e) mi_X12_fail ml_RX12_206 rfl rfl (Nat.le_of_ble_eq_true rfl) (Nat.le_of_ble_eq_true rfl) (Nat.le_of_ble_eq_true rfl) dX12_expression_201 (fun σ5 h => ?_)
        refine AW.sub (vs' := [some (.ref (ad 236)), none, none]) (lsub_of (by simp [lsubB])) ?_
        exact j204 _ h
  have j181 : ∀ (k12 : Int32 → Int32 → HS → Option (HS)) (hk12 : ∀ (y1 : Int32) (y2 : Int32) (σ : HS), k12 y1 y2 σ = some R → AW ids ad ca Γ 12 [some (.ref (ad 236)), some (.int y1), some (.int y2)] [] σ) (y1 : Int32) (σ : HS), f_X12_expression_181 k12 y1 σ = some R → AW ids ad ca Γ 181 [some (.ref (ad 236)), some (.int y1), none] [] σ := by
    intro k12 hk12 y1 σ h
    unfold f_X12_expression_181 at h
    refine a_iconst C dX12_expression_181 (v := 1) rfl ?_
    refine a_goto C dX12_expression_182 (tgt := 186) rfl ?_
    exact j186 k12 hk12 _ _ _ h
  have j145 : ∀ (k12 : Int32 → Int32 → HS → Option (HS)) (hk12 : ∀ (y1 : Int32) (y2 : Int32) (σ : HS), k12 y1 y2 σ = some R → AW ids ad ca Γ 12 [some (.ref (ad 236)), some (.int y1), some (.int y2)] [] σ) (y1 : Int32) (σ : HS), f_X12_expression_145 k12 y1 σ = some R → AW ids ad ca Γ 145 [some (.ref (ad 236)), some (.int y1), none] [] σ := by
    intro k12 hk12 y1 σ h
    unfold f_X12_expression_145 at h
    refine a_aload_n C dX12_expression_145 (i := 0) rfl rfl ?_
    refine a_bipush C dX12_expression_146 (v := 8) rfl ?_
    refine p_callVi C (As := [.int 8]) (i := 236) kd_236 (hid 236 (by decide)) ⟨_, _, rfl⟩ (by decide) h (fun _ _ e => Z_X12_is hid e) mi_X12_is ml_RX12_209 rfl rfl (Nat.le_of_ble_eq_true rfl) (Nat.le_of_ble_eq_true rfl) (Nat.le_of_ble_eq_true rfl) dX12_expression_148 (fun r2 σ1 h => ?_)
    refine p_if_ne C (X := r2.toInt) rfl dX12_expression_151 (tgt := 181) rfl h (fun h => ?_) (fun h => ?_)
    ·
      exact j181 k12 hk12 _ _ h
    ·
      refine a_aload_n C dX12_expression_154 (i := 0) rfl rfl ?_
      refine a_bipush C dX12_expression_155 (v := 9) rfl ?_
      refine p_callVi C (As := [.int 9]) (i := 236) kd_236 (hid 236 (by decide)) ⟨_, _, rfl⟩ (by decide) h (fun _ _ e => Z_X12_is hid e) mi_X12_is ml_RX12_209 rfl rfl (Nat.le_of_ble_eq_true rfl) (Nat.le_of_ble_eq_true rfl) (Nat.le_of_ble_eq_true rfl) dX12_expression_157 (fun r4 σ3 h => ?_)
      refine p_if_ne C (X := r4.toInt) rfl dX12_expression_160 (tgt := 181) rfl h (fun h => ?_) (fun h => ?_)
      ·
        exact j181 k12 hk12 _ _ h
      ·
        refine a_aload_n C dX12_expression_163 (i := 0) rfl rfl ?_
        refine a_bipush C dX12_expression_164 (v := 10) rfl ?_
        refine p_callVi C (As := [.int 10]) (i := 236) kd_236 (hid 236 (by decide)) ⟨_, _, rfl⟩ (by decide) h (fun _ _ e => Z_X12_is hid e) mi_X12_is ml_RX12_209 rfl rfl (Nat.le_of_ble_eq_true rfl) (Nat.le_of_ble_eq_true rfl) (Nat.le_of_ble_eq_true rfl) dX12_expression_166 (fun r6 σ5 h => ?_)
        refine p_if_ne C (X := r6.toInt) rfl dX12_expression_169 (tgt := 181) rfl h (fun h => ?_) (fun h => ?_)
        ·
          exact j181 k12 hk12 _ _ h
        ·
          refine a_aload_n C dX12_expression_172 (i := 0) rfl rfl ?_
          refine a_bipush C dX12_expression_173 (v := 15) rfl ?_
          refine p_callVi C (As := [.int 15]) (i := 236) kd_236 (hid 236 (by decide)) ⟨_, _, rfl⟩ (by decide) h (fun _ _ e => Z_X12_is hid e) mi_X12_is ml_RX12_209 rfl rfl (Nat.le_of_ble_eq_true rfl) (Nat.le_of_ble_eq_true rfl) (Nat.le_of_ble_eq_true rfl) dX12_expression_175 (fun r8 σ7 h => ?_)
          refine p_if_eq C (X := r8.toInt) rfl dX12_expression_178 (tgt := 185) rfl h (fun h => ?_) (fun h => ?_)
          ·
            refine a_iconst C dX12_expression_185 (v := 0) rfl ?_
            exact j186 k12 hk12 _ _ _ h
          ·
            exact j181 k12 hk12 _ _ h
  have j96 : ∀ (k12 : Int32 → Int32 → HS → Option (HS)) (hk12 : ∀ (y1 : Int32) (y2 : Int32) (σ : HS), k12 y1 y2 σ = some R → AW ids ad ca Γ 12 [some (.ref (ad 236)), some (.int y1), some (.int y2)] [] σ) (n : Nat) (y1 : Int32) (σ : HS), f_X12_expression_96 k12 n y1 σ = some R → AW ids ad ca Γ 96 [some (.ref (ad 236)), some (.int y1), none] [] σ := by
    intro k12 hk12 n
    induction n with
    | zero => intro y1 σ h; exact nn h
    | succ n ih =>
      intro y1 σ h
      have h : b_X12_expression_96 k12 (f_X12_expression_96 k12 n) y1 σ = some R := h
      unfold b_X12_expression_96 at h
      refine a_aload_n C dX12_expression_96 (i := 0) rfl rfl ?_
      refine a_bipush C dX12_expression_97 (v := 7) rfl ?_
      refine p_callVi C (As := [.int 7]) (i := 236) kd_236 (hid 236 (by decide)) ⟨_, _, rfl⟩ (by decide) h (fun _ _ e => Z_X12_is hid e) mi_X12_is ml_RX12_209 rfl rfl (Nat.le_of_ble_eq_true rfl) (Nat.le_of_ble_eq_true rfl) (Nat.le_of_ble_eq_true rfl) dX12_expression_99 (fun r2 σ1 h => ?_)
      refine p_if_eq C (X := r2.toInt) rfl dX12_expression_102 (tgt := 145) rfl h (fun h => ?_) (fun h => ?_)
      ·
        exact j145 k12 hk12 _ _ h
      ·
        refine a_aload_n C dX12_expression_105 (i := 0) rfl rfl ?_
        refine a_get C fl_RX12_218 (i := 236) kd_236 (hid 236 (by decide)) (v := .int (σ1.1 236 12)) rfl dX12_expression_106 ?_
        refine a_iload_n C dX12_expression_109 (i := 1) rfl rfl ?_
        refine p_ic_le C (X := (σ1.1 236 12).toInt) (Y := y1.toInt) rfl rfl dX12_expression_110 (tgt := 145) rfl h (fun h => ?_) (fun h => ?_)
        ·
          exact j145 k12 hk12 _ _ h
        ·
          refine a_aload_n C dX12_expression_113 (i := 0) rfl rfl ?_
          refine a_iconst C dX12_expression_114 (v := 0) rfl ?_
          refine p_callVv C (As := [.int 0]) (i := 236) kd_236 (hid 236 (by decide)) ⟨_, _, rfl⟩ (by decide) h (fun _ e => Z_X12_comesOut hid e) mi_X12_comesOut ml_RX12_293 rfl rfl (Nat.le_of_ble_eq_true rfl) (Nat.le_of_ble_eq_true rfl) (Nat.le_of_ble_eq_true rfl) dX12_expression_115 (fun σ3 h => ?_)
          refine a_aload_n C dX12_expression_118 (i := 0) rfl rfl ?_
          refine a_dup C dX12_expression_119 rfl ?_
          refine a_get C fl_RX12_284 (i := 236) kd_236 (hid 236 (by decide)) (v := .int (σ3.1 236 43)) rfl dX12_expression_120 ?_
          refine a_iconst C dX12_expression_123 (v := 1) rfl ?_
          refine a_isub C dX12_expression_124 ?_
          refine p_put C fp_RX12_284 (i := 236) kd_236 (hid 236 (by decide)) rfl rfl dX12_expression_125 h (fun σ5 h => ?_)
          refine a_aload_n C dX12_expression_128 (i := 0) rfl rfl ?_
          refine a_dup C dX12_expression_129 rfl ?_
          refine a_get C fl_RX12_218 (i := 236) kd_236 (hid 236 (by decide)) (v := .int (σ5.1 236 12)) rfl dX12_expression_130 ?_
          refine a_iconst C dX12_expression_133 (v := 1) rfl ?_
          refine a_isub C dX12_expression_134 ?_
          refine p_put C fp_RX12_218 (i := 236) kd_236 (hid 236 (by decide)) rfl rfl dX12_expression_135 h (fun σ6 h => ?_)
          refine a_aload_n C dX12_expression_138 (i := 0) rfl rfl ?_
          refine p_callVv C (As := []) (i := 236) kd_236 (hid 236 (by decide)) ⟨_, _, rfl⟩ (by decide) h (fun _ e => Z_X12_goesOn hid e) mi_X12_goesOn ml_RX12_212 rfl rfl (Nat.le_of_ble_eq_true rfl) (Nat.le_of_ble_eq_true rfl) (Nat.le_of_ble_eq_true rfl) dX12_expression_139 (fun σ7 h => ?_)
          refine a_goto C dX12_expression_142 (tgt := 96) rfl ?_
          exact ih _ _ h
  have j46 : ∀ (k12 : Int32 → Int32 → HS → Option (HS)) (hk12 : ∀ (y1 : Int32) (y2 : Int32) (σ : HS), k12 y1 y2 σ = some R → AW ids ad ca Γ 12 [some (.ref (ad 236)), some (.int y1), some (.int y2)] [] σ) (k23 : Int32 → HS → Option (HS)) (hk23 : ∀ (y1 : Int32) (σ : HS), k23 y1 σ = some R → AW ids ad ca Γ 23 [some (.ref (ad 236)), some (.int y1), none] [] σ) (y1 : Int32) (σ : HS), f_X12_expression_46 k12 k23 y1 σ = some R → AW ids ad ca Γ 46 [some (.ref (ad 236)), some (.int y1), none] [] σ := by
    intro k12 hk12 k23 hk23 y1 σ h
    unfold f_X12_expression_46 at h
    refine a_aload_n C dX12_expression_46 (i := 0) rfl rfl ?_
    refine a_dup C dX12_expression_47 rfl ?_
    refine a_get C fl_RX12_218 (i := 236) kd_236 (hid 236 (by decide)) (v := .int (σ.1 236 12)) rfl dX12_expression_48 ?_
    refine a_iconst C dX12_expression_51 (v := 1) rfl ?_
    refine a_iadd C dX12_expression_52 ?_
    refine p_put C fp_RX12_218 (i := 236) kd_236 (hid 236 (by decide)) rfl rfl dX12_expression_53 h (fun σ1 h => ?_)
    refine a_aload_n C dX12_expression_56 (i := 0) rfl rfl ?_
    refine p_callVv C (As := []) (i := 236) kd_236 (hid 236 (by decide)) ⟨_, _, rfl⟩ (by decide) h (fun _ e => Z_X12_goesOn hid e) mi_X12_goesOn ml_RX12_212 rfl rfl (Nat.le_of_ble_eq_true rfl) (Nat.le_of_ble_eq_true rfl) (Nat.le_of_ble_eq_true rfl) dX12_expression_57 (fun σ2 h => ?_)
    refine a_aload_n C dX12_expression_60 (i := 0) rfl rfl ?_
    refine a_get C fl_RX12_98 (i := 236) kd_236 (hid 236 (by decide)) (v := .ref (ad 263)) rfl dX12_expression_61 ?_
    refine a_aload_n C dX12_expression_64 (i := 0) rfl rfl ?_
    refine a_get C fl_RX12_284 (i := 236) kd_236 (hid 236 (by decide)) (v := .int (σ2.1 236 43)) rfl dX12_expression_65 ?_
    refine a_bipush C dX12_expression_68 (v := 6) rfl ?_
    refine p_iast C (i := 263) (show rowOK 263 from ⟨kd_263, by decide⟩) hid (by rw [al_263]; rfl) dX12_expression_70 h (fun σ4 h => ?_)
    refine a_aload_n C dX12_expression_71 (i := 0) rfl rfl ?_
    refine a_dup C dX12_expression_72 rfl ?_
    refine a_get C fl_RX12_284 (i := 236) kd_236 (hid 236 (by decide)) (v := .int (σ4.1 236 43)) rfl dX12_expression_73 ?_
    refine a_iconst C dX12_expression_76 (v := 1) rfl ?_
    refine a_iadd C dX12_expression_77 ?_
    refine p_put C fp_RX12_284 (i := 236) kd_236 (hid 236 (by decide)) rfl rfl dX12_expression_78 h (fun σ5 h => ?_)
    refine a_goto C dX12_expression_81 (tgt := 23) rfl ?_
    exact hk23 _ _ h
  have j23 : ∀ (k12 : Int32 → Int32 → HS → Option (HS)) (hk12 : ∀ (y1 : Int32) (y2 : Int32) (σ : HS), k12 y1 y2 σ = some R → AW ids ad ca Γ 12 [some (.ref (ad 236)), some (.int y1), some (.int y2)] [] σ) (n : Nat) (y1 : Int32) (σ : HS), f_X12_expression_23 k12 n y1 σ = some R → AW ids ad ca Γ 23 [some (.ref (ad 236)), some (.int y1), none] [] σ := by
    intro k12 hk12 n
    induction n with
    | zero => intro y1 σ h; exact nn h
    | succ n ih =>
      intro y1 σ h
      have h : b_X12_expression_23 k12 (f_X12_expression_23 k12 n) y1 σ = some R := h
      unfold b_X12_expression_23 at h
      refine a_aload_n C dX12_expression_23 (i := 0) rfl rfl ?_
      refine a_bipush C dX12_expression_24 (v := 6) rfl ?_
      refine p_callVi C (As := [.int 6]) (i := 236) kd_236 (hid 236 (by decide)) ⟨_, _, rfl⟩ (by decide) h (fun _ _ e => Z_X12_is hid e) mi_X12_is ml_RX12_209 rfl rfl (Nat.le_of_ble_eq_true rfl) (Nat.le_of_ble_eq_true rfl) (Nat.le_of_ble_eq_true rfl) dX12_expression_26 (fun r2 σ1 h => ?_)
      refine p_if_eq C (X := r2.toInt) rfl dX12_expression_29 (tgt := 84) rfl h (fun h => ?_) (fun h => ?_)
      ·
        refine a_aload_n C dX12_expression_84 (i := 0) rfl rfl ?_
        refine p_callVv C (As := []) (i := 236) kd_236 (hid 236 (by decide)) ⟨_, _, rfl⟩ (by decide) h (fun _ e => Z_X12_unit hid e) mi_X12_unit ml_RX12_290 rfl rfl (Nat.le_of_ble_eq_true rfl) (Nat.le_of_ble_eq_true rfl) (Nat.le_of_ble_eq_true rfl) dX12_expression_85 (fun σ3 h => ?_)
        refine a_aload_n C dX12_expression_88 (i := 0) rfl rfl ?_
        refine a_get C fl_RX12_191 (i := 236) kd_236 (hid 236 (by decide)) (v := .int (σ3.1 236 13)) rfl dX12_expression_89 ?_
        refine p_if_le C (X := (σ3.1 236 13).toInt) rfl dX12_expression_92 (tgt := 96) rfl h (fun h => ?_) (fun h => ?_)
        ·
          exact j96 k12 hk12 _ _ _ h
        ·
          exact a_vret Rt dX12_expression_95 (retv_eq (h.trans (congrArg some hR.symm)))
      ·
        refine a_aload_n C dX12_expression_32 (i := 0) rfl rfl ?_
        refine a_get C fl_RX12_218 (i := 236) kd_236 (hid 236 (by decide)) (v := .int (σ1.1 236 12)) rfl dX12_expression_33 ?_
        refine a_bipush C dX12_expression_36 (v := 6) rfl ?_
        refine p_ic_ne C (X := (σ1.1 236 12).toInt) (Y := 6) rfl (by decide) dX12_expression_38 (tgt := 46) rfl h (fun h => ?_) (fun h => ?_)
        ·
          exact j46 k12 hk12 (f_X12_expression_23 k12 n) (fun y1 σ h => ih y1 σ h) _ _ h
        ·
          refine a_aload_n C dX12_expression_41 (i := 0) rfl rfl ?_
          refine a_iconst C dX12_expression_42 (v := 2) rfl ?_
          refine p_callVv C (As := [.int 2]) (i := 236) kd_236 (hid 236 (by decide)) ⟨_, _, rfl⟩ (by decide) h (fun _ e => Z_X12_fail hid e) mi_X12_fail ml_RX12_206 rfl rfl (Nat.le_of_ble_eq_true rfl) (Nat.le_of_ble_eq_true rfl) (Nat.le_of_ble_eq_true rfl) dX12_expression_43 (fun σ5 h => ?_)
          exact j46 k12 hk12 (f_X12_expression_23 k12 n) (fun y1 σ h => ih y1 σ h) _ _ h
  have j12 : ∀ (n : Nat) (y1 : Int32) (y2 : Int32) (σ : HS), f_X12_expression_12 n y1 y2 σ = some R → AW ids ad ca Γ 12 [some (.ref (ad 236)), some (.int y1), some (.int y2)] [] σ := by
    intro n
    induction n with
    | zero => intro y1 y2 σ h; exact nn h
    | succ n ih =>
      intro y1 y2 σ h
      have h : b_X12_expression_12 (f_X12_expression_12 n) y1 y2 σ = some R := h
      unfold b_X12_expression_12 at h
      refine a_iload_n C dX12_expression_12 (i := 2) rfl rfl ?_
      refine p_if_eq C (X := y2.toInt) rfl dX12_expression_13 (tgt := 272) rfl h (fun h => ?_) (fun h => ?_)
      ·
        exact a_vret Rt dX12_expression_272 (retv_eq (h.trans (congrArg some hR.symm)))
      ·
        refine a_aload_n C dX12_expression_16 (i := 0) rfl rfl ?_
        refine a_get C fl_RX12_191 (i := 236) kd_236 (hid 236 (by decide)) (v := .int (σ.1 236 13)) rfl dX12_expression_17 ?_
        refine p_if_ne C (X := (σ.1 236 13).toInt) rfl dX12_expression_20 (tgt := 272) rfl h (fun h => ?_) (fun h => ?_)
        ·
          exact a_vret Rt dX12_expression_272 (retv_eq (h.trans (congrArg some hR.symm)))
        ·
          refine AW.sub (vs' := [some (.ref (ad 236)), some (.int y1), none]) (lsub_of (by simp [lsubB])) ?_
          exact j23 (f_X12_expression_12 n) (fun y1 y2 σ h => ih y1 y2 σ h) _ _ _ h
  refine a_aload_n C dX12_expression_0 (i := 0) rfl rfl ?_
  refine a_iconst C dX12_expression_1 (v := 0) rfl ?_
  refine p_put C fp_RX12_284 (i := 236) kd_236 (hid 236 (by decide)) rfl rfl dX12_expression_2 h (fun σ1 h => ?_)
  refine a_aload_n C dX12_expression_5 (i := 0) rfl rfl ?_
  refine a_get C fl_RX12_218 (i := 236) kd_236 (hid 236 (by decide)) (v := .int (σ1.1 236 12)) rfl dX12_expression_6 ?_
  refine p_istore_n C (fun z2 => [some (.ref (ad 236)), some (.int z2), none]) dX12_expression_9 (i := 1) rfl (by decide) rfl (fun _ => rfl) h (fun z2 h => ?_)
  refine a_iconst C dX12_expression_10 (v := 1) rfl ?_
  refine a_istore_n C dX12_expression_11 (i := 2) rfl (by decide) rfl (vs1 := [some (.ref (ad 236)), some (.int z2), some (.int 1)]) rfl ?_
  exact j12 _ _ _ _ h
set_option maxHeartbeats 4000000 in
set_option maxRecDepth 100000 in
theorem Z_X12_term {l : Launch} {D : va_G} {ids : List Nat} {ad : Nat → Nat} {ca : Nat → ClassId} {σ : HS} {s0 : HS} (hid : ∀ i, i < 277 → i ∈ ids) (h : f_X12_term σ = some s0) : Kv l D ids ad ca yX12_term cX12_term 1 4 83 [.ref (ad 236)] σ (fun σ1 => σ1 = s0) := by
  obtain ⟨R, hR⟩ : ∃ R, s0 = R := ⟨_, rfl⟩
  replace h := h.trans (congrArg some hR)
  refine Kv.of (by decide) (Nat.le_of_ble_eq_true rfl) 0 (fun Γ C Rt => ?_)
  show AW ids ad ca Γ 0 [some (.ref (ad 236))] [] σ
  unfold f_X12_term at h
  have j24 : ∀ (σ : HS), f_X12_term_24 σ = some R → AW ids ad ca Γ 24 [some (.ref (ad 236))] [] σ := by
    intro σ h
    unfold f_X12_term_24 at h
    refine a_aload_n C dX12_term_24 (i := 0) rfl rfl ?_
    refine a_get C fl_RX12_89 (i := 236) kd_236 (hid 236 (by decide)) (v := .ref (ad 260)) rfl dX12_term_25 ?_
    refine a_aload_n C dX12_term_28 (i := 0) rfl rfl ?_
    refine a_get C fl_RX12_230 (i := 236) kd_236 (hid 236 (by decide)) (v := .int (σ.1 236 33)) rfl dX12_term_29 ?_
    refine a_aload_n C dX12_term_32 (i := 0) rfl rfl ?_
    refine a_get C fl_RX12_233 (i := 236) kd_236 (hid 236 (by decide)) (v := .int (σ.1 236 39)) rfl dX12_term_33 ?_
    refine p_iast C (i := 260) (show rowOK 260 from ⟨kd_260, by decide⟩) hid (by rw [al_260]; rfl) dX12_term_36 h (fun σ1 h => ?_)
    refine a_aload_n C dX12_term_37 (i := 0) rfl rfl ?_
    refine a_dup C dX12_term_38 rfl ?_
    refine a_get C fl_RX12_230 (i := 236) kd_236 (hid 236 (by decide)) (v := .int (σ1.1 236 33)) rfl dX12_term_39 ?_
    refine a_iconst C dX12_term_42 (v := 1) rfl ?_
    refine a_iadd C dX12_term_43 ?_
    refine p_put C fp_RX12_230 (i := 236) kd_236 (hid 236 (by decide)) rfl rfl dX12_term_44 h (fun σ2 h => ?_)
    exact a_vret Rt dX12_term_47 (retv_eq (h.trans (congrArg some hR.symm)))
  refine a_aload_n C dX12_term_0 (i := 0) rfl rfl ?_
  refine a_get C fl_RX12_86 (i := 236) kd_236 (hid 236 (by decide)) (v := .ref (ad 259)) rfl dX12_term_1 ?_
  refine a_aload_n C dX12_term_4 (i := 0) rfl rfl ?_
  refine a_get C fl_RX12_230 (i := 236) kd_236 (hid 236 (by decide)) (v := .int (σ.1 236 33)) rfl dX12_term_5 ?_
  refine a_aload_n C dX12_term_8 (i := 0) rfl rfl ?_
  refine a_get C fl_RX12_233 (i := 236) kd_236 (hid 236 (by decide)) (v := .int (σ.1 236 39)) rfl dX12_term_9 ?_
  refine p_iast C (i := 259) (show rowOK 259 from ⟨kd_259, by decide⟩) hid (by rw [al_259]; rfl) dX12_term_12 h (fun σ1 h => ?_)
  refine a_aload_n C dX12_term_13 (i := 0) rfl rfl ?_
  refine a_get C fl_RX12_191 (i := 236) kd_236 (hid 236 (by decide)) (v := .int (σ1.1 236 13)) rfl dX12_term_14 ?_
  refine p_if_ne C (X := (σ1.1 236 13).toInt) rfl dX12_term_17 (tgt := 24) rfl h (fun h => ?_) (fun h => ?_)
  ·
    exact j24 _ h
  ·
    refine a_aload_n C dX12_term_20 (i := 0) rfl rfl ?_
    refine p_callVv C (As := []) (i := 236) kd_236 (hid 236 (by decide)) ⟨_, _, rfl⟩ (by decide) h (fun _ e => Z_X12_expression hid e) mi_X12_expression ml_RX12_278 rfl rfl (Nat.le_of_ble_eq_true rfl) (Nat.le_of_ble_eq_true rfl) (Nat.le_of_ble_eq_true rfl) dX12_term_21 (fun σ2 h => ?_)
    exact j24 _ h
set_option maxHeartbeats 4000000 in
set_option maxRecDepth 100000 in
theorem Z_X12_tellLaw {l : Launch} {D : va_G} {ids : List Nat} {ad : Nat → Nat} {ca : Nat → ClassId} {σ : HS} {x1 : Int32} {s0 : HS} (hid : ∀ i, i < 277 → i ∈ ids) (h : f_X12_tellLaw x1 σ = some s0) : Kv l D ids ad ca yX12_tellLaw cX12_tellLaw 4 5 103 [.ref (ad 236), .int x1] σ (fun σ1 => σ1 = s0) := by
  obtain ⟨R, hR⟩ : ∃ R, s0 = R := ⟨_, rfl⟩
  replace h := h.trans (congrArg some hR)
  refine Kv.of (by decide) (Nat.le_of_ble_eq_true rfl) 2 (fun Γ C Rt => ?_)
  show AW ids ad ca Γ 0 [some (.ref (ad 236)), some (.int x1), none, none] [] σ
  unfold f_X12_tellLaw at h
  have j129 : ∀ (y1 : Int32) (y2 : Int32) (σ : HS), f_X12_tellLaw_129 y1 y2 σ = some R → AW ids ad ca Γ 129 [some (.ref (ad 236)), some (.int y1), some (.int y2), none] [] σ := by
    intro y1 y2 σ h
    unfold f_X12_tellLaw_129 at h
    refine a_aload_n C dX12_tellLaw_129 (i := 0) rfl rfl ?_
    refine a_get C fl_RX12_76 (i := 236) kd_236 (hid 236 (by decide)) (v := .ref (ad 256)) rfl dX12_tellLaw_130 ?_
    refine a_aload_n C dX12_tellLaw_133 (i := 0) rfl rfl ?_
    refine a_get C fl_RX12_230 (i := 236) kd_236 (hid 236 (by decide)) (v := .int (σ.1 236 33)) rfl dX12_tellLaw_134 ?_
    refine a_iconst C dX12_tellLaw_137 (v := 0) rfl ?_
    refine p_zast C (i := 256) kd_256 (hid 256 (by decide)) (by rw [al_256]; rfl) (by decide) dX12_tellLaw_138 h (fun σ1 h => ?_)
    refine a_aload_n C dX12_tellLaw_139 (i := 0) rfl rfl ?_
    refine p_callVv C (As := []) (i := 236) kd_236 (hid 236 (by decide)) ⟨_, _, rfl⟩ (by decide) h (fun _ e => Z_X12_term hid e) mi_X12_term ml_RX12_281 rfl rfl (Nat.le_of_ble_eq_true rfl) (Nat.le_of_ble_eq_true rfl) (Nat.le_of_ble_eq_true rfl) dX12_tellLaw_140 (fun σ2 h => ?_)
    refine a_aload_n C dX12_tellLaw_143 (i := 0) rfl rfl ?_
    refine a_iconst C dX12_tellLaw_144 (v := 4) rfl ?_
    refine p_callVv C (As := [.int 4]) (i := 236) kd_236 (hid 236 (by decide)) ⟨_, _, rfl⟩ (by decide) h (fun _ e => Z_X12_must hid e) mi_X12_must ml_RX12_249 rfl rfl (Nat.le_of_ble_eq_true rfl) (Nat.le_of_ble_eq_true rfl) (Nat.le_of_ble_eq_true rfl) dX12_tellLaw_145 (fun σ4 h => ?_)
    refine a_aload_n C dX12_tellLaw_148 (i := 0) rfl rfl ?_
    refine a_get C fl_RX12_191 (i := 236) kd_236 (hid 236 (by decide)) (v := .int (σ4.1 236 13)) rfl dX12_tellLaw_149 ?_
    refine p_if_le C (X := (σ4.1 236 13).toInt) rfl dX12_tellLaw_152 (tgt := 156) rfl h (fun h => ?_) (fun h => ?_)
    ·
      refine a_aload_n C dX12_tellLaw_156 (i := 0) rfl rfl ?_
      refine a_get C fl_RX12_70 (i := 236) kd_236 (hid 236 (by decide)) (v := .ref (ad 254)) rfl dX12_tellLaw_157 ?_
      refine a_iconst C dX12_tellLaw_160 (v := 4) rfl ?_
      refine a_aload_n C dX12_tellLaw_161 (i := 0) rfl rfl ?_
      refine a_get C fl_RX12_224 (i := 236) kd_236 (hid 236 (by decide)) (v := .int (σ4.1 236 19)) rfl dX12_tellLaw_162 ?_
      refine a_imul C dX12_tellLaw_165 ?_
      refine a_iload_n C dX12_tellLaw_166 (i := 1) rfl rfl ?_
      refine a_iadd C dX12_tellLaw_167 ?_
      refine a_iload_n C dX12_tellLaw_168 (i := 2) rfl rfl ?_
      refine p_iast C (i := 254) (show rowOK 254 from ⟨kd_254, by decide⟩) hid (by rw [al_254]; rfl) dX12_tellLaw_169 h (fun σ6 h => ?_)
      refine a_aload_n C dX12_tellLaw_170 (i := 0) rfl rfl ?_
      refine a_get C fl_RX12_73 (i := 236) kd_236 (hid 236 (by decide)) (v := .ref (ad 255)) rfl dX12_tellLaw_171 ?_
      refine a_iconst C dX12_tellLaw_174 (v := 4) rfl ?_
      refine a_aload_n C dX12_tellLaw_175 (i := 0) rfl rfl ?_
      refine a_get C fl_RX12_224 (i := 236) kd_236 (hid 236 (by decide)) (v := .int (σ6.1 236 19)) rfl dX12_tellLaw_176 ?_
      refine a_imul C dX12_tellLaw_179 ?_
      refine a_iload_n C dX12_tellLaw_180 (i := 1) rfl rfl ?_
      refine a_iadd C dX12_tellLaw_181 ?_
      refine a_aload_n C dX12_tellLaw_182 (i := 0) rfl rfl ?_
      refine a_get C fl_RX12_230 (i := 236) kd_236 (hid 236 (by decide)) (v := .int (σ6.1 236 33)) rfl dX12_tellLaw_183 ?_
      refine p_iast C (i := 255) (show rowOK 255 from ⟨kd_255, by decide⟩) hid (by rw [al_255]; rfl) dX12_tellLaw_186 h (fun σ7 h => ?_)
      exact a_vret Rt dX12_tellLaw_187 (retv_eq (h.trans (congrArg some hR.symm)))
    ·
      exact a_vret Rt dX12_tellLaw_155 (retv_eq (h.trans (congrArg some hR.symm)))
  have j110 : ∀ (k12 : Int32 → Int32 → Int32 → HS → Option (HS)) (hk12 : ∀ (y1 : Int32) (y2 : Int32) (y3 : Int32) (σ : HS), k12 y1 y2 y3 σ = some R → AW ids ad ca Γ 12 [some (.ref (ad 236)), some (.int y1), some (.int y2), some (.int y3)] [] σ) (y1 : Int32) (y2 : Int32) (y3 : Int32) (σ : HS), f_X12_tellLaw_110 k12 y1 y2 y3 σ = some R → AW ids ad ca Γ 110 [some (.ref (ad 236)), some (.int y1), some (.int y2), some (.int y3)] [] σ := by
    intro k12 hk12 y1 y2 y3 σ h
    unfold f_X12_tellLaw_110 at h
    refine a_aload_n C dX12_tellLaw_110 (i := 0) rfl rfl ?_
    refine a_bipush C dX12_tellLaw_111 (v := 29) rfl ?_
    refine p_callVv C (As := [.int 29]) (i := 236) kd_236 (hid 236 (by decide)) ⟨_, _, rfl⟩ (by decide) h (fun _ e => Z_X12_must hid e) mi_X12_must ml_RX12_249 rfl rfl (Nat.le_of_ble_eq_true rfl) (Nat.le_of_ble_eq_true rfl) (Nat.le_of_ble_eq_true rfl) dX12_tellLaw_113 (fun σ1 h => ?_)
    refine a_aload_n C dX12_tellLaw_116 (i := 0) rfl rfl ?_
    refine p_callVv C (As := []) (i := 236) kd_236 (hid 236 (by decide)) ⟨_, _, rfl⟩ (by decide) h (fun _ e => Z_X12_term hid e) mi_X12_term ml_RX12_281 rfl rfl (Nat.le_of_ble_eq_true rfl) (Nat.le_of_ble_eq_true rfl) (Nat.le_of_ble_eq_true rfl) dX12_tellLaw_117 (fun σ3 h => ?_)
    refine a_aload_n C dX12_tellLaw_120 (i := 0) rfl rfl ?_
    refine a_bipush C dX12_tellLaw_121 (v := 30) rfl ?_
    refine p_callVv C (As := [.int 30]) (i := 236) kd_236 (hid 236 (by decide)) ⟨_, _, rfl⟩ (by decide) h (fun _ e => Z_X12_must hid e) mi_X12_must ml_RX12_249 rfl rfl (Nat.le_of_ble_eq_true rfl) (Nat.le_of_ble_eq_true rfl) (Nat.le_of_ble_eq_true rfl) dX12_tellLaw_123 (fun σ5 h => ?_)
    refine a_goto C dX12_tellLaw_126 (tgt := 12) rfl ?_
    exact hk12 _ _ _ _ h
  have j38 : ∀ (k12 : Int32 → Int32 → Int32 → HS → Option (HS)) (hk12 : ∀ (y1 : Int32) (y2 : Int32) (y3 : Int32) (σ : HS), k12 y1 y2 y3 σ = some R → AW ids ad ca Γ 12 [some (.ref (ad 236)), some (.int y1), some (.int y2), some (.int y3)] [] σ) (y1 : Int32) (y2 : Int32) (y3 : Int32) (σ : HS), f_X12_tellLaw_38 k12 y1 y2 y3 σ = some R → AW ids ad ca Γ 38 [some (.ref (ad 236)), some (.int y1), some (.int y2), some (.int y3)] [] σ := by
    intro k12 hk12 y1 y2 y3 σ h
    unfold f_X12_tellLaw_38 at h
    refine a_aload_n C dX12_tellLaw_38 (i := 0) rfl rfl ?_
    refine a_get C fl_RX12_191 (i := 236) kd_236 (hid 236 (by decide)) (v := .int (σ.1 236 13)) rfl dX12_tellLaw_39 ?_
    refine p_if_le C (X := (σ.1 236 13).toInt) rfl dX12_tellLaw_42 (tgt := 46) rfl h (fun h => ?_) (fun h => ?_)
    ·
      refine p_iinc C (y := (y3 + 1)) (fun z1 => [some (.ref (ad 236)), some (.int y1), some (.int y2), some (.int z1)]) dX12_tellLaw_46 rfl rfl (by decide) rfl (fun _ => rfl) h (fun z1 h => ?_)
      refine a_aload_n C dX12_tellLaw_49 (i := 0) rfl rfl ?_
      refine p_callVv C (As := []) (i := 236) kd_236 (hid 236 (by decide)) ⟨_, _, rfl⟩ (by decide) h (fun _ e => Z_X12_goesOn hid e) mi_X12_goesOn ml_RX12_212 rfl rfl (Nat.le_of_ble_eq_true rfl) (Nat.le_of_ble_eq_true rfl) (Nat.le_of_ble_eq_true rfl) dX12_tellLaw_50 (fun σ2 h => ?_)
      refine a_aload_n C dX12_tellLaw_53 (i := 0) rfl rfl ?_
      refine a_get C fl_RX12_76 (i := 236) kd_236 (hid 236 (by decide)) (v := .ref (ad 256)) rfl dX12_tellLaw_54 ?_
      refine a_aload_n C dX12_tellLaw_57 (i := 0) rfl rfl ?_
      refine a_get C fl_RX12_230 (i := 236) kd_236 (hid 236 (by decide)) (v := .int (σ2.1 236 33)) rfl dX12_tellLaw_58 ?_
      refine a_iconst C dX12_tellLaw_61 (v := 1) rfl ?_
      refine p_zast C (i := 256) kd_256 (hid 256 (by decide)) (by rw [al_256]; rfl) (by decide) dX12_tellLaw_62 h (fun σ4 h => ?_)
      refine a_aload_n C dX12_tellLaw_63 (i := 0) rfl rfl ?_
      refine a_get C fl_RX12_80 (i := 236) kd_236 (hid 236 (by decide)) (v := .ref (ad 257)) rfl dX12_tellLaw_64 ?_
      refine a_aload_n C dX12_tellLaw_67 (i := 0) rfl rfl ?_
      refine a_get C fl_RX12_230 (i := 236) kd_236 (hid 236 (by decide)) (v := .int (σ4.1 236 33)) rfl dX12_tellLaw_68 ?_
      refine a_aload_n C dX12_tellLaw_71 (i := 0) rfl rfl ?_
      refine a_get C fl_RX12_233 (i := 236) kd_236 (hid 236 (by decide)) (v := .int (σ4.1 236 39)) rfl dX12_tellLaw_72 ?_
      refine p_iast C (i := 257) (show rowOK 257 from ⟨kd_257, by decide⟩) hid (by rw [al_257]; rfl) dX12_tellLaw_75 h (fun σ5 h => ?_)
      refine a_aload_n C dX12_tellLaw_76 (i := 0) rfl rfl ?_
      refine p_callVv C (As := []) (i := 236) kd_236 (hid 236 (by decide)) ⟨_, _, rfl⟩ (by decide) h (fun _ e => Z_X12_expression hid e) mi_X12_expression ml_RX12_278 rfl rfl (Nat.le_of_ble_eq_true rfl) (Nat.le_of_ble_eq_true rfl) (Nat.le_of_ble_eq_true rfl) dX12_tellLaw_77 (fun σ6 h => ?_)
      refine a_aload_n C dX12_tellLaw_80 (i := 0) rfl rfl ?_
      refine a_bipush C dX12_tellLaw_81 (v := 13) rfl ?_
      refine p_callVv C (As := [.int 13]) (i := 236) kd_236 (hid 236 (by decide)) ⟨_, _, rfl⟩ (by decide) h (fun _ e => Z_X12_must hid e) mi_X12_must ml_RX12_249 rfl rfl (Nat.le_of_ble_eq_true rfl) (Nat.le_of_ble_eq_true rfl) (Nat.le_of_ble_eq_true rfl) dX12_tellLaw_83 (fun σ8 h => ?_)
      refine a_aload_n C dX12_tellLaw_86 (i := 0) rfl rfl ?_
      refine a_get C fl_RX12_83 (i := 236) kd_236 (hid 236 (by decide)) (v := .ref (ad 258)) rfl dX12_tellLaw_87 ?_
      refine a_aload_n C dX12_tellLaw_90 (i := 0) rfl rfl ?_
      refine a_get C fl_RX12_230 (i := 236) kd_236 (hid 236 (by decide)) (v := .int (σ8.1 236 33)) rfl dX12_tellLaw_91 ?_
      refine a_aload_n C dX12_tellLaw_94 (i := 0) rfl rfl ?_
      refine a_get C fl_RX12_233 (i := 236) kd_236 (hid 236 (by decide)) (v := .int (σ8.1 236 39)) rfl dX12_tellLaw_95 ?_
      refine p_iast C (i := 258) (show rowOK 258 from ⟨kd_258, by decide⟩) hid (by rw [al_258]; rfl) dX12_tellLaw_98 h (fun σ10 h => ?_)
      refine a_aload_n C dX12_tellLaw_99 (i := 0) rfl rfl ?_
      refine a_get C fl_RX12_191 (i := 236) kd_236 (hid 236 (by decide)) (v := .int (σ10.1 236 13)) rfl dX12_tellLaw_100 ?_
      refine p_if_ne C (X := (σ10.1 236 13).toInt) rfl dX12_tellLaw_103 (tgt := 110) rfl h (fun h => ?_) (fun h => ?_)
      ·
        exact j110 k12 hk12 _ _ _ _ h
      ·
        refine a_aload_n C dX12_tellLaw_106 (i := 0) rfl rfl ?_
        refine p_callVv C (As := []) (i := 236) kd_236 (hid 236 (by decide)) ⟨_, _, rfl⟩ (by decide) h (fun _ e => Z_X12_expression hid e) mi_X12_expression ml_RX12_278 rfl rfl (Nat.le_of_ble_eq_true rfl) (Nat.le_of_ble_eq_true rfl) (Nat.le_of_ble_eq_true rfl) dX12_tellLaw_107 (fun σ11 h => ?_)
        exact j110 k12 hk12 _ _ _ _ h
    ·
      exact a_vret Rt dX12_tellLaw_45 (retv_eq (h.trans (congrArg some hR.symm)))
  have j12 : ∀ (n : Nat) (y1 : Int32) (y2 : Int32) (y3 : Int32) (σ : HS), f_X12_tellLaw_12 n y1 y2 y3 σ = some R → AW ids ad ca Γ 12 [some (.ref (ad 236)), some (.int y1), some (.int y2), some (.int y3)] [] σ := by
    intro n
    induction n with
    | zero => intro y1 y2 y3 σ h; exact nn h
    | succ n ih =>
      intro y1 y2 y3 σ h
      have h : b_X12_tellLaw_12 (f_X12_tellLaw_12 n) y1 y2 y3 σ = some R := h
      unfold b_X12_tellLaw_12 at h
      refine a_aload_n C dX12_tellLaw_12 (i := 0) rfl rfl ?_
      refine a_get C fl_RX12_191 (i := 236) kd_236 (hid 236 (by decide)) (v := .int (σ.1 236 13)) rfl dX12_tellLaw_13 ?_
      refine p_if_ne C (X := (σ.1 236 13).toInt) rfl dX12_tellLaw_16 (tgt := 129) rfl h (fun h => ?_) (fun h => ?_)
      ·
        refine AW.sub (vs' := [some (.ref (ad 236)), some (.int y1), some (.int y2), none]) (lsub_of (by simp [lsubB])) ?_
        exact j129 _ _ _ h
      ·
        refine a_aload_n C dX12_tellLaw_19 (i := 0) rfl rfl ?_
        refine a_bipush C dX12_tellLaw_20 (v := 28) rfl ?_
        refine p_callVi C (As := [.int 28]) (i := 236) kd_236 (hid 236 (by decide)) ⟨_, _, rfl⟩ (by decide) h (fun _ _ e => Z_X12_is hid e) mi_X12_is ml_RX12_209 rfl rfl (Nat.le_of_ble_eq_true rfl) (Nat.le_of_ble_eq_true rfl) (Nat.le_of_ble_eq_true rfl) dX12_tellLaw_22 (fun r2 σ1 h => ?_)
        refine p_if_eq C (X := r2.toInt) rfl dX12_tellLaw_25 (tgt := 129) rfl h (fun h => ?_) (fun h => ?_)
        ·
          refine AW.sub (vs' := [some (.ref (ad 236)), some (.int y1), some (.int y2), none]) (lsub_of (by simp [lsubB])) ?_
          exact j129 _ _ _ h
        ·
          refine a_iload_n C dX12_tellLaw_28 (i := 3) rfl rfl ?_
          refine a_iconst C dX12_tellLaw_29 (v := 4) rfl ?_
          refine p_ic_ne C (X := y3.toInt) (Y := 4) rfl (by decide) dX12_tellLaw_30 (tgt := 38) rfl h (fun h => ?_) (fun h => ?_)
          ·
            exact j38 (f_X12_tellLaw_12 n) (fun y1 y2 y3 σ h => ih y1 y2 y3 σ h) _ _ _ _ h
          ·
            refine a_aload_n C dX12_tellLaw_33 (i := 0) rfl rfl ?_
            refine a_iconst C dX12_tellLaw_34 (v := 2) rfl ?_
            refine p_callVv C (As := [.int 2]) (i := 236) kd_236 (hid 236 (by decide)) ⟨_, _, rfl⟩ (by decide) h (fun _ e => Z_X12_fail hid e) mi_X12_fail ml_RX12_206 rfl rfl (Nat.le_of_ble_eq_true rfl) (Nat.le_of_ble_eq_true rfl) (Nat.le_of_ble_eq_true rfl) dX12_tellLaw_35 (fun σ3 h => ?_)
            exact j38 (f_X12_tellLaw_12 n) (fun y1 y2 y3 σ h => ih y1 y2 y3 σ h) _ _ _ _ h
  refine a_aload_n C dX12_tellLaw_0 (i := 0) rfl rfl ?_
  refine a_iconst C dX12_tellLaw_1 (v := 5) rfl ?_
  refine p_callVv C (As := [.int 5]) (i := 236) kd_236 (hid 236 (by decide)) ⟨_, _, rfl⟩ (by decide) h (fun _ e => Z_X12_must hid e) mi_X12_must ml_RX12_249 rfl rfl (Nat.le_of_ble_eq_true rfl) (Nat.le_of_ble_eq_true rfl) (Nat.le_of_ble_eq_true rfl) dX12_tellLaw_2 (fun σ1 h => ?_)
  refine a_aload_n C dX12_tellLaw_5 (i := 0) rfl rfl ?_
  refine a_get C fl_RX12_230 (i := 236) kd_236 (hid 236 (by decide)) (v := .int (σ1.1 236 33)) rfl dX12_tellLaw_6 ?_
  refine p_istore_n C (fun z3 => [some (.ref (ad 236)), some (.int x1), some (.int z3), none]) dX12_tellLaw_9 (i := 2) rfl (by decide) rfl (fun _ => rfl) h (fun z3 h => ?_)
  refine a_iconst C dX12_tellLaw_10 (v := 0) rfl ?_
  refine a_istore_n C dX12_tellLaw_11 (i := 3) rfl (by decide) rfl (vs1 := [some (.ref (ad 236)), some (.int x1), some (.int z3), some (.int 0)]) rfl ?_
  exact j12 _ _ _ _ _ h
set_option maxHeartbeats 4000000 in
set_option maxRecDepth 100000 in
theorem Z_X12_tellOne {l : Launch} {D : va_G} {ids : List Nat} {ad : Nat → Nat} {ca : Nat → ClassId} {σ : HS} {s0 : HS} (hid : ∀ i, i < 277 → i ∈ ids) (h : f_X12_tellOne σ = some s0) : Kv l D ids ad ca yX12_tellOne cX12_tellOne 2 6 126 [.ref (ad 236)] σ (fun σ1 => σ1 = s0) := by
  obtain ⟨R, hR⟩ : ∃ R, s0 = R := ⟨_, rfl⟩
  replace h := h.trans (congrArg some hR)
  refine Kv.of (by decide) (Nat.le_of_ble_eq_true rfl) 1 (fun Γ C Rt => ?_)
  show AW ids ad ca Γ 0 [some (.ref (ad 236)), none] [] σ
  unfold f_X12_tellOne at h
  have j188 : ∀ (y1 : Int32) (σ : HS), f_X12_tellOne_188 y1 σ = some R → AW ids ad ca Γ 188 [some (.ref (ad 236)), some (.int y1)] [] σ := by
    intro y1 σ h
    unfold f_X12_tellOne_188 at h
    refine a_aload_n C dX12_tellOne_188 (i := 0) rfl rfl ?_
    refine a_get C fl_RX12_191 (i := 236) kd_236 (hid 236 (by decide)) (v := .int (σ.1 236 13)) rfl dX12_tellOne_189 ?_
    refine p_if_le C (X := (σ.1 236 13).toInt) rfl dX12_tellOne_192 (tgt := 196) rfl h (fun h => ?_) (fun h => ?_)
    ·
      refine a_aload_n C dX12_tellOne_196 (i := 0) rfl rfl ?_
      refine p_callVv C (As := []) (i := 236) kd_236 (hid 236 (by decide)) ⟨_, _, rfl⟩ (by decide) h (fun _ e => Z_X12_goesOn hid e) mi_X12_goesOn ml_RX12_212 rfl rfl (Nat.le_of_ble_eq_true rfl) (Nat.le_of_ble_eq_true rfl) (Nat.le_of_ble_eq_true rfl) dX12_tellOne_197 (fun σ1 h => ?_)
      refine a_aload_n C dX12_tellOne_200 (i := 0) rfl rfl ?_
      refine a_iload_n C dX12_tellOne_201 (i := 1) rfl rfl ?_
      refine p_callVv C (As := [.int y1]) (i := 236) kd_236 (hid 236 (by decide)) ⟨_, _, rfl⟩ (by decide) h (fun _ e => Z_X12_tellLaw hid e) mi_X12_tellLaw ml_RX12_265 rfl rfl (Nat.le_of_ble_eq_true rfl) (Nat.le_of_ble_eq_true rfl) (Nat.le_of_ble_eq_true rfl) dX12_tellOne_202 (fun σ3 h => ?_)
      exact a_vret Rt dX12_tellOne_205 (retv_eq (h.trans (congrArg some hR.symm)))
    ·
      exact a_vret Rt dX12_tellOne_195 (retv_eq (h.trans (congrArg some hR.symm)))
  have j183 : ∀ (y1 : Int32) (σ : HS), f_X12_tellOne_183 y1 σ = some R → AW ids ad ca Γ 183 [some (.ref (ad 236)), some (.int y1)] [] σ := by
    intro y1 σ h
    unfold f_X12_tellOne_183 at h
    refine a_aload_n C dX12_tellOne_183 (i := 0) rfl rfl ?_
    refine a_iconst C dX12_tellOne_184 (v := 1) rfl ?_
    refine p_callVv C (As := [.int 1]) (i := 236) kd_236 (hid 236 (by decide)) ⟨_, _, rfl⟩ (by decide) h (fun _ e => Z_X12_fail hid e) mi_X12_fail ml_RX12_206 rfl rfl (Nat.le_of_ble_eq_true rfl) (Nat.le_of_ble_eq_true rfl) (Nat.le_of_ble_eq_true rfl) dX12_tellOne_185 (fun σ1 h => ?_)
    exact j188 _ _ h
  refine a_aload_n C dX12_tellOne_0 (i := 0) rfl rfl ?_
  refine a_get C fl_RX12_20 (i := 236) kd_236 (hid 236 (by decide)) (v := .ref (ad 239)) rfl dX12_tellOne_1 ?_
  refine a_aload_n C dX12_tellOne_4 (i := 0) rfl rfl ?_
  refine a_get C fl_RX12_194 (i := 236) kd_236 (hid 236 (by decide)) (v := .int (σ.1 236 11)) rfl dX12_tellOne_5 ?_
  refine p_iald C (i := 239) (show rowOK 239 from ⟨kd_239, by decide⟩) hid (by rw [al_239]; rfl) dX12_tellOne_8 h (fun h => ?_)
  refine ite_k h (fun c1 h => ?_) (fun c1 h => ?_)
  ·
    refine a_tableIn C dX12_tellOne_9 (by omega) (by omega) (by rw [c1]; rfl) (tgt := 56) rfl ?_
    refine a_aload_n C dX12_tellOne_56 (i := 0) rfl rfl ?_
    refine a_aload_n C dX12_tellOne_57 (i := 0) rfl rfl ?_
    refine a_get C fl_RX12_43 (i := 236) kd_236 (hid 236 (by decide)) (v := .ref (ad 245)) rfl dX12_tellOne_58 ?_
    refine a_aload_n C dX12_tellOne_61 (i := 0) rfl rfl ?_
    refine a_get C fl_RX12_224 (i := 236) kd_236 (hid 236 (by decide)) (v := .int (σ.1 236 19)) rfl dX12_tellOne_62 ?_
    refine p_iald C (i := 245) (show rowOK 245 from ⟨kd_245, by decide⟩) hid (by rw [al_245]; rfl) dX12_tellOne_65 h (fun h => ?_)
    refine a_bipush C dX12_tellOne_66 (v := 7) rfl ?_
    refine p_callVv C (As := [.int (σ.1 245 (σ.1 236 19).toInt.toNat), .int 7]) (i := 236) kd_236 (hid 236 (by decide)) ⟨_, _, rfl⟩ (by decide) h (fun _ e => Z_X12_roomFor hid e) mi_X12_roomFor ml_RX12_252 rfl rfl (Nat.le_of_ble_eq_true rfl) (Nat.le_of_ble_eq_true rfl) (Nat.le_of_ble_eq_true rfl) dX12_tellOne_68 (fun σ1 h => ?_)
    refine a_aload_n C dX12_tellOne_71 (i := 0) rfl rfl ?_
    refine a_get C fl_RX12_191 (i := 236) kd_236 (hid 236 (by decide)) (v := .int (σ1.1 236 13)) rfl dX12_tellOne_72 ?_
    refine p_if_ne C (X := (σ1.1 236 13).toInt) rfl dX12_tellOne_75 (tgt := 205) rfl h (fun h => ?_) (fun h => ?_)
    ·
      exact a_vret Rt dX12_tellOne_205 (retv_eq (h.trans (congrArg some hR.symm)))
    ·
      refine a_aload_n C dX12_tellOne_78 (i := 0) rfl rfl ?_
      refine p_callVv C (As := []) (i := 236) kd_236 (hid 236 (by decide)) ⟨_, _, rfl⟩ (by decide) h (fun _ e => Z_X12_tellThing hid e) mi_X12_tellThing ml_RX12_256 rfl rfl (Nat.le_of_ble_eq_true rfl) (Nat.le_of_ble_eq_true rfl) (Nat.le_of_ble_eq_true rfl) dX12_tellOne_79 (fun σ3 h => ?_)
      refine a_goto C dX12_tellOne_82 (tgt := 205) rfl ?_
      exact a_vret Rt dX12_tellOne_205 (retv_eq (h.trans (congrArg some hR.symm)))
  ·
    refine ite_k h (fun c2 h => ?_) (fun c2 h => ?_)
    ·
      refine a_tableIn C dX12_tellOne_9 (by omega) (by omega) (by rw [c2]; rfl) (tgt := 85) rfl ?_
      refine a_aload_n C dX12_tellOne_85 (i := 0) rfl rfl ?_
      refine a_aload_n C dX12_tellOne_86 (i := 0) rfl rfl ?_
      refine a_get C fl_RX12_55 (i := 236) kd_236 (hid 236 (by decide)) (v := .ref (ad 249)) rfl dX12_tellOne_87 ?_
      refine a_aload_n C dX12_tellOne_90 (i := 0) rfl rfl ?_
      refine a_get C fl_RX12_224 (i := 236) kd_236 (hid 236 (by decide)) (v := .int (σ.1 236 19)) rfl dX12_tellOne_91 ?_
      refine p_iald C (i := 249) (show rowOK 249 from ⟨kd_249, by decide⟩) hid (by rw [al_249]; rfl) dX12_tellOne_94 h (fun h => ?_)
      refine a_iconst C dX12_tellOne_95 (v := 5) rfl ?_
      refine p_callVv C (As := [.int (σ.1 249 (σ.1 236 19).toInt.toNat), .int 5]) (i := 236) kd_236 (hid 236 (by decide)) ⟨_, _, rfl⟩ (by decide) h (fun _ e => Z_X12_roomFor hid e) mi_X12_roomFor ml_RX12_252 rfl rfl (Nat.le_of_ble_eq_true rfl) (Nat.le_of_ble_eq_true rfl) (Nat.le_of_ble_eq_true rfl) dX12_tellOne_96 (fun σ5 h => ?_)
      refine a_aload_n C dX12_tellOne_99 (i := 0) rfl rfl ?_
      refine a_get C fl_RX12_191 (i := 236) kd_236 (hid 236 (by decide)) (v := .int (σ5.1 236 13)) rfl dX12_tellOne_100 ?_
      refine p_if_ne C (X := (σ5.1 236 13).toInt) rfl dX12_tellOne_103 (tgt := 205) rfl h (fun h => ?_) (fun h => ?_)
      ·
        exact a_vret Rt dX12_tellOne_205 (retv_eq (h.trans (congrArg some hR.symm)))
      ·
        refine a_aload_n C dX12_tellOne_106 (i := 0) rfl rfl ?_
        refine p_callVv C (As := []) (i := 236) kd_236 (hid 236 (by decide)) ⟨_, _, rfl⟩ (by decide) h (fun _ e => Z_X12_tellPattern hid e) mi_X12_tellPattern ml_RX12_259 rfl rfl (Nat.le_of_ble_eq_true rfl) (Nat.le_of_ble_eq_true rfl) (Nat.le_of_ble_eq_true rfl) dX12_tellOne_107 (fun σ7 h => ?_)
        refine a_goto C dX12_tellOne_110 (tgt := 205) rfl ?_
        exact a_vret Rt dX12_tellOne_205 (retv_eq (h.trans (congrArg some hR.symm)))
    ·
      refine ite_k h (fun c3 h => ?_) (fun c3 h => ?_)
      ·
        refine a_tableIn C dX12_tellOne_9 (by omega) (by omega) (by rw [c3]; rfl) (tgt := 113) rfl ?_
        refine a_aload_n C dX12_tellOne_113 (i := 0) rfl rfl ?_
        refine a_get C fl_RX12_64 (i := 236) kd_236 (hid 236 (by decide)) (v := .ref (ad 252)) rfl dX12_tellOne_114 ?_
        refine a_aload_n C dX12_tellOne_117 (i := 0) rfl rfl ?_
        refine a_get C fl_RX12_224 (i := 236) kd_236 (hid 236 (by decide)) (v := .int (σ.1 236 19)) rfl dX12_tellOne_118 ?_
        refine a_aload_n C dX12_tellOne_121 (i := 0) rfl rfl ?_
        refine a_iconst C dX12_tellOne_122 (v := 0) rfl ?_
        refine a_bipush C dX12_tellOne_123 (v := 99) rfl ?_
        refine p_callVi C (As := [.int 0, .int 99]) (i := 236) kd_236 (hid 236 (by decide)) ⟨_, _, rfl⟩ (by decide) h (fun _ _ e => Z_X12_toldInt hid e) mi_X12_toldInt ml_RX12_262 rfl rfl (Nat.le_of_ble_eq_true rfl) (Nat.le_of_ble_eq_true rfl) (Nat.le_of_ble_eq_true rfl) dX12_tellOne_125 (fun r10 σ9 h => ?_)
        refine p_iast C (i := 252) (show rowOK 252 from ⟨kd_252, by decide⟩) hid (by rw [al_252]; rfl) dX12_tellOne_128 h (fun σ11 h => ?_)
        refine a_goto C dX12_tellOne_129 (tgt := 205) rfl ?_
        exact a_vret Rt dX12_tellOne_205 (retv_eq (h.trans (congrArg some hR.symm)))
      ·
        refine ite_k h (fun c4 h => ?_) (fun c4 h => ?_)
        ·
          refine a_tableIn C dX12_tellOne_9 (by omega) (by omega) (by rw [c4]; rfl) (tgt := 132) rfl ?_
          refine a_aload_n C dX12_tellOne_132 (i := 0) rfl rfl ?_
          refine a_get C fl_RX12_67 (i := 236) kd_236 (hid 236 (by decide)) (v := .ref (ad 253)) rfl dX12_tellOne_133 ?_
          refine a_aload_n C dX12_tellOne_136 (i := 0) rfl rfl ?_
          refine a_get C fl_RX12_224 (i := 236) kd_236 (hid 236 (by decide)) (v := .int (σ.1 236 19)) rfl dX12_tellOne_137 ?_
          refine a_aload_n C dX12_tellOne_140 (i := 0) rfl rfl ?_
          refine a_iconst C dX12_tellOne_141 (v := 0) rfl ?_
          refine a_sipush C dX12_tellOne_142 (v := 9999) rfl ?_
          refine p_callVi C (As := [.int 0, .int 9999]) (i := 236) kd_236 (hid 236 (by decide)) ⟨_, _, rfl⟩ (by decide) h (fun _ _ e => Z_X12_toldInt hid e) mi_X12_toldInt ml_RX12_262 rfl rfl (Nat.le_of_ble_eq_true rfl) (Nat.le_of_ble_eq_true rfl) (Nat.le_of_ble_eq_true rfl) dX12_tellOne_145 (fun r13 σ12 h => ?_)
          refine p_iast C (i := 253) (show rowOK 253 from ⟨kd_253, by decide⟩) hid (by rw [al_253]; rfl) dX12_tellOne_148 h (fun σ14 h => ?_)
          refine a_goto C dX12_tellOne_149 (tgt := 205) rfl ?_
          exact a_vret Rt dX12_tellOne_205 (retv_eq (h.trans (congrArg some hR.symm)))
        ·
          by_cases cc22 : (σ.1 239 (σ.1 236 11).toInt.toNat).toInt = 22
          ·
            refine a_tableIn C dX12_tellOne_9 (by omega) (by omega) (by rw [cc22]; rfl) (tgt := 152) rfl ?_
            refine a_aload_n C dX12_tellOne_152 (i := 0) rfl rfl ?_
            refine a_get C fl_RX12_20 (i := 236) kd_236 (hid 236 (by decide)) (v := .ref (ad 239)) rfl dX12_tellOne_153 ?_
            refine a_aload_n C dX12_tellOne_156 (i := 0) rfl rfl ?_
            refine a_get C fl_RX12_194 (i := 236) kd_236 (hid 236 (by decide)) (v := .int (σ.1 236 11)) rfl dX12_tellOne_157 ?_
            refine p_iald C (i := 239) (show rowOK 239 from ⟨kd_239, by decide⟩) hid (by rw [al_239]; rfl) dX12_tellOne_160 h (fun h => ?_)
            refine a_bipush C dX12_tellOne_161 (v := 22) rfl ?_
            refine a_isub C dX12_tellOne_163 ?_
            refine p_istore_n C (fun z16 => [some (.ref (ad 236)), some (.int z16)]) dX12_tellOne_164 (i := 1) rfl (by decide) rfl (fun _ => rfl) h (fun z16 h => ?_)
            refine a_iload_n C dX12_tellOne_165 (i := 1) rfl rfl ?_
            refine p_if_lt C (X := z16.toInt) rfl dX12_tellOne_166 (tgt := 183) rfl h (fun h => ?_) (fun h => ?_)
            ·
              exact j183 _ _ h
            ·
              refine a_aload_n C dX12_tellOne_169 (i := 0) rfl rfl ?_
              refine a_get C fl_RX12_20 (i := 236) kd_236 (hid 236 (by decide)) (v := .ref (ad 239)) rfl dX12_tellOne_170 ?_
              refine a_aload_n C dX12_tellOne_173 (i := 0) rfl rfl ?_
              refine a_get C fl_RX12_194 (i := 236) kd_236 (hid 236 (by decide)) (v := .int (σ.1 236 11)) rfl dX12_tellOne_174 ?_
              refine p_iald C (i := 239) (show rowOK 239 from ⟨kd_239, by decide⟩) hid (by rw [al_239]; rfl) dX12_tellOne_177 h (fun h => ?_)
              refine a_bipush C dX12_tellOne_178 (v := 25) rfl ?_
              refine p_ic_le C (X := (σ.1 239 (σ.1 236 11).toInt.toNat).toInt) (Y := 25) rfl (by decide) dX12_tellOne_180 (tgt := 188) rfl h (fun h => ?_) (fun h => ?_)
              ·
                exact j188 _ _ h
              ·
                exact j183 _ _ h
          by_cases cc23 : (σ.1 239 (σ.1 236 11).toInt.toNat).toInt = 23
          ·
            refine a_tableIn C dX12_tellOne_9 (by omega) (by omega) (by rw [cc23]; rfl) (tgt := 152) rfl ?_
            refine a_aload_n C dX12_tellOne_152 (i := 0) rfl rfl ?_
            refine a_get C fl_RX12_20 (i := 236) kd_236 (hid 236 (by decide)) (v := .ref (ad 239)) rfl dX12_tellOne_153 ?_
            refine a_aload_n C dX12_tellOne_156 (i := 0) rfl rfl ?_
            refine a_get C fl_RX12_194 (i := 236) kd_236 (hid 236 (by decide)) (v := .int (σ.1 236 11)) rfl dX12_tellOne_157 ?_
            refine p_iald C (i := 239) (show rowOK 239 from ⟨kd_239, by decide⟩) hid (by rw [al_239]; rfl) dX12_tellOne_160 h (fun h => ?_)
            refine a_bipush C dX12_tellOne_161 (v := 22) rfl ?_
            refine a_isub C dX12_tellOne_163 ?_
            refine p_istore_n C (fun z17 => [some (.ref (ad 236)), some (.int z17)]) dX12_tellOne_164 (i := 1) rfl (by decide) rfl (fun _ => rfl) h (fun z17 h => ?_)
            refine a_iload_n C dX12_tellOne_165 (i := 1) rfl rfl ?_
            refine p_if_lt C (X := z17.toInt) rfl dX12_tellOne_166 (tgt := 183) rfl h (fun h => ?_) (fun h => ?_)
            ·
              exact j183 _ _ h
            ·
              refine a_aload_n C dX12_tellOne_169 (i := 0) rfl rfl ?_
              refine a_get C fl_RX12_20 (i := 236) kd_236 (hid 236 (by decide)) (v := .ref (ad 239)) rfl dX12_tellOne_170 ?_
              refine a_aload_n C dX12_tellOne_173 (i := 0) rfl rfl ?_
              refine a_get C fl_RX12_194 (i := 236) kd_236 (hid 236 (by decide)) (v := .int (σ.1 236 11)) rfl dX12_tellOne_174 ?_
              refine p_iald C (i := 239) (show rowOK 239 from ⟨kd_239, by decide⟩) hid (by rw [al_239]; rfl) dX12_tellOne_177 h (fun h => ?_)
              refine a_bipush C dX12_tellOne_178 (v := 25) rfl ?_
              refine p_ic_le C (X := (σ.1 239 (σ.1 236 11).toInt.toNat).toInt) (Y := 25) rfl (by decide) dX12_tellOne_180 (tgt := 188) rfl h (fun h => ?_) (fun h => ?_)
              ·
                exact j188 _ _ h
              ·
                exact j183 _ _ h
          by_cases cc24 : (σ.1 239 (σ.1 236 11).toInt.toNat).toInt = 24
          ·
            refine a_tableIn C dX12_tellOne_9 (by omega) (by omega) (by rw [cc24]; rfl) (tgt := 152) rfl ?_
            refine a_aload_n C dX12_tellOne_152 (i := 0) rfl rfl ?_
            refine a_get C fl_RX12_20 (i := 236) kd_236 (hid 236 (by decide)) (v := .ref (ad 239)) rfl dX12_tellOne_153 ?_
            refine a_aload_n C dX12_tellOne_156 (i := 0) rfl rfl ?_
            refine a_get C fl_RX12_194 (i := 236) kd_236 (hid 236 (by decide)) (v := .int (σ.1 236 11)) rfl dX12_tellOne_157 ?_
            refine p_iald C (i := 239) (show rowOK 239 from ⟨kd_239, by decide⟩) hid (by rw [al_239]; rfl) dX12_tellOne_160 h (fun h => ?_)
            refine a_bipush C dX12_tellOne_161 (v := 22) rfl ?_
            refine a_isub C dX12_tellOne_163 ?_
            refine p_istore_n C (fun z18 => [some (.ref (ad 236)), some (.int z18)]) dX12_tellOne_164 (i := 1) rfl (by decide) rfl (fun _ => rfl) h (fun z18 h => ?_)
            refine a_iload_n C dX12_tellOne_165 (i := 1) rfl rfl ?_
            refine p_if_lt C (X := z18.toInt) rfl dX12_tellOne_166 (tgt := 183) rfl h (fun h => ?_) (fun h => ?_)
            ·
              exact j183 _ _ h
            ·
              refine a_aload_n C dX12_tellOne_169 (i := 0) rfl rfl ?_
              refine a_get C fl_RX12_20 (i := 236) kd_236 (hid 236 (by decide)) (v := .ref (ad 239)) rfl dX12_tellOne_170 ?_
              refine a_aload_n C dX12_tellOne_173 (i := 0) rfl rfl ?_
              refine a_get C fl_RX12_194 (i := 236) kd_236 (hid 236 (by decide)) (v := .int (σ.1 236 11)) rfl dX12_tellOne_174 ?_
              refine p_iald C (i := 239) (show rowOK 239 from ⟨kd_239, by decide⟩) hid (by rw [al_239]; rfl) dX12_tellOne_177 h (fun h => ?_)
              refine a_bipush C dX12_tellOne_178 (v := 25) rfl ?_
              refine p_ic_le C (X := (σ.1 239 (σ.1 236 11).toInt.toNat).toInt) (Y := 25) rfl (by decide) dX12_tellOne_180 (tgt := 188) rfl h (fun h => ?_) (fun h => ?_)
              ·
                exact j188 _ _ h
              ·
                exact j183 _ _ h
          by_cases cc25 : (σ.1 239 (σ.1 236 11).toInt.toNat).toInt = 25
          ·
            refine a_tableIn C dX12_tellOne_9 (by omega) (by omega) (by rw [cc25]; rfl) (tgt := 152) rfl ?_
            refine a_aload_n C dX12_tellOne_152 (i := 0) rfl rfl ?_
            refine a_get C fl_RX12_20 (i := 236) kd_236 (hid 236 (by decide)) (v := .ref (ad 239)) rfl dX12_tellOne_153 ?_
            refine a_aload_n C dX12_tellOne_156 (i := 0) rfl rfl ?_
            refine a_get C fl_RX12_194 (i := 236) kd_236 (hid 236 (by decide)) (v := .int (σ.1 236 11)) rfl dX12_tellOne_157 ?_
            refine p_iald C (i := 239) (show rowOK 239 from ⟨kd_239, by decide⟩) hid (by rw [al_239]; rfl) dX12_tellOne_160 h (fun h => ?_)
            refine a_bipush C dX12_tellOne_161 (v := 22) rfl ?_
            refine a_isub C dX12_tellOne_163 ?_
            refine p_istore_n C (fun z19 => [some (.ref (ad 236)), some (.int z19)]) dX12_tellOne_164 (i := 1) rfl (by decide) rfl (fun _ => rfl) h (fun z19 h => ?_)
            refine a_iload_n C dX12_tellOne_165 (i := 1) rfl rfl ?_
            refine p_if_lt C (X := z19.toInt) rfl dX12_tellOne_166 (tgt := 183) rfl h (fun h => ?_) (fun h => ?_)
            ·
              exact j183 _ _ h
            ·
              refine a_aload_n C dX12_tellOne_169 (i := 0) rfl rfl ?_
              refine a_get C fl_RX12_20 (i := 236) kd_236 (hid 236 (by decide)) (v := .ref (ad 239)) rfl dX12_tellOne_170 ?_
              refine a_aload_n C dX12_tellOne_173 (i := 0) rfl rfl ?_
              refine a_get C fl_RX12_194 (i := 236) kd_236 (hid 236 (by decide)) (v := .int (σ.1 236 11)) rfl dX12_tellOne_174 ?_
              refine p_iald C (i := 239) (show rowOK 239 from ⟨kd_239, by decide⟩) hid (by rw [al_239]; rfl) dX12_tellOne_177 h (fun h => ?_)
              refine a_bipush C dX12_tellOne_178 (v := 25) rfl ?_
              refine p_ic_le C (X := (σ.1 239 (σ.1 236 11).toInt.toNat).toInt) (Y := 25) rfl (by decide) dX12_tellOne_180 (tgt := 188) rfl h (fun h => ?_) (fun h => ?_)
              ·
                exact j188 _ _ h
              ·
                exact j183 _ _ h
          refine a_tableOut C dX12_tellOne_9 (by omega) (tgt := 152) rfl ?_
          refine a_aload_n C dX12_tellOne_152 (i := 0) rfl rfl ?_
          refine a_get C fl_RX12_20 (i := 236) kd_236 (hid 236 (by decide)) (v := .ref (ad 239)) rfl dX12_tellOne_153 ?_
          refine a_aload_n C dX12_tellOne_156 (i := 0) rfl rfl ?_
          refine a_get C fl_RX12_194 (i := 236) kd_236 (hid 236 (by decide)) (v := .int (σ.1 236 11)) rfl dX12_tellOne_157 ?_
          refine p_iald C (i := 239) (show rowOK 239 from ⟨kd_239, by decide⟩) hid (by rw [al_239]; rfl) dX12_tellOne_160 h (fun h => ?_)
          refine a_bipush C dX12_tellOne_161 (v := 22) rfl ?_
          refine a_isub C dX12_tellOne_163 ?_
          refine p_istore_n C (fun z15 => [some (.ref (ad 236)), some (.int z15)]) dX12_tellOne_164 (i := 1) rfl (by decide) rfl (fun _ => rfl) h (fun z15 h => ?_)
          refine a_iload_n C dX12_tellOne_165 (i := 1) rfl rfl ?_
          refine p_if_lt C (X := z15.toInt) rfl dX12_tellOne_166 (tgt := 183) rfl h (fun h => ?_) (fun h => ?_)
          ·
            exact j183 _ _ h
          ·
            refine a_aload_n C dX12_tellOne_169 (i := 0) rfl rfl ?_
            refine a_get C fl_RX12_20 (i := 236) kd_236 (hid 236 (by decide)) (v := .ref (ad 239)) rfl dX12_tellOne_170 ?_
            refine a_aload_n C dX12_tellOne_173 (i := 0) rfl rfl ?_
            refine a_get C fl_RX12_194 (i := 236) kd_236 (hid 236 (by decide)) (v := .int (σ.1 236 11)) rfl dX12_tellOne_174 ?_
            refine p_iald C (i := 239) (show rowOK 239 from ⟨kd_239, by decide⟩) hid (by rw [al_239]; rfl) dX12_tellOne_177 h (fun h => ?_)
            refine a_bipush C dX12_tellOne_178 (v := 25) rfl ?_
            refine p_ic_le C (X := (σ.1 239 (σ.1 236 11).toInt.toNat).toInt) (Y := 25) rfl (by decide) dX12_tellOne_180 (tgt := 188) rfl h (fun h => ?_) (fun h => ?_)
            ·
              exact j188 _ _ h
            ·
              exact j183 _ _ h

