set_option maxHeartbeats 4000000 in
set_option maxRecDepth 100000 in
theorem Z_X12_then {l : Launch} {D : va_G} {ids : List Nat} {ad : Nat → Nat} {ca : Nat → ClassId} {σ : HS} {x1 : Int32} {x2 : Int32} {r0 : Int32} {s0 : HS} (hid : ∀ i, i < 277 → i ∈ ids) (h : f_X12_then x1 x2 σ = some (r0, s0)) : Ki l D ids ad ca yX12_then cX12_then 3 .int 6 144 [.ref (ad 236), .int x1, .int x2] σ (fun r σ1 => r = r0 ∧ σ1 = s0) := by
  obtain ⟨R, hR⟩ : ∃ R, (r0, s0) = R := ⟨_, rfl⟩
  replace h := h.trans (congrArg some hR)
  refine Ki.of (by decide) (Nat.le_of_ble_eq_true rfl) 0 (fun Γ C Rt => ?_)
  show AW ids ad ca Γ 0 [some (.ref (ad 236)), some (.int x1), some (.int x2)] [] σ
  unfold f_X12_then at h
  refine a_iload_n C dX12_then_0 (i := 1) rfl rfl ?_
  refine p_callSi C (As := [.int x1]) h (fun _ _ e => Z_X12_isLong hid e) ms_X12_isLong ml_RX12_402 rfl rfl (Nat.le_of_ble_eq_true rfl) (Nat.le_of_ble_eq_true rfl) (Nat.le_of_ble_eq_true rfl) dX12_then_1 (fun r2 σ1 h => ?_)
  refine p_if_eq C (X := r2.toInt) rfl dX12_then_4 (tgt := 16) rfl h (fun h => ?_) (fun h => ?_)
  ·
    refine a_iconst C dX12_then_16 (v := (-1)) rfl ?_
    exact a_iret Rt dX12_then_17 rfl (ret_eq (h.trans (congrArg some hR.symm)))
  ·
    refine a_iload_n C dX12_then_7 (i := 2) rfl rfl ?_
    refine a_iconst C dX12_then_8 (v := 0) rfl ?_
    refine a_iconst C dX12_then_9 (v := 3) rfl ?_
    refine p_callSi C (As := [.int x2, .int 0, .int 3]) h (fun _ _ e => Z_X12_in hid e) ms_X12_in ml_RX12_301 rfl rfl (Nat.le_of_ble_eq_true rfl) (Nat.le_of_ble_eq_true rfl) (Nat.le_of_ble_eq_true rfl) dX12_then_10 (fun r4 σ3 h => ?_)
    refine p_if_ne C (X := r4.toInt) rfl dX12_then_13 (tgt := 18) rfl h (fun h => ?_) (fun h => ?_)
    ·
      refine a_aload_n C dX12_then_18 (i := 0) rfl rfl ?_
      refine p_callVv C (As := []) (i := 236) kd_236 (hid 236 (by decide)) ⟨_, _, rfl⟩ (by decide) h (fun _ e => Z_X12_copies hid e) mi_X12_copies ml_RX12_311 rfl rfl (Nat.le_of_ble_eq_true rfl) (Nat.le_of_ble_eq_true rfl) (Nat.le_of_ble_eq_true rfl) dX12_then_19 (fun σ5 h => ?_)
      refine a_aload_n C dX12_then_22 (i := 0) rfl rfl ?_
      refine a_iload_n C dX12_then_23 (i := 1) rfl rfl ?_
      refine p_callVv C (As := [.int x1]) (i := 236) kd_236 (hid 236 (by decide)) ⟨_, _, rfl⟩ (by decide) h (fun _ e => Z_X12_goes hid e) mi_X12_goes ml_RX12_405 rfl rfl (Nat.le_of_ble_eq_true rfl) (Nat.le_of_ble_eq_true rfl) (Nat.le_of_ble_eq_true rfl) dX12_then_24 (fun σ7 h => ?_)
      refine a_iload_n C dX12_then_27 (i := 2) rfl rfl ?_
      refine ite_k h (fun c1 h => ?_) (fun c1 h => ?_)
      ·
        refine a_tableIn C dX12_then_28 (by omega) (by omega) (by rw [c1]; rfl) (tgt := 56) rfl ?_
        refine a_aload_n C dX12_then_56 (i := 0) rfl rfl ?_
        refine a_get C fl_RX12_110 (i := 236) kd_236 (hid 236 (by decide)) (v := .ref (ad 267)) rfl dX12_then_57 ?_
        refine a_bipush C dX12_then_60 (v := 22) rfl ?_
        refine p_ialdc C (i := 267) 22 (show rowOK 267 from ⟨kd_267, by decide⟩) hid (by decide) (by rw [al_267]; decide) dX12_then_62 ?_
        exact a_iret Rt dX12_then_63 rfl (ret_eq (h.trans (congrArg some hR.symm)))
      ·
        refine ite_k h (fun c2 h => ?_) (fun c2 h => ?_)
        ·
          refine a_tableIn C dX12_then_28 (by omega) (by omega) (by rw [c2]; rfl) (tgt := 64) rfl ?_
          refine a_aload_n C dX12_then_64 (i := 0) rfl rfl ?_
          refine a_iconst C dX12_then_65 (v := 0) rfl ?_
          refine p_callVi C (As := [.int 0]) (i := 236) kd_236 (hid 236 (by decide)) ⟨_, _, rfl⟩ (by decide) h (fun _ _ e => Z_X12_thingsSo hid e) mi_X12_thingsSo ml_RX12_350 rfl rfl (Nat.le_of_ble_eq_true rfl) (Nat.le_of_ble_eq_true rfl) (Nat.le_of_ble_eq_true rfl) dX12_then_66 (fun r10 σ9 h => ?_)
          refine p_callSi C (As := [.int r10]) h (fun _ _ e => Z_X12_bits hid e) ms_X12_bits ml_RX12_353 rfl rfl (Nat.le_of_ble_eq_true rfl) (Nat.le_of_ble_eq_true rfl) (Nat.le_of_ble_eq_true rfl) dX12_then_69 (fun r12 σ11 h => ?_)
          exact a_iret Rt dX12_then_72 rfl (ret_eq (h.trans (congrArg some hR.symm)))
        ·
          refine ite_k h (fun c3 h => ?_) (fun c3 h => ?_)
          ·
            refine a_tableIn C dX12_then_28 (by omega) (by omega) (by rw [c3]; rfl) (tgt := 73) rfl ?_
            refine a_aload_n C dX12_then_73 (i := 0) rfl rfl ?_
            refine a_get C fl_RX12_110 (i := 236) kd_236 (hid 236 (by decide)) (v := .ref (ad 267)) rfl dX12_then_74 ?_
            refine a_bipush C dX12_then_77 (v := 23) rfl ?_
            refine p_ialdc C (i := 267) 23 (show rowOK 267 from ⟨kd_267, by decide⟩) hid (by decide) (by rw [al_267]; decide) dX12_then_79 ?_
            refine a_aload_n C dX12_then_80 (i := 0) rfl rfl ?_
            refine a_get C fl_RX12_107 (i := 236) kd_236 (hid 236 (by decide)) (v := .ref (ad 266)) rfl dX12_then_81 ?_
            refine a_bipush C dX12_then_84 (v := 23) rfl ?_
            refine p_ialdc C (i := 266) 23 (show rowOK 266 from ⟨kd_266, by decide⟩) hid (by decide) (by rw [al_266]; decide) dX12_then_86 ?_
            refine a_isub C dX12_then_87 ?_
            exact a_iret Rt dX12_then_88 rfl (ret_eq (h.trans (congrArg some hR.symm)))
          ·
            refine a_tableOut C dX12_then_28 (by omega) (tgt := 89) rfl ?_
            refine a_aload_n C dX12_then_89 (i := 0) rfl rfl ?_
            refine a_get C fl_RX12_110 (i := 236) kd_236 (hid 236 (by decide)) (v := .ref (ad 267)) rfl dX12_then_90 ?_
            refine a_bipush C dX12_then_93 (v := 25) rfl ?_
            refine p_ialdc C (i := 267) 25 (show rowOK 267 from ⟨kd_267, by decide⟩) hid (by decide) (by rw [al_267]; decide) dX12_then_95 ?_
            refine a_aload_n C dX12_then_96 (i := 0) rfl rfl ?_
            refine a_get C fl_RX12_107 (i := 236) kd_236 (hid 236 (by decide)) (v := .ref (ad 266)) rfl dX12_then_97 ?_
            refine a_bipush C dX12_then_100 (v := 25) rfl ?_
            refine p_ialdc C (i := 266) 25 (show rowOK 266 from ⟨kd_266, by decide⟩) hid (by decide) (by rw [al_266]; decide) dX12_then_102 ?_
            refine a_isub C dX12_then_103 ?_
            exact a_iret Rt dX12_then_104 rfl (ret_eq (h.trans (congrArg some hR.symm)))
    ·
      refine a_iconst C dX12_then_16 (v := (-1)) rfl ?_
      exact a_iret Rt dX12_then_17 rfl (ret_eq (h.trans (congrArg some hR.symm)))
set_option maxHeartbeats 4000000 in
set_option maxRecDepth 100000 in
theorem Z_X12_year {l : Launch} {D : va_G} {ids : List Nat} {ad : Nat → Nat} {ca : Nat → ClassId} {σ : HS} {x1 : Int32} {x2 : Int32} {r0 : Int32} {s0 : HS} (hid : ∀ i, i < 277 → i ∈ ids) (h : f_X12_year x1 x2 σ = some (r0, s0)) : Ki l D ids ad ca yX12_year cX12_year 5 .int 6 144 [.ref (ad 236), .int x1, .int x2] σ (fun r σ1 => r = r0 ∧ σ1 = s0) := by
  obtain ⟨R, hR⟩ : ∃ R, (r0, s0) = R := ⟨_, rfl⟩
  replace h := h.trans (congrArg some hR)
  refine Ki.of (by decide) (Nat.le_of_ble_eq_true rfl) 2 (fun Γ C Rt => ?_)
  show AW ids ad ca Γ 0 [some (.ref (ad 236)), some (.int x1), some (.int x2), none, none] [] σ
  unfold f_X12_year at h
  have j70 : ∀ (k24 : Int32 → Int32 → Int32 → Int32 → HS → Option (Int32 × HS)) (hk24 : ∀ (y1 : Int32) (y2 : Int32) (y3 : Int32) (y4 : Int32) (σ : HS), k24 y1 y2 y3 y4 σ = some R → AW ids ad ca Γ 24 [some (.ref (ad 236)), some (.int y1), some (.int y2), some (.int y3), some (.int y4)] [] σ) (y1 : Int32) (y2 : Int32) (y3 : Int32) (y4 : Int32) (σ : HS), f_X12_year_70 k24 y1 y2 y3 y4 σ = some R → AW ids ad ca Γ 70 [some (.ref (ad 236)), some (.int y1), some (.int y2), some (.int y3), some (.int y4)] [] σ := by
    intro k24 hk24 y1 y2 y3 y4 σ h
    unfold f_X12_year_70 at h
    refine p_iinc C (y := (y4 + 1)) (fun z1 => [some (.ref (ad 236)), some (.int y1), some (.int y2), some (.int y3), some (.int z1)]) dX12_year_70 rfl rfl (by decide) rfl (fun _ => rfl) h (fun z1 h => ?_)
    refine a_goto C dX12_year_73 (tgt := 24) rfl ?_
    exact hk24 _ _ _ _ _ h
  have j24 : ∀ (n : Nat) (y1 : Int32) (y2 : Int32) (y3 : Int32) (y4 : Int32) (σ : HS), f_X12_year_24 n y1 y2 y3 y4 σ = some R → AW ids ad ca Γ 24 [some (.ref (ad 236)), some (.int y1), some (.int y2), some (.int y3), some (.int y4)] [] σ := by
    intro n
    induction n with
    | zero => intro y1 y2 y3 y4 σ h; exact nn h
    | succ n ih =>
      intro y1 y2 y3 y4 σ h
      have h : b_X12_year_24 (f_X12_year_24 n) y1 y2 y3 y4 σ = some R := h
      unfold b_X12_year_24 at h
      refine a_iload C dX12_year_24 rfl ?_
      refine a_iload_n C dX12_year_26 (i := 2) rfl rfl ?_
      refine p_ic_ge C (X := y4.toInt) (Y := y2.toInt) rfl rfl dX12_year_27 (tgt := 76) rfl h (fun h => ?_) (fun h => ?_)
      ·
        refine a_iload_n C dX12_year_76 (i := 3) rfl rfl ?_
        exact a_iret Rt dX12_year_77 rfl (ret_eq (h.trans (congrArg some hR.symm)))
      ·
        refine a_aload_n C dX12_year_30 (i := 0) rfl rfl ?_
        refine p_callVv C (As := []) (i := 236) kd_236 (hid 236 (by decide)) ⟨_, _, rfl⟩ (by decide) h (fun _ e => Z_X12_copies hid e) mi_X12_copies ml_RX12_311 rfl rfl (Nat.le_of_ble_eq_true rfl) (Nat.le_of_ble_eq_true rfl) (Nat.le_of_ble_eq_true rfl) dX12_year_31 (fun σ1 h => ?_)
        refine a_aload_n C dX12_year_34 (i := 0) rfl rfl ?_
        refine a_dup C dX12_year_35 rfl ?_
        refine a_get C fl_RX12_305 (i := 236) kd_236 (hid 236 (by decide)) (v := .int (σ1.1 236 49)) rfl dX12_year_36 ?_
        refine a_iload C dX12_year_39 rfl ?_
        refine a_iadd C dX12_year_41 ?_
        refine p_put C fp_RX12_305 (i := 236) kd_236 (hid 236 (by decide)) rfl rfl dX12_year_42 h (fun σ3 h => ?_)
        refine a_aload_n C dX12_year_45 (i := 0) rfl rfl ?_
        refine a_iload_n C dX12_year_46 (i := 1) rfl rfl ?_
        refine p_callVv C (As := [.int y1]) (i := 236) kd_236 (hid 236 (by decide)) ⟨_, _, rfl⟩ (by decide) h (fun _ e => Z_X12_goes hid e) mi_X12_goes ml_RX12_405 rfl rfl (Nat.le_of_ble_eq_true rfl) (Nat.le_of_ble_eq_true rfl) (Nat.le_of_ble_eq_true rfl) dX12_year_47 (fun σ4 h => ?_)
        refine a_aload_n C dX12_year_50 (i := 0) rfl rfl ?_
        refine a_get C fl_RX12_110 (i := 236) kd_236 (hid 236 (by decide)) (v := .ref (ad 267)) rfl dX12_year_51 ?_
        refine a_bipush C dX12_year_54 (v := 23) rfl ?_
        refine p_ialdc C (i := 267) 23 (show rowOK 267 from ⟨kd_267, by decide⟩) hid (by decide) (by rw [al_267]; decide) dX12_year_56 ?_
        refine a_aload_n C dX12_year_57 (i := 0) rfl rfl ?_
        refine a_get C fl_RX12_107 (i := 236) kd_236 (hid 236 (by decide)) (v := .ref (ad 266)) rfl dX12_year_58 ?_
        refine a_bipush C dX12_year_61 (v := 23) rfl ?_
        refine p_ialdc C (i := 266) 23 (show rowOK 266 from ⟨kd_266, by decide⟩) hid (by decide) (by rw [al_266]; decide) dX12_year_63 ?_
        refine p_ic_ne C (X := (σ4.1 267 23).toInt) (Y := (σ4.1 266 23).toInt) rfl rfl dX12_year_64 (tgt := 70) rfl h (fun h => ?_) (fun h => ?_)
        ·
          exact j70 (f_X12_year_24 n) (fun y1 y2 y3 y4 σ h => ih y1 y2 y3 y4 σ h) _ _ _ _ _ h
        ·
          refine p_iinc C (y := (y3 + 1)) (fun z6 => [some (.ref (ad 236)), some (.int y1), some (.int y2), some (.int z6), some (.int y4)]) dX12_year_67 rfl rfl (by decide) rfl (fun _ => rfl) h (fun z6 h => ?_)
          exact j70 (f_X12_year_24 n) (fun y1 y2 y3 y4 σ h => ih y1 y2 y3 y4 σ h) _ _ _ _ _ h
  refine a_iload_n C dX12_year_0 (i := 1) rfl rfl ?_
  refine p_callSi C (As := [.int x1]) h (fun _ _ e => Z_X12_isLong hid e) ms_X12_isLong ml_RX12_402 rfl rfl (Nat.le_of_ble_eq_true rfl) (Nat.le_of_ble_eq_true rfl) (Nat.le_of_ble_eq_true rfl) dX12_year_1 (fun r2 σ1 h => ?_)
  refine p_if_eq C (X := r2.toInt) rfl dX12_year_4 (tgt := 17) rfl h (fun h => ?_) (fun h => ?_)
  ·
    refine a_iconst C dX12_year_17 (v := (-1)) rfl ?_
    exact a_iret Rt dX12_year_18 rfl (ret_eq (h.trans (congrArg some hR.symm)))
  ·
    refine a_iload_n C dX12_year_7 (i := 2) rfl rfl ?_
    refine a_iconst C dX12_year_8 (v := 1) rfl ?_
    refine a_bipush C dX12_year_9 (v := 20) rfl ?_
    refine p_callSi C (As := [.int x2, .int 1, .int 20]) h (fun _ _ e => Z_X12_in hid e) ms_X12_in ml_RX12_301 rfl rfl (Nat.le_of_ble_eq_true rfl) (Nat.le_of_ble_eq_true rfl) (Nat.le_of_ble_eq_true rfl) dX12_year_11 (fun r4 σ3 h => ?_)
    refine p_if_ne C (X := r4.toInt) rfl dX12_year_14 (tgt := 19) rfl h (fun h => ?_) (fun h => ?_)
    ·
      refine a_iconst C dX12_year_19 (v := 0) rfl ?_
      refine a_istore_n C dX12_year_20 (i := 3) rfl (by decide) rfl (vs1 := [some (.ref (ad 236)), some (.int x1), some (.int x2), some (.int 0), none]) rfl ?_
      refine a_iconst C dX12_year_21 (v := 0) rfl ?_
      refine a_istore C dX12_year_22 (by decide) rfl (vs1 := [some (.ref (ad 236)), some (.int x1), some (.int x2), some (.int 0), some (.int 0)]) rfl ?_
      exact j24 _ _ _ _ _ _ h
    ·
      refine a_iconst C dX12_year_17 (v := (-1)) rfl ?_
      exact a_iret Rt dX12_year_18 rfl (ret_eq (h.trans (congrArg some hR.symm)))
set_option maxHeartbeats 4000000 in
set_option maxRecDepth 100000 in
theorem Z_X12_tell {l : Launch} {D : va_G} {ids : List Nat} {ad : Nat → Nat} {ca : Nat → ClassId} {σ : HS} {x1 : Int32} {x2 : Int32} {r0 : Int32} {s0 : HS} (hid : ∀ i, i < 277 → i ∈ ids) (h : f_X12_tell x1 x2 σ = some (r0, s0)) : Ki l D ids ad ca yX12_tell cX12_tell 3 .int 1 22 [.ref (ad 236), .int x1, .int x2] σ (fun r σ1 => r = r0 ∧ σ1 = s0) := by
  obtain ⟨R, hR⟩ : ∃ R, (r0, s0) = R := ⟨_, rfl⟩
  replace h := h.trans (congrArg some hR)
  refine Ki.of (by decide) (Nat.le_of_ble_eq_true rfl) 0 (fun Γ C Rt => ?_)
  show AW ids ad ca Γ 0 [some (.ref (ad 236)), some (.int x1), some (.int x2)] [] σ
  unfold f_X12_tell at h
  refine a_aload_n C dX12_tell_0 (i := 0) rfl rfl ?_
  refine a_get C fl_RX12_242 (i := 236) kd_236 (hid 236 (by decide)) (v := .int (σ.1 236 60)) rfl dX12_tell_1 ?_
  refine a_bipush C dX12_tell_4 (v := 20) rfl ?_
  refine p_ic_eq C (X := (σ.1 236 60).toInt) (Y := 20) rfl (by decide) dX12_tell_6 (tgt := 19) rfl h (fun h => ?_) (fun h => ?_)
  ·
    refine a_iconst C dX12_tell_19 (v := (-1)) rfl ?_
    exact a_iret Rt dX12_tell_20 rfl (ret_eq (h.trans (congrArg some hR.symm)))
  ·
    refine a_iload_n C dX12_tell_9 (i := 1) rfl rfl ?_
    refine a_iconst C dX12_tell_10 (v := 0) rfl ?_
    refine a_bipush C dX12_tell_11 (v := 40) rfl ?_
    refine p_callSi C (As := [.int x1, .int 0, .int 40]) h (fun _ _ e => Z_X12_in hid e) ms_X12_in ml_RX12_301 rfl rfl (Nat.le_of_ble_eq_true rfl) (Nat.le_of_ble_eq_true rfl) (Nat.le_of_ble_eq_true rfl) dX12_tell_13 (fun r2 σ1 h => ?_)
    refine p_if_ne C (X := r2.toInt) rfl dX12_tell_16 (tgt := 21) rfl h (fun h => ?_) (fun h => ?_)
    ·
      refine a_aload_n C dX12_tell_21 (i := 0) rfl rfl ?_
      refine a_get C fl_RX12_125 (i := 236) kd_236 (hid 236 (by decide)) (v := .ref (ad 272)) rfl dX12_tell_22 ?_
      refine a_aload_n C dX12_tell_25 (i := 0) rfl rfl ?_
      refine a_get C fl_RX12_242 (i := 236) kd_236 (hid 236 (by decide)) (v := .int (σ1.1 236 60)) rfl dX12_tell_26 ?_
      refine a_iload_n C dX12_tell_29 (i := 1) rfl rfl ?_
      refine p_iast C (i := 272) (show rowOK 272 from ⟨kd_272, by decide⟩) hid (by rw [al_272]; rfl) dX12_tell_30 h (fun σ3 h => ?_)
      refine a_aload_n C dX12_tell_31 (i := 0) rfl rfl ?_
      refine a_get C fl_RX12_128 (i := 236) kd_236 (hid 236 (by decide)) (v := .ref (ad 273)) rfl dX12_tell_32 ?_
      refine a_aload_n C dX12_tell_35 (i := 0) rfl rfl ?_
      refine a_get C fl_RX12_242 (i := 236) kd_236 (hid 236 (by decide)) (v := .int (σ3.1 236 60)) rfl dX12_tell_36 ?_
      refine a_iload_n C dX12_tell_39 (i := 2) rfl rfl ?_
      refine ite_n h (fun hz4 h => ?_)
      refine p_zast C (i := 273) kd_273 (hid 273 (by decide)) (by rw [al_273]; rfl) hz4 dX12_tell_40 h (fun σ5 h => ?_)
      refine a_aload_n C dX12_tell_41 (i := 0) rfl rfl ?_
      refine a_dup C dX12_tell_42 rfl ?_
      refine a_get C fl_RX12_242 (i := 236) kd_236 (hid 236 (by decide)) (v := .int (σ5.1 236 60)) rfl dX12_tell_43 ?_
      refine a_iconst C dX12_tell_46 (v := 1) rfl ?_
      refine a_iadd C dX12_tell_47 ?_
      refine p_put C fp_RX12_242 (i := 236) kd_236 (hid 236 (by decide)) rfl rfl dX12_tell_48 h (fun σ6 h => ?_)
      refine a_aload_n C dX12_tell_51 (i := 0) rfl rfl ?_
      refine a_get C fl_RX12_242 (i := 236) kd_236 (hid 236 (by decide)) (v := .int (σ6.1 236 60)) rfl dX12_tell_52 ?_
      refine a_iconst C dX12_tell_55 (v := 1) rfl ?_
      refine a_isub C dX12_tell_56 ?_
      exact a_iret Rt dX12_tell_57 rfl (ret_eq (h.trans (congrArg some hR.symm)))
    ·
      refine a_iconst C dX12_tell_19 (v := (-1)) rfl ?_
      exact a_iret Rt dX12_tell_20 rfl (ret_eq (h.trans (congrArg some hR.symm)))
set_option maxHeartbeats 4000000 in
set_option maxRecDepth 100000 in
theorem Z_X12_forget {l : Launch} {D : va_G} {ids : List Nat} {ad : Nat → Nat} {ca : Nat → ClassId} {σ : HS} {r0 : Int32} {s0 : HS} (hid : ∀ i, i < 277 → i ∈ ids) (h : f_X12_forget σ = some (r0, s0)) : Ki l D ids ad ca yX12_forget cX12_forget 2 .int 0 0 [.ref (ad 236)] σ (fun r σ1 => r = r0 ∧ σ1 = s0) := by
  obtain ⟨R, hR⟩ : ∃ R, (r0, s0) = R := ⟨_, rfl⟩
  replace h := h.trans (congrArg some hR)
  refine Ki.of (by decide) (Nat.le_of_ble_eq_true rfl) 1 (fun Γ C Rt => ?_)
  show AW ids ad ca Γ 0 [some (.ref (ad 236)), none] [] σ
  unfold f_X12_forget at h
  refine a_aload_n C dX12_forget_0 (i := 0) rfl rfl ?_
  refine a_get C fl_RX12_242 (i := 236) kd_236 (hid 236 (by decide)) (v := .int (σ.1 236 60)) rfl dX12_forget_1 ?_
  refine p_istore_n C (fun z1 => [some (.ref (ad 236)), some (.int z1)]) dX12_forget_4 (i := 1) rfl (by decide) rfl (fun _ => rfl) h (fun z1 h => ?_)
  refine a_aload_n C dX12_forget_5 (i := 0) rfl rfl ?_
  refine a_iconst C dX12_forget_6 (v := 0) rfl ?_
  refine p_put C fp_RX12_242 (i := 236) kd_236 (hid 236 (by decide)) rfl rfl dX12_forget_7 h (fun σ2 h => ?_)
  refine a_iload_n C dX12_forget_10 (i := 1) rfl rfl ?_
  exact a_iret Rt dX12_forget_11 rfl (ret_eq (h.trans (congrArg some hR.symm)))
set_option maxHeartbeats 4000000 in
set_option maxRecDepth 100000 in
theorem Z_X12_glitterBits {l : Launch} {D : va_G} {ids : List Nat} {ad : Nat → Nat} {ca : Nat → ClassId} {σ : HS} {x1 : Int32} {r0 : Int32} {s0 : HS} (hid : ∀ i, i < 277 → i ∈ ids) (h : f_X12_glitterBits x1 σ = some (r0, s0)) : Ki l D ids ad ca yX12_glitterBits cX12_glitterBits 5 .int 5 122 [.ref (ad 236), .int x1] σ (fun r σ1 => r = r0 ∧ σ1 = s0) := by
  obtain ⟨R, hR⟩ : ∃ R, (r0, s0) = R := ⟨_, rfl⟩
  replace h := h.trans (congrArg some hR)
  refine Ki.of (by decide) (Nat.le_of_ble_eq_true rfl) 3 (fun Γ C Rt => ?_)
  show AW ids ad ca Γ 0 [some (.ref (ad 236)), some (.int x1), none, none, none] [] σ
  unfold f_X12_glitterBits at h
  have j94 : ∀ (k40 : Int32 → Int32 → Int32 → HS → Option (Int32 × HS)) (hk40 : ∀ (y1 : Int32) (y2 : Int32) (y3 : Int32) (σ : HS), k40 y1 y2 y3 σ = some R → AW ids ad ca Γ 40 [some (.ref (ad 236)), some (.int y1), some (.int y2), some (.int y3), none] [] σ) (k48 : Int32 → Int32 → Int32 → Int32 → HS → Option (Int32 × HS)) (hk48 : ∀ (y1 : Int32) (y2 : Int32) (y3 : Int32) (y4 : Int32) (σ : HS), k48 y1 y2 y3 y4 σ = some R → AW ids ad ca Γ 48 [some (.ref (ad 236)), some (.int y1), some (.int y2), some (.int y3), some (.int y4)] [] σ) (y1 : Int32) (y2 : Int32) (y3 : Int32) (y4 : Int32) (σ : HS), f_X12_glitterBits_94 k40 k48 y1 y2 y3 y4 σ = some R → AW ids ad ca Γ 94 [some (.ref (ad 236)), some (.int y1), some (.int y2), some (.int y3), some (.int y4)] [] σ := by
    intro k40 hk40 k48 hk48 y1 y2 y3 y4 σ h
    unfold f_X12_glitterBits_94 at h
    refine p_iinc C (y := (y4 + 1)) (fun z1 => [some (.ref (ad 236)), some (.int y1), some (.int y2), some (.int y3), some (.int z1)]) dX12_glitterBits_94 rfl rfl (by decide) rfl (fun _ => rfl) h (fun z1 h => ?_)
    refine a_goto C dX12_glitterBits_97 (tgt := 48) rfl ?_
    exact hk48 _ _ _ _ _ h
  have j76 : ∀ (k40 : Int32 → Int32 → Int32 → HS → Option (Int32 × HS)) (hk40 : ∀ (y1 : Int32) (y2 : Int32) (y3 : Int32) (σ : HS), k40 y1 y2 y3 σ = some R → AW ids ad ca Γ 40 [some (.ref (ad 236)), some (.int y1), some (.int y2), some (.int y3), none] [] σ) (k48 : Int32 → Int32 → Int32 → Int32 → HS → Option (Int32 × HS)) (hk48 : ∀ (y1 : Int32) (y2 : Int32) (y3 : Int32) (y4 : Int32) (σ : HS), k48 y1 y2 y3 y4 σ = some R → AW ids ad ca Γ 48 [some (.ref (ad 236)), some (.int y1), some (.int y2), some (.int y3), some (.int y4)] [] σ) (y1 : Int32) (y2 : Int32) (y3 : Int32) (y4 : Int32) (v0 : Int32) (σ : HS), f_X12_glitterBits_76 k40 k48 y1 y2 y3 y4 v0 σ = some R → AW ids ad ca Γ 76 [some (.ref (ad 236)), some (.int y1), some (.int y2), some (.int y3), some (.int y4)] [.int v0] σ := by
    intro k40 hk40 k48 hk48 y1 y2 y3 y4 v0 σ h
    unfold f_X12_glitterBits_76 at h
    refine a_aload_n C dX12_glitterBits_76 (i := 0) rfl rfl ?_
    refine a_get C fl_RX12_128 (i := 236) kd_236 (hid 236 (by decide)) (v := .ref (ad 273)) rfl dX12_glitterBits_77 ?_
    refine a_iload_n C dX12_glitterBits_80 (i := 3) rfl rfl ?_
    refine p_zald C (i := 273) kd_273 (hid 273 (by decide)) (by rw [al_273]; rfl) dX12_glitterBits_81 h (fun h => ?_)
    refine p_ic_eq C (X := v0.toInt) (Y := (σ.1 273 y3.toInt.toNat).toInt) rfl rfl dX12_glitterBits_82 (tgt := 94) rfl h (fun h => ?_) (fun h => ?_)
    ·
      exact j94 k40 hk40 k48 hk48 _ _ _ _ _ h
    ·
      refine a_iload_n C dX12_glitterBits_85 (i := 2) rfl rfl ?_
      refine a_iconst C dX12_glitterBits_86 (v := 1) rfl ?_
      refine a_iload C dX12_glitterBits_87 rfl ?_
      refine a_ishl C dX12_glitterBits_89 ?_
      refine a_iconst C dX12_glitterBits_90 (v := (-1)) rfl ?_
      refine a_ixor C dX12_glitterBits_91 ?_
      refine a_iand C dX12_glitterBits_92 ?_
      refine p_istore_n C (fun z1 => [some (.ref (ad 236)), some (.int y1), some (.int z1), some (.int y3), some (.int y4)]) dX12_glitterBits_93 (i := 2) rfl (by decide) rfl (fun _ => rfl) h (fun z1 h => ?_)
      exact j94 k40 hk40 k48 hk48 _ _ _ _ _ h
  have j48 : ∀ (k40 : Int32 → Int32 → Int32 → HS → Option (Int32 × HS)) (hk40 : ∀ (y1 : Int32) (y2 : Int32) (y3 : Int32) (σ : HS), k40 y1 y2 y3 σ = some R → AW ids ad ca Γ 40 [some (.ref (ad 236)), some (.int y1), some (.int y2), some (.int y3), none] [] σ) (n : Nat) (y1 : Int32) (y2 : Int32) (y3 : Int32) (y4 : Int32) (σ : HS), f_X12_glitterBits_48 k40 n y1 y2 y3 y4 σ = some R → AW ids ad ca Γ 48 [some (.ref (ad 236)), some (.int y1), some (.int y2), some (.int y3), some (.int y4)] [] σ := by
    intro k40 hk40 n
    induction n with
    | zero => intro y1 y2 y3 y4 σ h; exact nn h
    | succ n ih =>
      intro y1 y2 y3 y4 σ h
      have h : b_X12_glitterBits_48 k40 (f_X12_glitterBits_48 k40 n) y1 y2 y3 y4 σ = some R := h
      unfold b_X12_glitterBits_48 at h
      refine a_iload C dX12_glitterBits_48 rfl ?_
      refine a_bipush C dX12_glitterBits_50 (v := 7) rfl ?_
      refine p_ic_ge C (X := y4.toInt) (Y := 7) rfl (by decide) dX12_glitterBits_52 (tgt := 100) rfl h (fun h => ?_) (fun h => ?_)
      ·
        refine p_iinc C (y := (y3 + 1)) (fun z1 => [some (.ref (ad 236)), some (.int y1), some (.int y2), some (.int z1), some (.int y4)]) dX12_glitterBits_100 rfl rfl (by decide) rfl (fun _ => rfl) h (fun z1 h => ?_)
        refine a_goto C dX12_glitterBits_103 (tgt := 40) rfl ?_
        refine AW.sub (vs' := [some (.ref (ad 236)), some (.int y1), some (.int y2), some (.int z1), none]) (lsub_of (by simp [lsubB])) ?_
        exact hk40 _ _ _ _ h
      ·
        refine a_aload_n C dX12_glitterBits_55 (i := 0) rfl rfl ?_
        refine a_get C fl_RX12_131 (i := 236) kd_236 (hid 236 (by decide)) (v := .ref (ad 274)) rfl dX12_glitterBits_56 ?_
        refine a_aload_n C dX12_glitterBits_59 (i := 0) rfl rfl ?_
        refine a_get C fl_RX12_125 (i := 236) kd_236 (hid 236 (by decide)) (v := .ref (ad 272)) rfl dX12_glitterBits_60 ?_
        refine a_iload_n C dX12_glitterBits_63 (i := 3) rfl rfl ?_
        refine p_iald C (i := 272) (show rowOK 272 from ⟨kd_272, by decide⟩) hid (by rw [al_272]; rfl) dX12_glitterBits_64 h (fun h => ?_)
        refine p_iald C (i := 274) (show rowOK 274 from ⟨kd_274, by decide⟩) hid (by rw [al_274]; rfl) dX12_glitterBits_65 h (fun h => ?_)
        refine a_iload C dX12_glitterBits_66 rfl ?_
        refine p_ic_ne C (X := (σ.1 274 (σ.1 272 y3.toInt.toNat).toInt.toNat).toInt) (Y := y4.toInt) rfl rfl dX12_glitterBits_68 (tgt := 75) rfl h (fun h => ?_) (fun h => ?_)
        ·
          refine a_iconst C dX12_glitterBits_75 (v := 0) rfl ?_
          exact j76 k40 hk40 (f_X12_glitterBits_48 k40 n) (fun y1 y2 y3 y4 σ h => ih y1 y2 y3 y4 σ h) _ _ _ _ _ _ h
        ·
          refine a_iconst C dX12_glitterBits_71 (v := 1) rfl ?_
          refine a_goto C dX12_glitterBits_72 (tgt := 76) rfl ?_
          exact j76 k40 hk40 (f_X12_glitterBits_48 k40 n) (fun y1 y2 y3 y4 σ h => ih y1 y2 y3 y4 σ h) _ _ _ _ _ _ h
  have j40 : ∀ (n : Nat) (y1 : Int32) (y2 : Int32) (y3 : Int32) (σ : HS), f_X12_glitterBits_40 n y1 y2 y3 σ = some R → AW ids ad ca Γ 40 [some (.ref (ad 236)), some (.int y1), some (.int y2), some (.int y3), none] [] σ := by
    intro n
    induction n with
    | zero => intro y1 y2 y3 σ h; exact nn h
    | succ n ih =>
      intro y1 y2 y3 σ h
      have h : b_X12_glitterBits_40 (f_X12_glitterBits_40 n) y1 y2 y3 σ = some R := h
      unfold b_X12_glitterBits_40 at h
      refine a_iload_n C dX12_glitterBits_40 (i := 3) rfl rfl ?_
      refine a_iload_n C dX12_glitterBits_41 (i := 1) rfl rfl ?_
      refine p_ic_ge C (X := y3.toInt) (Y := y1.toInt) rfl rfl dX12_glitterBits_42 (tgt := 106) rfl h (fun h => ?_) (fun h => ?_)
      ·
        refine a_iload_n C dX12_glitterBits_106 (i := 2) rfl rfl ?_
        exact a_iret Rt dX12_glitterBits_107 rfl (ret_eq (h.trans (congrArg some hR.symm)))
      ·
        refine a_iconst C dX12_glitterBits_45 (v := 0) rfl ?_
        refine a_istore C dX12_glitterBits_46 (by decide) rfl (vs1 := [some (.ref (ad 236)), some (.int y1), some (.int y2), some (.int y3), some (.int 0)]) rfl ?_
        exact j48 (f_X12_glitterBits_40 n) (fun y1 y2 y3 σ h => ih y1 y2 y3 σ h) _ _ _ _ _ _ h
  have j12 : ∀ (n : Nat) (y1 : Int32) (y2 : Int32) (y3 : Int32) (σ : HS), f_X12_glitterBits_12 n y1 y2 y3 σ = some R → AW ids ad ca Γ 12 [some (.ref (ad 236)), some (.int y1), some (.int y2), some (.int y3), none] [] σ := by
    intro n
    induction n with
    | zero => intro y1 y2 y3 σ h; exact nn h
    | succ n ih =>
      intro y1 y2 y3 σ h
      have h : b_X12_glitterBits_12 (f_X12_glitterBits_12 n) y1 y2 y3 σ = some R := h
      unfold b_X12_glitterBits_12 at h
      refine a_iload_n C dX12_glitterBits_12 (i := 3) rfl rfl ?_
      refine a_bipush C dX12_glitterBits_13 (v := 40) rfl ?_
      refine p_ic_gt C (X := y3.toInt) (Y := 40) rfl (by decide) dX12_glitterBits_15 (tgt := 38) rfl h (fun h => ?_) (fun h => ?_)
      ·
        refine a_iconst C dX12_glitterBits_38 (v := 0) rfl ?_
        refine a_istore_n C dX12_glitterBits_39 (i := 3) rfl (by decide) rfl (vs1 := [some (.ref (ad 236)), some (.int y1), some (.int y2), some (.int 0), none]) rfl ?_
        exact j40 _ _ _ _ _ h
      ·
        refine a_aload_n C dX12_glitterBits_18 (i := 0) rfl rfl ?_
        refine p_callVv C (As := []) (i := 236) kd_236 (hid 236 (by decide)) ⟨_, _, rfl⟩ (by decide) h (fun _ e => Z_X12_beatGoes hid e) mi_X12_beatGoes ml_RX12_387 rfl rfl (Nat.le_of_ble_eq_true rfl) (Nat.le_of_ble_eq_true rfl) (Nat.le_of_ble_eq_true rfl) dX12_glitterBits_19 (fun σ1 h => ?_)
        refine a_aload_n C dX12_glitterBits_22 (i := 0) rfl rfl ?_
        refine a_get C fl_RX12_131 (i := 236) kd_236 (hid 236 (by decide)) (v := .ref (ad 274)) rfl dX12_glitterBits_23 ?_
        refine a_iload_n C dX12_glitterBits_26 (i := 3) rfl rfl ?_
        refine a_aload_n C dX12_glitterBits_27 (i := 0) rfl rfl ?_
        refine a_get C fl_RX12_341 (i := 236) kd_236 (hid 236 (by decide)) (v := .int (σ1.1 236 51)) rfl dX12_glitterBits_28 ?_
        refine p_iast C (i := 274) (show rowOK 274 from ⟨kd_274, by decide⟩) hid (by rw [al_274]; rfl) dX12_glitterBits_31 h (fun σ3 h => ?_)
        refine p_iinc C (y := (y3 + 1)) (fun z4 => [some (.ref (ad 236)), some (.int y1), some (.int y2), some (.int z4), none]) dX12_glitterBits_32 rfl rfl (by decide) rfl (fun _ => rfl) h (fun z4 h => ?_)
        refine a_goto C dX12_glitterBits_35 (tgt := 12) rfl ?_
        exact ih _ _ _ _ h
  refine a_aload_n C dX12_glitterBits_0 (i := 0) rfl rfl ?_
  refine p_callVv C (As := []) (i := 236) kd_236 (hid 236 (by decide)) ⟨_, _, rfl⟩ (by decide) h (fun _ e => Z_X12_copiesStill hid e) mi_X12_copiesStill ml_RX12_429 rfl rfl (Nat.le_of_ble_eq_true rfl) (Nat.le_of_ble_eq_true rfl) (Nat.le_of_ble_eq_true rfl) dX12_glitterBits_1 (fun σ1 h => ?_)
  refine a_aload_n C dX12_glitterBits_4 (i := 0) rfl rfl ?_
  refine a_iconst C dX12_glitterBits_5 (v := 0) rfl ?_
  refine p_callVi C (As := [.int 0]) (i := 236) kd_236 (hid 236 (by decide)) ⟨_, _, rfl⟩ (by decide) h (fun _ _ e => Z_X12_thingsSo hid e) mi_X12_thingsSo ml_RX12_350 rfl rfl (Nat.le_of_ble_eq_true rfl) (Nat.le_of_ble_eq_true rfl) (Nat.le_of_ble_eq_true rfl) dX12_glitterBits_6 (fun r4 σ3 h => ?_)
  refine a_istore_n C dX12_glitterBits_9 (i := 2) rfl (by decide) rfl (vs1 := [some (.ref (ad 236)), some (.int x1), some (.int r4), none, none]) rfl ?_
  refine a_iconst C dX12_glitterBits_10 (v := 0) rfl ?_
  refine a_istore_n C dX12_glitterBits_11 (i := 3) rfl (by decide) rfl (vs1 := [some (.ref (ad 236)), some (.int x1), some (.int r4), some (.int 0), none]) rfl ?_
  exact j12 _ _ _ _ _ h
set_option maxHeartbeats 4000000 in
set_option maxRecDepth 100000 in
theorem Z_X12_glitters {l : Launch} {D : va_G} {ids : List Nat} {ad : Nat → Nat} {ca : Nat → ClassId} {σ : HS} {x1 : Int32} {x2 : Int32} {r0 : Int32} {s0 : HS} (hid : ∀ i, i < 277 → i ∈ ids) (h : f_X12_glitters x1 x2 σ = some (r0, s0)) : Ki l D ids ad ca yX12_glitters cX12_glitters 4 .int 6 146 [.ref (ad 236), .int x1, .int x2] σ (fun r σ1 => r = r0 ∧ σ1 = s0) := by
  obtain ⟨R, hR⟩ : ∃ R, (r0, s0) = R := ⟨_, rfl⟩
  replace h := h.trans (congrArg some hR)
  refine Ki.of (by decide) (Nat.le_of_ble_eq_true rfl) 1 (fun Γ C Rt => ?_)
  show AW ids ad ca Γ 0 [some (.ref (ad 236)), some (.int x1), some (.int x2), none] [] σ
  unfold f_X12_glitters at h
  refine a_iload_n C dX12_glitters_0 (i := 1) rfl rfl ?_
  refine a_iconst C dX12_glitters_1 (v := 0) rfl ?_
  refine a_aload_n C dX12_glitters_2 (i := 0) rfl rfl ?_
  refine a_get C fl_RX12_242 (i := 236) kd_236 (hid 236 (by decide)) (v := .int (σ.1 236 60)) rfl dX12_glitters_3 ?_
  refine p_callSi C (As := [.int x1, .int 0, .int (σ.1 236 60)]) h (fun _ _ e => Z_X12_in hid e) ms_X12_in ml_RX12_301 rfl rfl (Nat.le_of_ble_eq_true rfl) (Nat.le_of_ble_eq_true rfl) (Nat.le_of_ble_eq_true rfl) dX12_glitters_6 (fun r2 σ1 h => ?_)
  refine p_if_eq C (X := r2.toInt) rfl dX12_glitters_9 (tgt := 21) rfl h (fun h => ?_) (fun h => ?_)
  ·
    refine a_iconst C dX12_glitters_21 (v := (-1)) rfl ?_
    exact a_iret Rt dX12_glitters_22 rfl (ret_eq (h.trans (congrArg some hR.symm)))
  ·
    refine a_iload_n C dX12_glitters_12 (i := 2) rfl rfl ?_
    refine a_iconst C dX12_glitters_13 (v := 0) rfl ?_
    refine a_iconst C dX12_glitters_14 (v := 1) rfl ?_
    refine p_callSi C (As := [.int x2, .int 0, .int 1]) h (fun _ _ e => Z_X12_in hid e) ms_X12_in ml_RX12_301 rfl rfl (Nat.le_of_ble_eq_true rfl) (Nat.le_of_ble_eq_true rfl) (Nat.le_of_ble_eq_true rfl) dX12_glitters_15 (fun r4 σ3 h => ?_)
    refine p_if_ne C (X := r4.toInt) rfl dX12_glitters_18 (tgt := 23) rfl h (fun h => ?_) (fun h => ?_)
    ·
      refine a_aload_n C dX12_glitters_23 (i := 0) rfl rfl ?_
      refine a_iload_n C dX12_glitters_24 (i := 1) rfl rfl ?_
      refine p_callVi C (As := [.int x1]) (i := 236) kd_236 (hid 236 (by decide)) ⟨_, _, rfl⟩ (by decide) h (fun _ _ e => Z_X12_glitterBits hid e) mi_X12_glitterBits ml_RX12_458 rfl rfl (Nat.le_of_ble_eq_true rfl) (Nat.le_of_ble_eq_true rfl) (Nat.le_of_ble_eq_true rfl) dX12_glitters_25 (fun r6 σ5 h => ?_)
      refine a_istore_n C dX12_glitters_28 (i := 3) rfl (by decide) rfl (vs1 := [some (.ref (ad 236)), some (.int x1), some (.int x2), some (.int r6)]) rfl ?_
      refine a_iload_n C dX12_glitters_29 (i := 2) rfl rfl ?_
      refine p_if_ne C (X := x2.toInt) rfl dX12_glitters_30 (tgt := 40) rfl h (fun h => ?_) (fun h => ?_)
      ·
        refine a_iload_n C dX12_glitters_40 (i := 3) rfl rfl ?_
        exact a_iret Rt dX12_glitters_41 rfl (ret_eq (h.trans (congrArg some hR.symm)))
      ·
        refine a_iload_n C dX12_glitters_33 (i := 3) rfl rfl ?_
        refine p_callSi C (As := [.int r6]) h (fun _ _ e => Z_X12_bits hid e) ms_X12_bits ml_RX12_353 rfl rfl (Nat.le_of_ble_eq_true rfl) (Nat.le_of_ble_eq_true rfl) (Nat.le_of_ble_eq_true rfl) dX12_glitters_34 (fun r8 σ7 h => ?_)
        refine a_goto C dX12_glitters_37 (tgt := 41) rfl ?_
        exact a_iret Rt dX12_glitters_41 rfl (ret_eq (h.trans (congrArg some hR.symm)))
    ·
      refine a_iconst C dX12_glitters_21 (v := (-1)) rfl ?_
      exact a_iret Rt dX12_glitters_22 rfl (ret_eq (h.trans (congrArg some hR.symm)))
set_option maxHeartbeats 4000000 in
set_option maxRecDepth 100000 in
theorem Z_X12_watch {l : Launch} {D : va_G} {ids : List Nat} {ad : Nat → Nat} {ca : Nat → ClassId} {σ : HS} {x1 : Int32} {r0 : Int32} {s0 : HS} (hid : ∀ i, i < 277 → i ∈ ids) (h : f_X12_watch x1 σ = some (r0, s0)) : Ki l D ids ad ca yX12_watch cX12_watch 9 .int 6 146 [.ref (ad 236), .int x1] σ (fun r σ1 => r = r0 ∧ σ1 = s0) := by
  obtain ⟨R, hR⟩ : ∃ R, (r0, s0) = R := ⟨_, rfl⟩
  replace h := h.trans (congrArg some hR)
  refine Ki.of (by decide) (Nat.le_of_ble_eq_true rfl) 7 (fun Γ C Rt => ?_)
  show AW ids ad ca Γ 0 [some (.ref (ad 236)), some (.int x1), none, none, none, none, none, none, none] [] σ
  unfold f_X12_watch at h
  have j121 : ∀ (k35 : Int32 → Int32 → Int32 → Int32 → Int32 → HS → Option (Int32 × HS)) (hk35 : ∀ (y2 : Int32) (y3 : Int32) (y4 : Int32) (y5 : Int32) (y6 : Int32) (σ : HS), k35 y2 y3 y4 y5 y6 σ = some R → AW ids ad ca Γ 35 [some (.ref (ad 236)), none, some (.int y2), some (.int y3), some (.int y4), some (.int y5), some (.int y6), none, none] [] σ) (y2 : Int32) (y3 : Int32) (y4 : Int32) (y5 : Int32) (y6 : Int32) (σ : HS), f_X12_watch_121 k35 y2 y3 y4 y5 y6 σ = some R → AW ids ad ca Γ 121 [some (.ref (ad 236)), none, some (.int y2), some (.int y3), some (.int y4), some (.int y5), some (.int y6), none, none] [] σ := by
    intro k35 hk35 y2 y3 y4 y5 y6 σ h
    unfold f_X12_watch_121 at h
    refine p_iinc C (y := (y6 + 1)) (fun z1 => [some (.ref (ad 236)), none, some (.int y2), some (.int y3), some (.int y4), some (.int y5), some (.int z1), none, none]) dX12_watch_121 rfl rfl (by decide) rfl (fun _ => rfl) h (fun z1 h => ?_)
    refine a_goto C dX12_watch_124 (tgt := 35) rfl ?_
    exact hk35 _ _ _ _ _ _ h
  have j113 : ∀ (k35 : Int32 → Int32 → Int32 → Int32 → Int32 → HS → Option (Int32 × HS)) (hk35 : ∀ (y2 : Int32) (y3 : Int32) (y4 : Int32) (y5 : Int32) (y6 : Int32) (σ : HS), k35 y2 y3 y4 y5 y6 σ = some R → AW ids ad ca Γ 35 [some (.ref (ad 236)), none, some (.int y2), some (.int y3), some (.int y4), some (.int y5), some (.int y6), none, none] [] σ) (y2 : Int32) (y3 : Int32) (y6 : Int32) (y8 : Int32) (σ : HS), f_X12_watch_113 k35 y2 y3 y6 y8 σ = some R → AW ids ad ca Γ 113 [some (.ref (ad 236)), none, some (.int y2), some (.int y3), none, none, some (.int y6), none, some (.int y8)] [] σ := by
    intro k35 hk35 y2 y3 y6 y8 σ h
    unfold f_X12_watch_113 at h
    refine a_iload C dX12_watch_113 rfl ?_
    refine a_istore C dX12_watch_115 (by decide) rfl (vs1 := [some (.ref (ad 236)), none, some (.int y2), some (.int y3), some (.int y6), none, some (.int y6), none, some (.int y8)]) rfl ?_
    refine a_iload C dX12_watch_117 rfl ?_
    refine a_istore C dX12_watch_119 (by decide) rfl (vs1 := [some (.ref (ad 236)), none, some (.int y2), some (.int y3), some (.int y6), some (.int y8), some (.int y6), none, some (.int y8)]) rfl ?_
    refine AW.sub (vs' := [some (.ref (ad 236)), none, some (.int y2), some (.int y3), some (.int y6), some (.int y8), some (.int y6), none, none]) (lsub_of (by simp [lsubB])) ?_
    exact j121 k35 hk35 _ _ _ _ _ _ h
  have j96 : ∀ (k35 : Int32 → Int32 → Int32 → Int32 → Int32 → HS → Option (Int32 × HS)) (hk35 : ∀ (y2 : Int32) (y3 : Int32) (y4 : Int32) (y5 : Int32) (y6 : Int32) (σ : HS), k35 y2 y3 y4 y5 y6 σ = some R → AW ids ad ca Γ 35 [some (.ref (ad 236)), none, some (.int y2), some (.int y3), some (.int y4), some (.int y5), some (.int y6), none, none] [] σ) (y2 : Int32) (y3 : Int32) (y4 : Int32) (y5 : Int32) (y6 : Int32) (v0 : Int32) (σ : HS), f_X12_watch_96 k35 y2 y3 y4 y5 y6 v0 σ = some R → AW ids ad ca Γ 96 [some (.ref (ad 236)), none, some (.int y2), some (.int y3), some (.int y4), some (.int y5), some (.int y6), none, none] [.int v0] σ := by
    intro k35 hk35 y2 y3 y4 y5 y6 v0 σ h
    unfold f_X12_watch_96 at h
    refine a_istore C dX12_watch_96 (by decide) rfl (vs1 := [some (.ref (ad 236)), none, some (.int y2), some (.int y3), some (.int y4), some (.int y5), some (.int y6), none, some (.int v0)]) rfl ?_
    refine a_iload C dX12_watch_98 rfl ?_
    refine p_if_lt C (X := y4.toInt) rfl dX12_watch_100 (tgt := 113) rfl h (fun h => ?_) (fun h => ?_)
    ·
      refine AW.sub (vs' := [some (.ref (ad 236)), none, some (.int y2), some (.int y3), none, none, some (.int y6), none, some (.int v0)]) (lsub_of (by simp [lsubB])) ?_
      exact j113 k35 hk35 _ _ _ _ _ h
    ·
      refine a_iload C dX12_watch_103 rfl ?_
      refine a_iload C dX12_watch_105 rfl ?_
      refine p_ic_lt C (X := v0.toInt) (Y := y5.toInt) rfl rfl dX12_watch_107 (tgt := 113) rfl h (fun h => ?_) (fun h => ?_)
      ·
        refine AW.sub (vs' := [some (.ref (ad 236)), none, some (.int y2), some (.int y3), none, none, some (.int y6), none, some (.int v0)]) (lsub_of (by simp [lsubB])) ?_
        exact j113 k35 hk35 _ _ _ _ _ h
      ·
        refine a_goto C dX12_watch_110 (tgt := 121) rfl ?_
        refine AW.sub (vs' := [some (.ref (ad 236)), none, some (.int y2), some (.int y3), some (.int y4), some (.int y5), some (.int y6), none, none]) (lsub_of (by simp [lsubB])) ?_
        exact j121 k35 hk35 _ _ _ _ _ _ h
  have j76 : ∀ (k35 : Int32 → Int32 → Int32 → Int32 → Int32 → HS → Option (Int32 × HS)) (hk35 : ∀ (y2 : Int32) (y3 : Int32) (y4 : Int32) (y5 : Int32) (y6 : Int32) (σ : HS), k35 y2 y3 y4 y5 y6 σ = some R → AW ids ad ca Γ 35 [some (.ref (ad 236)), none, some (.int y2), some (.int y3), some (.int y4), some (.int y5), some (.int y6), none, none] [] σ) (y2 : Int32) (y3 : Int32) (y4 : Int32) (y5 : Int32) (y6 : Int32) (v0 : Int32) (σ : HS), f_X12_watch_76 k35 y2 y3 y4 y5 y6 v0 σ = some R → AW ids ad ca Γ 76 [some (.ref (ad 236)), none, some (.int y2), some (.int y3), some (.int y4), some (.int y5), some (.int y6), none, none] [.int v0] σ := by
    intro k35 hk35 y2 y3 y4 y5 y6 v0 σ h
    unfold f_X12_watch_76 at h
    refine a_istore C dX12_watch_76 (by decide) rfl (vs1 := [some (.ref (ad 236)), none, some (.int y2), some (.int y3), some (.int y4), some (.int y5), some (.int y6), some (.int v0), none]) rfl ?_
    refine a_iload C dX12_watch_78 rfl ?_
    refine a_iload_n C dX12_watch_80 (i := 3) rfl rfl ?_
    refine a_iload C dX12_watch_81 rfl ?_
    refine a_isub C dX12_watch_83 ?_
    refine p_ic_le C (X := v0.toInt) (Y := (y3 - v0).toInt) rfl rfl dX12_watch_84 (tgt := 92) rfl h (fun h => ?_) (fun h => ?_)
    ·
      refine a_iload_n C dX12_watch_92 (i := 3) rfl rfl ?_
      refine a_iload C dX12_watch_93 rfl ?_
      refine a_isub C dX12_watch_95 ?_
      refine AW.sub (vs' := [some (.ref (ad 236)), none, some (.int y2), some (.int y3), some (.int y4), some (.int y5), some (.int y6), none, none]) (lsub_of (by simp [lsubB])) ?_
      exact j96 k35 hk35 _ _ _ _ _ _ _ h
    ·
      refine a_iload C dX12_watch_87 rfl ?_
      refine a_goto C dX12_watch_89 (tgt := 96) rfl ?_
      refine AW.sub (vs' := [some (.ref (ad 236)), none, some (.int y2), some (.int y3), some (.int y4), some (.int y5), some (.int y6), none, none]) (lsub_of (by simp [lsubB])) ?_
      exact j96 k35 hk35 _ _ _ _ _ _ _ h
  have j75 : ∀ (k35 : Int32 → Int32 → Int32 → Int32 → Int32 → HS → Option (Int32 × HS)) (hk35 : ∀ (y2 : Int32) (y3 : Int32) (y4 : Int32) (y5 : Int32) (y6 : Int32) (σ : HS), k35 y2 y3 y4 y5 y6 σ = some R → AW ids ad ca Γ 35 [some (.ref (ad 236)), none, some (.int y2), some (.int y3), some (.int y4), some (.int y5), some (.int y6), none, none] [] σ) (y2 : Int32) (y3 : Int32) (y4 : Int32) (y5 : Int32) (y6 : Int32) (σ : HS), f_X12_watch_75 k35 y2 y3 y4 y5 y6 σ = some R → AW ids ad ca Γ 75 [some (.ref (ad 236)), none, some (.int y2), some (.int y3), some (.int y4), some (.int y5), some (.int y6), none, none] [] σ := by
    intro k35 hk35 y2 y3 y4 y5 y6 σ h
    unfold f_X12_watch_75 at h
    refine a_iconst C dX12_watch_75 (v := 0) rfl ?_
    exact j76 k35 hk35 _ _ _ _ _ _ _ h
  have j35 : ∀ (n : Nat) (y2 : Int32) (y3 : Int32) (y4 : Int32) (y5 : Int32) (y6 : Int32) (σ : HS), f_X12_watch_35 n y2 y3 y4 y5 y6 σ = some R → AW ids ad ca Γ 35 [some (.ref (ad 236)), none, some (.int y2), some (.int y3), some (.int y4), some (.int y5), some (.int y6), none, none] [] σ := by
    intro n
    induction n with
    | zero => intro y2 y3 y4 y5 y6 σ h; exact nn h
    | succ n ih =>
      intro y2 y3 y4 y5 y6 σ h
      have h : b_X12_watch_35 (f_X12_watch_35 n) y2 y3 y4 y5 y6 σ = some R := h
      unfold b_X12_watch_35 at h
      refine a_iload C dX12_watch_35 rfl ?_
      refine a_bipush C dX12_watch_37 (v := 40) rfl ?_
      refine p_ic_gt C (X := y6.toInt) (Y := 40) rfl (by decide) dX12_watch_39 (tgt := 127) rfl h (fun h => ?_) (fun h => ?_)
      ·
        refine a_iload C dX12_watch_127 rfl ?_
        exact a_iret Rt dX12_watch_129 rfl (ret_eq (h.trans (congrArg some hR.symm)))
      ·
        refine a_iload_n C dX12_watch_42 (i := 3) rfl rfl ?_
        refine p_if_le C (X := y3.toInt) rfl dX12_watch_43 (tgt := 127) rfl h (fun h => ?_) (fun h => ?_)
        ·
          refine a_iload C dX12_watch_127 rfl ?_
          exact a_iret Rt dX12_watch_129 rfl (ret_eq (h.trans (congrArg some hR.symm)))
        ·
          refine a_aload_n C dX12_watch_46 (i := 0) rfl rfl ?_
          refine a_get C fl_RX12_131 (i := 236) kd_236 (hid 236 (by decide)) (v := .ref (ad 274)) rfl dX12_watch_47 ?_
          refine a_iload C dX12_watch_50 rfl ?_
          refine p_iald C (i := 274) (show rowOK 274 from ⟨kd_274, by decide⟩) hid (by rw [al_274]; rfl) dX12_watch_52 h (fun h => ?_)
          refine p_if_lt C (X := (σ.1 274 y6.toInt.toNat).toInt) rfl dX12_watch_53 (tgt := 75) rfl h (fun h => ?_) (fun h => ?_)
          ·
            exact j75 (f_X12_watch_35 n) (fun y2 y3 y4 y5 y6 σ h => ih y2 y3 y4 y5 y6 σ h) _ _ _ _ _ _ h
          ·
            refine a_iload_n C dX12_watch_56 (i := 2) rfl rfl ?_
            refine a_aload_n C dX12_watch_57 (i := 0) rfl rfl ?_
            refine a_get C fl_RX12_131 (i := 236) kd_236 (hid 236 (by decide)) (v := .ref (ad 274)) rfl dX12_watch_58 ?_
            refine a_iload C dX12_watch_61 rfl ?_
            refine p_iald C (i := 274) (show rowOK 274 from ⟨kd_274, by decide⟩) hid (by rw [al_274]; rfl) dX12_watch_63 h (fun h => ?_)
            refine a_ishr C dX12_watch_64 ?_
            refine a_iconst C dX12_watch_65 (v := 1) rfl ?_
            refine a_iand C dX12_watch_66 ?_
            refine a_iconst C dX12_watch_67 (v := 1) rfl ?_
            refine p_ic_ne C (X := ((y2 >>> ((σ.1 274 y6.toInt.toNat) &&& 31)) &&& (1 : Int32)).toInt) (Y := 1) rfl (by decide) dX12_watch_68 (tgt := 75) rfl h (fun h => ?_) (fun h => ?_)
            ·
              exact j75 (f_X12_watch_35 n) (fun y2 y3 y4 y5 y6 σ h => ih y2 y3 y4 y5 y6 σ h) _ _ _ _ _ _ h
            ·
              refine a_iconst C dX12_watch_71 (v := 1) rfl ?_
              refine a_goto C dX12_watch_72 (tgt := 76) rfl ?_
              exact j76 (f_X12_watch_35 n) (fun y2 y3 y4 y5 y6 σ h => ih y2 y3 y4 y5 y6 σ h) _ _ _ _ _ _ _ h
  refine a_iload_n C dX12_watch_0 (i := 1) rfl rfl ?_
  refine a_iconst C dX12_watch_1 (v := 0) rfl ?_
  refine a_aload_n C dX12_watch_2 (i := 0) rfl rfl ?_
  refine a_get C fl_RX12_242 (i := 236) kd_236 (hid 236 (by decide)) (v := .int (σ.1 236 60)) rfl dX12_watch_3 ?_
  refine p_callSi C (As := [.int x1, .int 0, .int (σ.1 236 60)]) h (fun _ _ e => Z_X12_in hid e) ms_X12_in ml_RX12_301 rfl rfl (Nat.le_of_ble_eq_true rfl) (Nat.le_of_ble_eq_true rfl) (Nat.le_of_ble_eq_true rfl) dX12_watch_6 (fun r2 σ1 h => ?_)
  refine p_if_ne C (X := r2.toInt) rfl dX12_watch_9 (tgt := 14) rfl h (fun h => ?_) (fun h => ?_)
  ·
    refine a_aload_n C dX12_watch_14 (i := 0) rfl rfl ?_
    refine a_iload_n C dX12_watch_15 (i := 1) rfl rfl ?_
    refine p_callVi C (As := [.int x1]) (i := 236) kd_236 (hid 236 (by decide)) ⟨_, _, rfl⟩ (by decide) h (fun _ _ e => Z_X12_glitterBits hid e) mi_X12_glitterBits ml_RX12_458 rfl rfl (Nat.le_of_ble_eq_true rfl) (Nat.le_of_ble_eq_true rfl) (Nat.le_of_ble_eq_true rfl) dX12_watch_16 (fun r4 σ3 h => ?_)
    refine a_istore_n C dX12_watch_19 (i := 2) rfl (by decide) rfl (vs1 := [some (.ref (ad 236)), some (.int x1), some (.int r4), none, none, none, none, none, none]) rfl ?_
    refine a_iload_n C dX12_watch_20 (i := 2) rfl rfl ?_
    refine p_callSi C (As := [.int r4]) h (fun _ _ e => Z_X12_bits hid e) ms_X12_bits ml_RX12_353 rfl rfl (Nat.le_of_ble_eq_true rfl) (Nat.le_of_ble_eq_true rfl) (Nat.le_of_ble_eq_true rfl) dX12_watch_21 (fun r6 σ5 h => ?_)
    refine a_istore_n C dX12_watch_24 (i := 3) rfl (by decide) rfl (vs1 := [some (.ref (ad 236)), some (.int x1), some (.int r4), some (.int r6), none, none, none, none, none]) rfl ?_
    refine a_bipush C dX12_watch_25 (v := (-2)) rfl ?_
    refine a_istore C dX12_watch_27 (by decide) rfl (vs1 := [some (.ref (ad 236)), some (.int x1), some (.int r4), some (.int r6), some (.int (-2)), none, none, none, none]) rfl ?_
    refine a_iconst C dX12_watch_29 (v := 0) rfl ?_
    refine a_istore C dX12_watch_30 (by decide) rfl (vs1 := [some (.ref (ad 236)), some (.int x1), some (.int r4), some (.int r6), some (.int (-2)), some (.int 0), none, none, none]) rfl ?_
    refine a_iconst C dX12_watch_32 (v := 0) rfl ?_
    refine a_istore C dX12_watch_33 (by decide) rfl (vs1 := [some (.ref (ad 236)), some (.int x1), some (.int r4), some (.int r6), some (.int (-2)), some (.int 0), some (.int 0), none, none]) rfl ?_
    refine AW.sub (vs' := [some (.ref (ad 236)), none, some (.int r4), some (.int r6), some (.int (-2)), some (.int 0), some (.int 0), none, none]) (lsub_of (by simp [lsubB])) ?_
    exact j35 _ _ _ _ _ _ _ h
  ·
    refine a_iconst C dX12_watch_12 (v := (-1)) rfl ?_
    exact a_iret Rt dX12_watch_13 rfl (ret_eq (h.trans (congrArg some hR.symm)))
set_option maxHeartbeats 4000000 in
set_option maxRecDepth 100000 in
theorem Z_X12_hold {l : Launch} {D : va_G} {ids : List Nat} {ad : Nat → Nat} {ca : Nat → ClassId} {σ : HS} {x1 : Int32} {r0 : Int32} {s0 : HS} (hid : ∀ i, i < 277 → i ∈ ids) (h : f_X12_hold x1 σ = some (r0, s0)) : Ki l D ids ad ca yX12_hold cX12_hold 3 .boolean 1 22 [.ref (ad 236), .int x1] σ (fun r σ1 => r = r0 ∧ σ1 = s0) := by
  obtain ⟨R, hR⟩ : ∃ R, (r0, s0) = R := ⟨_, rfl⟩
  replace h := h.trans (congrArg some hR)
  refine Ki.of (by decide) (Nat.le_of_ble_eq_true rfl) 1 (fun Γ C Rt => ?_)
  show AW ids ad ca Γ 0 [some (.ref (ad 236)), some (.int x1), none] [] σ
  unfold f_X12_hold at h
  have j20 : ∀ (n : Nat) (y1 : Int32) (y2 : Int32) (σ : HS), f_X12_hold_20 n y1 y2 σ = some R → AW ids ad ca Γ 20 [some (.ref (ad 236)), some (.int y1), some (.int y2)] [] σ := by
    intro n
    induction n with
    | zero => intro y1 y2 σ h; exact nn h
    | succ n ih =>
      intro y1 y2 σ h
      have h : b_X12_hold_20 (f_X12_hold_20 n) y1 y2 σ = some R := h
      unfold b_X12_hold_20 at h
      refine a_iload_n C dX12_hold_20 (i := 2) rfl rfl ?_
      refine a_bipush C dX12_hold_21 (v := 29) rfl ?_
      refine p_ic_ge C (X := y2.toInt) (Y := 29) rfl (by decide) dX12_hold_23 (tgt := 49) rfl h (fun h => ?_) (fun h => ?_)
      ·
        refine a_iconst C dX12_hold_49 (v := 1) rfl ?_
        exact a_iret Rt dX12_hold_50 (nar_z (by decide)).1 (ret_eq (h.trans (congrArg some hR.symm)))
      ·
        refine a_aload_n C dX12_hold_26 (i := 0) rfl rfl ?_
        refine a_get C fl_RX12_137 (i := 236) kd_236 (hid 236 (by decide)) (v := .ref (ad 276)) rfl dX12_hold_27 ?_
        refine a_bipush C dX12_hold_30 (v := 29) rfl ?_
        refine a_iload_n C dX12_hold_32 (i := 1) rfl rfl ?_
        refine a_imul C dX12_hold_33 ?_
        refine a_iload_n C dX12_hold_34 (i := 2) rfl rfl ?_
        refine a_iadd C dX12_hold_35 ?_
        refine a_aload_n C dX12_hold_36 (i := 0) rfl rfl ?_
        refine a_get C fl_RX12_107 (i := 236) kd_236 (hid 236 (by decide)) (v := .ref (ad 266)) rfl dX12_hold_37 ?_
        refine a_iload_n C dX12_hold_40 (i := 2) rfl rfl ?_
        refine p_iald C (i := 266) (show rowOK 266 from ⟨kd_266, by decide⟩) hid (by rw [al_266]; rfl) dX12_hold_41 h (fun h => ?_)
        refine p_iast C (i := 276) (show rowOK 276 from ⟨kd_276, by decide⟩) hid (by rw [al_276]; rfl) dX12_hold_42 h (fun σ1 h => ?_)
        refine p_iinc C (y := (y2 + 1)) (fun z2 => [some (.ref (ad 236)), some (.int y1), some (.int z2)]) dX12_hold_43 rfl rfl (by decide) rfl (fun _ => rfl) h (fun z2 h => ?_)
        refine a_goto C dX12_hold_46 (tgt := 20) rfl ?_
        exact ih _ _ _ h
  refine a_iload_n C dX12_hold_0 (i := 1) rfl rfl ?_
  refine a_iconst C dX12_hold_1 (v := 0) rfl ?_
  refine a_iconst C dX12_hold_2 (v := 2) rfl ?_
  refine p_callSi C (As := [.int x1, .int 0, .int 2]) h (fun _ _ e => Z_X12_in hid e) ms_X12_in ml_RX12_301 rfl rfl (Nat.le_of_ble_eq_true rfl) (Nat.le_of_ble_eq_true rfl) (Nat.le_of_ble_eq_true rfl) dX12_hold_3 (fun r2 σ1 h => ?_)
  refine p_if_ne C (X := r2.toInt) rfl dX12_hold_6 (tgt := 11) rfl h (fun h => ?_) (fun h => ?_)
  ·
    refine a_aload_n C dX12_hold_11 (i := 0) rfl rfl ?_
    refine a_get C fl_RX12_134 (i := 236) kd_236 (hid 236 (by decide)) (v := .ref (ad 275)) rfl dX12_hold_12 ?_
    refine a_iload_n C dX12_hold_15 (i := 1) rfl rfl ?_
    refine a_iconst C dX12_hold_16 (v := 1) rfl ?_
    refine p_zast C (i := 275) kd_275 (hid 275 (by decide)) (by rw [al_275]; rfl) (by decide) dX12_hold_17 h (fun σ3 h => ?_)
    refine a_iconst C dX12_hold_18 (v := 0) rfl ?_
    refine a_istore_n C dX12_hold_19 (i := 2) rfl (by decide) rfl (vs1 := [some (.ref (ad 236)), some (.int x1), some (.int 0)]) rfl ?_
    exact j20 _ _ _ _ h
  ·
    refine a_iconst C dX12_hold_9 (v := 0) rfl ?_
    exact a_iret Rt dX12_hold_10 (nar_z (by decide)).1 (ret_eq (h.trans (congrArg some hR.symm)))
set_option maxHeartbeats 4000000 in
set_option maxRecDepth 100000 in
theorem Z_X12_restore {l : Launch} {D : va_G} {ids : List Nat} {ad : Nat → Nat} {ca : Nat → ClassId} {σ : HS} {x1 : Int32} {r0 : Int32} {s0 : HS} (hid : ∀ i, i < 277 → i ∈ ids) (h : f_X12_restore x1 σ = some (r0, s0)) : Ki l D ids ad ca yX12_restore cX12_restore 3 .boolean 1 22 [.ref (ad 236), .int x1] σ (fun r σ1 => r = r0 ∧ σ1 = s0) := by
  obtain ⟨R, hR⟩ : ∃ R, (r0, s0) = R := ⟨_, rfl⟩
  replace h := h.trans (congrArg some hR)
  refine Ki.of (by decide) (Nat.le_of_ble_eq_true rfl) 1 (fun Γ C Rt => ?_)
  show AW ids ad ca Γ 0 [some (.ref (ad 236)), some (.int x1), none] [] σ
  unfold f_X12_restore at h
  have j22 : ∀ (n : Nat) (y1 : Int32) (y2 : Int32) (σ : HS), f_X12_restore_22 n y1 y2 σ = some R → AW ids ad ca Γ 22 [some (.ref (ad 236)), some (.int y1), some (.int y2)] [] σ := by
    intro n
    induction n with
    | zero => intro y1 y2 σ h; exact nn h
    | succ n ih =>
      intro y1 y2 σ h
      have h : b_X12_restore_22 (f_X12_restore_22 n) y1 y2 σ = some R := h
      unfold b_X12_restore_22 at h
      refine a_iload_n C dX12_restore_22 (i := 2) rfl rfl ?_
      refine a_bipush C dX12_restore_23 (v := 29) rfl ?_
      refine p_ic_ge C (X := y2.toInt) (Y := 29) rfl (by decide) dX12_restore_25 (tgt := 51) rfl h (fun h => ?_) (fun h => ?_)
      ·
        refine a_aload_n C dX12_restore_51 (i := 0) rfl rfl ?_
        refine a_iconst C dX12_restore_52 (v := 0) rfl ?_
        refine p_put C fp_RX12_239 (i := 236) kd_236 (hid 236 (by decide)) rfl rfl dX12_restore_53 h (fun σ1 h => ?_)
        refine a_iconst C dX12_restore_56 (v := 1) rfl ?_
        exact a_iret Rt dX12_restore_57 (nar_z (by decide)).1 (ret_eq (h.trans (congrArg some hR.symm)))
      ·
        refine a_aload_n C dX12_restore_28 (i := 0) rfl rfl ?_
        refine a_get C fl_RX12_107 (i := 236) kd_236 (hid 236 (by decide)) (v := .ref (ad 266)) rfl dX12_restore_29 ?_
        refine a_iload_n C dX12_restore_32 (i := 2) rfl rfl ?_
        refine a_aload_n C dX12_restore_33 (i := 0) rfl rfl ?_
        refine a_get C fl_RX12_137 (i := 236) kd_236 (hid 236 (by decide)) (v := .ref (ad 276)) rfl dX12_restore_34 ?_
        refine a_bipush C dX12_restore_37 (v := 29) rfl ?_
        refine a_iload_n C dX12_restore_39 (i := 1) rfl rfl ?_
        refine a_imul C dX12_restore_40 ?_
        refine a_iload_n C dX12_restore_41 (i := 2) rfl rfl ?_
        refine a_iadd C dX12_restore_42 ?_
        refine p_iald C (i := 276) (show rowOK 276 from ⟨kd_276, by decide⟩) hid (by rw [al_276]; rfl) dX12_restore_43 h (fun h => ?_)
        refine p_iast C (i := 266) (show rowOK 266 from ⟨kd_266, by decide⟩) hid (by rw [al_266]; rfl) dX12_restore_44 h (fun σ2 h => ?_)
        refine p_iinc C (y := (y2 + 1)) (fun z3 => [some (.ref (ad 236)), some (.int y1), some (.int z3)]) dX12_restore_45 rfl rfl (by decide) rfl (fun _ => rfl) h (fun z3 h => ?_)
        refine a_goto C dX12_restore_48 (tgt := 22) rfl ?_
        exact ih _ _ _ h
  refine a_iload_n C dX12_restore_0 (i := 1) rfl rfl ?_
  refine a_iconst C dX12_restore_1 (v := 0) rfl ?_
  refine a_iconst C dX12_restore_2 (v := 2) rfl ?_
  refine p_callSi C (As := [.int x1, .int 0, .int 2]) h (fun _ _ e => Z_X12_in hid e) ms_X12_in ml_RX12_301 rfl rfl (Nat.le_of_ble_eq_true rfl) (Nat.le_of_ble_eq_true rfl) (Nat.le_of_ble_eq_true rfl) dX12_restore_3 (fun r2 σ1 h => ?_)
  refine p_if_eq C (X := r2.toInt) rfl dX12_restore_6 (tgt := 18) rfl h (fun h => ?_) (fun h => ?_)
  ·
    refine a_iconst C dX12_restore_18 (v := 0) rfl ?_
    exact a_iret Rt dX12_restore_19 (nar_z (by decide)).1 (ret_eq (h.trans (congrArg some hR.symm)))
  ·
    refine a_aload_n C dX12_restore_9 (i := 0) rfl rfl ?_
    refine a_get C fl_RX12_134 (i := 236) kd_236 (hid 236 (by decide)) (v := .ref (ad 275)) rfl dX12_restore_10 ?_
    refine a_iload_n C dX12_restore_13 (i := 1) rfl rfl ?_
    refine p_zald C (i := 275) kd_275 (hid 275 (by decide)) (by rw [al_275]; rfl) dX12_restore_14 h (fun h => ?_)
    refine p_if_ne C (X := (σ1.1 275 x1.toInt.toNat).toInt) rfl dX12_restore_15 (tgt := 20) rfl h (fun h => ?_) (fun h => ?_)
    ·
      refine a_iconst C dX12_restore_20 (v := 0) rfl ?_
      refine a_istore_n C dX12_restore_21 (i := 2) rfl (by decide) rfl (vs1 := [some (.ref (ad 236)), some (.int x1), some (.int 0)]) rfl ?_
      exact j22 _ _ _ _ h
    ·
      refine a_iconst C dX12_restore_18 (v := 0) rfl ?_
      exact a_iret Rt dX12_restore_19 (nar_z (by decide)).1 (ret_eq (h.trans (congrArg some hR.symm)))
set_option maxHeartbeats 4000000 in
set_option maxRecDepth 100000 in
theorem Z_X12_weightsOf {l : Launch} {D : va_G} {ids : List Nat} {ad : Nat → Nat} {ca : Nat → ClassId} {σ : HS} {x1 : Int32} {r0 : Int32} {s0 : HS} (hid : ∀ i, i < 277 → i ∈ ids) (h : f_X12_weightsOf x1 σ = some (r0, s0)) : Ki l D ids ad ca yX12_weightsOf cX12_weightsOf 4 .int 0 0 [.ref (ad 236), .int x1] σ (fun r σ1 => r = r0 ∧ σ1 = s0) := by
  obtain ⟨R, hR⟩ : ∃ R, (r0, s0) = R := ⟨_, rfl⟩
  replace h := h.trans (congrArg some hR)
  refine Ki.of (by decide) (Nat.le_of_ble_eq_true rfl) 2 (fun Γ C Rt => ?_)
  show AW ids ad ca Γ 0 [some (.ref (ad 236)), some (.int x1), none, none] [] σ
  unfold f_X12_weightsOf at h
  have j43 : ∀ (k4 : Int32 → Int32 → Int32 → HS → Option (Int32 × HS)) (hk4 : ∀ (y1 : Int32) (y2 : Int32) (y3 : Int32) (σ : HS), k4 y1 y2 y3 σ = some R → AW ids ad ca Γ 4 [some (.ref (ad 236)), some (.int y1), some (.int y2), some (.int y3)] [] σ) (y1 : Int32) (y2 : Int32) (y3 : Int32) (σ : HS), f_X12_weightsOf_43 k4 y1 y2 y3 σ = some R → AW ids ad ca Γ 43 [some (.ref (ad 236)), some (.int y1), some (.int y2), some (.int y3)] [] σ := by
    intro k4 hk4 y1 y2 y3 σ h
    unfold f_X12_weightsOf_43 at h
    refine p_iinc C (y := (y3 + 1)) (fun z1 => [some (.ref (ad 236)), some (.int y1), some (.int y2), some (.int z1)]) dX12_weightsOf_43 rfl rfl (by decide) rfl (fun _ => rfl) h (fun z1 h => ?_)
    refine a_goto C dX12_weightsOf_46 (tgt := 4) rfl ?_
    exact hk4 _ _ _ _ h
  have j4 : ∀ (n : Nat) (y1 : Int32) (y2 : Int32) (y3 : Int32) (σ : HS), f_X12_weightsOf_4 n y1 y2 y3 σ = some R → AW ids ad ca Γ 4 [some (.ref (ad 236)), some (.int y1), some (.int y2), some (.int y3)] [] σ := by
    intro n
    induction n with
    | zero => intro y1 y2 y3 σ h; exact nn h
    | succ n ih =>
      intro y1 y2 y3 σ h
      have h : b_X12_weightsOf_4 (f_X12_weightsOf_4 n) y1 y2 y3 σ = some R := h
      unfold b_X12_weightsOf_4 at h
      refine a_iload_n C dX12_weightsOf_4 (i := 3) rfl rfl ?_
      refine a_aload_n C dX12_weightsOf_5 (i := 0) rfl rfl ?_
      refine a_get C fl_RX12_43 (i := 236) kd_236 (hid 236 (by decide)) (v := .ref (ad 245)) rfl dX12_weightsOf_6 ?_
      refine a_aload_n C dX12_weightsOf_9 (i := 0) rfl rfl ?_
      refine a_get C fl_RX12_221 (i := 236) kd_236 (hid 236 (by decide)) (v := .int (σ.1 236 18)) rfl dX12_weightsOf_10 ?_
      refine p_iald C (i := 245) (show rowOK 245 from ⟨kd_245, by decide⟩) hid (by rw [al_245]; rfl) dX12_weightsOf_13 h (fun h => ?_)
      refine p_ic_ge C (X := y3.toInt) (Y := (σ.1 245 (σ.1 236 18).toInt.toNat).toInt) rfl rfl dX12_weightsOf_14 (tgt := 49) rfl h (fun h => ?_) (fun h => ?_)
      ·
        refine a_iload_n C dX12_weightsOf_49 (i := 2) rfl rfl ?_
        exact a_iret Rt dX12_weightsOf_50 rfl (ret_eq (h.trans (congrArg some hR.symm)))
      ·
        refine a_iload_n C dX12_weightsOf_17 (i := 1) rfl rfl ?_
        refine a_iload_n C dX12_weightsOf_18 (i := 3) rfl rfl ?_
        refine a_ishr C dX12_weightsOf_19 ?_
        refine a_iconst C dX12_weightsOf_20 (v := 1) rfl ?_
        refine a_iand C dX12_weightsOf_21 ?_
        refine a_iconst C dX12_weightsOf_22 (v := 1) rfl ?_
        refine p_ic_ne C (X := ((y1 >>> (y3 &&& 31)) &&& (1 : Int32)).toInt) (Y := 1) rfl (by decide) dX12_weightsOf_23 (tgt := 43) rfl h (fun h => ?_) (fun h => ?_)
        ·
          exact j43 (f_X12_weightsOf_4 n) (fun y1 y2 y3 σ h => ih y1 y2 y3 σ h) _ _ _ _ h
        ·
          refine a_iload_n C dX12_weightsOf_26 (i := 2) rfl rfl ?_
          refine a_aload_n C dX12_weightsOf_27 (i := 0) rfl rfl ?_
          refine a_get C fl_RX12_46 (i := 236) kd_236 (hid 236 (by decide)) (v := .ref (ad 246)) rfl dX12_weightsOf_28 ?_
          refine a_bipush C dX12_weightsOf_31 (v := 7) rfl ?_
          refine a_aload_n C dX12_weightsOf_33 (i := 0) rfl rfl ?_
          refine a_get C fl_RX12_221 (i := 236) kd_236 (hid 236 (by decide)) (v := .int (σ.1 236 18)) rfl dX12_weightsOf_34 ?_
          refine a_imul C dX12_weightsOf_37 ?_
          refine a_iload_n C dX12_weightsOf_38 (i := 3) rfl rfl ?_
          refine a_iadd C dX12_weightsOf_39 ?_
          refine p_iald C (i := 246) (show rowOK 246 from ⟨kd_246, by decide⟩) hid (by rw [al_246]; rfl) dX12_weightsOf_40 h (fun h => ?_)
          refine a_iadd C dX12_weightsOf_41 ?_
          refine p_istore_n C (fun z1 => [some (.ref (ad 236)), some (.int y1), some (.int z1), some (.int y3)]) dX12_weightsOf_42 (i := 2) rfl (by decide) rfl (fun _ => rfl) h (fun z1 h => ?_)
          exact j43 (f_X12_weightsOf_4 n) (fun y1 y2 y3 σ h => ih y1 y2 y3 σ h) _ _ _ _ h
  refine a_iconst C dX12_weightsOf_0 (v := 0) rfl ?_
  refine a_istore_n C dX12_weightsOf_1 (i := 2) rfl (by decide) rfl (vs1 := [some (.ref (ad 236)), some (.int x1), some (.int 0), none]) rfl ?_
  refine a_iconst C dX12_weightsOf_2 (v := 0) rfl ?_
  refine a_istore_n C dX12_weightsOf_3 (i := 3) rfl (by decide) rfl (vs1 := [some (.ref (ad 236)), some (.int x1), some (.int 0), some (.int 0)]) rfl ?_
  exact j4 _ _ _ _ _ h
set_option maxHeartbeats 4000000 in
set_option maxRecDepth 100000 in
theorem Z_X12_count {l : Launch} {D : va_G} {ids : List Nat} {ad : Nat → Nat} {ca : Nat → ClassId} {σ : HS} {x1 : Int32} {r0 : Int32} {s0 : HS} (hid : ∀ i, i < 277 → i ∈ ids) (h : f_X12_count x1 σ = some (r0, s0)) : Ki l D ids ad ca yX12_count cX12_count 2 .int 3 63 [.ref (ad 236), .int x1] σ (fun r σ1 => r = r0 ∧ σ1 = s0) := by
  obtain ⟨R, hR⟩ : ∃ R, (r0, s0) = R := ⟨_, rfl⟩
  replace h := h.trans (congrArg some hR)
  refine Ki.of (by decide) (Nat.le_of_ble_eq_true rfl) 0 (fun Γ C Rt => ?_)
  show AW ids ad ca Γ 0 [some (.ref (ad 236)), some (.int x1)] [] σ
  unfold f_X12_count at h
  have j221 : ∀ (v0 : Int32) (v1 : Int32) (σ : HS), f_X12_count_221 v0 v1 σ = some R → AW ids ad ca Γ 221 [none, none] [.int v0, .int v1] σ := by
    intro v0 v1 σ h
    unfold f_X12_count_221 at h
    refine a_iadd C dX12_count_221 ?_
    exact a_iret Rt dX12_count_222 rfl (ret_eq (h.trans (congrArg some hR.symm)))
  have j206 : ∀ (v0 : Int32) (v1 : Int32) (σ : HS), f_X12_count_206 v0 v1 σ = some R → AW ids ad ca Γ 206 [some (.ref (ad 236)), none] [.int v0, .int v1] σ := by
    intro v0 v1 σ h
    unfold f_X12_count_206 at h
    refine a_iadd C dX12_count_206 ?_
    refine a_aload_n C dX12_count_207 (i := 0) rfl rfl ?_
    refine a_get C fl_RX12_134 (i := 236) kd_236 (hid 236 (by decide)) (v := .ref (ad 275)) rfl dX12_count_208 ?_
    refine a_iconst C dX12_count_211 (v := 2) rfl ?_
    refine p_zaldc C (i := 275) 2 kd_275 (hid 275 (by decide)) (by decide) (by rw [al_275]; decide) dX12_count_212 ?_
    refine p_if_eq C (X := (σ.1 275 2).toInt) rfl dX12_count_213 (tgt := 220) rfl h (fun h => ?_) (fun h => ?_)
    ·
      refine a_iconst C dX12_count_220 (v := 0) rfl ?_
      refine AW.sub (vs' := [none, none]) (lsub_of (by simp [lsubB])) ?_
      exact j221 _ _ _ h
    ·
      refine a_iconst C dX12_count_216 (v := 1) rfl ?_
      refine a_goto C dX12_count_217 (tgt := 221) rfl ?_
      refine AW.sub (vs' := [none, none]) (lsub_of (by simp [lsubB])) ?_
      exact j221 _ _ _ h
  have j192 : ∀ (v0 : Int32) (σ : HS), f_X12_count_192 v0 σ = some R → AW ids ad ca Γ 192 [some (.ref (ad 236)), none] [.int v0] σ := by
    intro v0 σ h
    unfold f_X12_count_192 at h
    refine a_aload_n C dX12_count_192 (i := 0) rfl rfl ?_
    refine a_get C fl_RX12_134 (i := 236) kd_236 (hid 236 (by decide)) (v := .ref (ad 275)) rfl dX12_count_193 ?_
    refine a_iconst C dX12_count_196 (v := 1) rfl ?_
    refine p_zaldc C (i := 275) 1 kd_275 (hid 275 (by decide)) (by decide) (by rw [al_275]; decide) dX12_count_197 ?_
    refine p_if_eq C (X := (σ.1 275 1).toInt) rfl dX12_count_198 (tgt := 205) rfl h (fun h => ?_) (fun h => ?_)
    ·
      refine a_iconst C dX12_count_205 (v := 0) rfl ?_
      exact j206 _ _ _ h
    ·
      refine a_iconst C dX12_count_201 (v := 1) rfl ?_
      refine a_goto C dX12_count_202 (tgt := 206) rfl ?_
      exact j206 _ _ _ h
  refine a_aload_n C dX12_count_0 (i := 0) rfl rfl ?_
  refine p_callVv C (As := []) (i := 236) kd_236 (hid 236 (by decide)) ⟨_, _, rfl⟩ (by decide) h (fun _ e => Z_X12_copies hid e) mi_X12_copies ml_RX12_311 rfl rfl (Nat.le_of_ble_eq_true rfl) (Nat.le_of_ble_eq_true rfl) (Nat.le_of_ble_eq_true rfl) dX12_count_1 (fun σ1 h => ?_)
  refine a_iload_n C dX12_count_4 (i := 1) rfl rfl ?_
  refine ite_k h (fun c1 h => ?_) (fun c1 h => ?_)
  ·
    refine a_tableIn C dX12_count_5 (by omega) (by omega) (by rw [c1]; rfl) (tgt := 92) rfl ?_
    refine a_aload_n C dX12_count_92 (i := 0) rfl rfl ?_
    refine a_get C fl_RX12_43 (i := 236) kd_236 (hid 236 (by decide)) (v := .ref (ad 245)) rfl dX12_count_93 ?_
    refine a_aload_n C dX12_count_96 (i := 0) rfl rfl ?_
    refine a_get C fl_RX12_221 (i := 236) kd_236 (hid 236 (by decide)) (v := .int (σ1.1 236 18)) rfl dX12_count_97 ?_
    refine p_iald C (i := 245) (show rowOK 245 from ⟨kd_245, by decide⟩) hid (by rw [al_245]; rfl) dX12_count_100 h (fun h => ?_)
    exact a_iret Rt dX12_count_101 rfl (ret_eq (h.trans (congrArg some hR.symm)))
  ·
    refine ite_k h (fun c2 h => ?_) (fun c2 h => ?_)
    ·
      refine a_tableIn C dX12_count_5 (by omega) (by omega) (by rw [c2]; rfl) (tgt := 102) rfl ?_
      refine a_aload_n C dX12_count_102 (i := 0) rfl rfl ?_
      refine a_get C fl_RX12_55 (i := 236) kd_236 (hid 236 (by decide)) (v := .ref (ad 249)) rfl dX12_count_103 ?_
      refine a_aload_n C dX12_count_106 (i := 0) rfl rfl ?_
      refine a_get C fl_RX12_221 (i := 236) kd_236 (hid 236 (by decide)) (v := .int (σ1.1 236 18)) rfl dX12_count_107 ?_
      refine p_iald C (i := 249) (show rowOK 249 from ⟨kd_249, by decide⟩) hid (by rw [al_249]; rfl) dX12_count_110 h (fun h => ?_)
      exact a_iret Rt dX12_count_111 rfl (ret_eq (h.trans (congrArg some hR.symm)))
    ·
      refine ite_k h (fun c3 h => ?_) (fun c3 h => ?_)
      ·
        refine a_tableIn C dX12_count_5 (by omega) (by omega) (by rw [c3]; rfl) (tgt := 112) rfl ?_
        refine a_aload_n C dX12_count_112 (i := 0) rfl rfl ?_
        refine a_get C fl_RX12_110 (i := 236) kd_236 (hid 236 (by decide)) (v := .ref (ad 267)) rfl dX12_count_113 ?_
        refine a_bipush C dX12_count_116 (v := 21) rfl ?_
        refine p_ialdc C (i := 267) 21 (show rowOK 267 from ⟨kd_267, by decide⟩) hid (by decide) (by rw [al_267]; decide) dX12_count_118 ?_
        exact a_iret Rt dX12_count_119 rfl (ret_eq (h.trans (congrArg some hR.symm)))
      ·
        refine ite_k h (fun c4 h => ?_) (fun c4 h => ?_)
        ·
          refine a_tableIn C dX12_count_5 (by omega) (by omega) (by rw [c4]; rfl) (tgt := 120) rfl ?_
          refine a_aload_n C dX12_count_120 (i := 0) rfl rfl ?_
          refine a_get C fl_RX12_110 (i := 236) kd_236 (hid 236 (by decide)) (v := .ref (ad 267)) rfl dX12_count_121 ?_
          refine a_bipush C dX12_count_124 (v := 22) rfl ?_
          refine p_ialdc C (i := 267) 22 (show rowOK 267 from ⟨kd_267, by decide⟩) hid (by decide) (by rw [al_267]; decide) dX12_count_126 ?_
          exact a_iret Rt dX12_count_127 rfl (ret_eq (h.trans (congrArg some hR.symm)))
        ·
          refine ite_k h (fun c5 h => ?_) (fun c5 h => ?_)
          ·
            refine a_tableIn C dX12_count_5 (by omega) (by omega) (by rw [c5]; rfl) (tgt := 128) rfl ?_
            refine a_aload_n C dX12_count_128 (i := 0) rfl rfl ?_
            refine a_iconst C dX12_count_129 (v := 0) rfl ?_
            refine p_callVi C (As := [.int 0]) (i := 236) kd_236 (hid 236 (by decide)) ⟨_, _, rfl⟩ (by decide) h (fun _ _ e => Z_X12_thingsSo hid e) mi_X12_thingsSo ml_RX12_350 rfl rfl (Nat.le_of_ble_eq_true rfl) (Nat.le_of_ble_eq_true rfl) (Nat.le_of_ble_eq_true rfl) dX12_count_130 (fun r4 σ3 h => ?_)
            exact a_iret Rt dX12_count_133 rfl (ret_eq (h.trans (congrArg some hR.symm)))
          ·
            refine ite_k h (fun c6 h => ?_) (fun c6 h => ?_)
            ·
              refine a_tableIn C dX12_count_5 (by omega) (by omega) (by rw [c6]; rfl) (tgt := 134) rfl ?_
              refine a_aload_n C dX12_count_134 (i := 0) rfl rfl ?_
              refine a_iconst C dX12_count_135 (v := 2) rfl ?_
              refine p_callVi C (As := [.int 2]) (i := 236) kd_236 (hid 236 (by decide)) ⟨_, _, rfl⟩ (by decide) h (fun _ _ e => Z_X12_thingsSo hid e) mi_X12_thingsSo ml_RX12_350 rfl rfl (Nat.le_of_ble_eq_true rfl) (Nat.le_of_ble_eq_true rfl) (Nat.le_of_ble_eq_true rfl) dX12_count_136 (fun r6 σ5 h => ?_)
              exact a_iret Rt dX12_count_139 rfl (ret_eq (h.trans (congrArg some hR.symm)))
            ·
              refine ite_k h (fun c7 h => ?_) (fun c7 h => ?_)
              ·
                refine a_tableIn C dX12_count_5 (by omega) (by omega) (by rw [c7]; rfl) (tgt := 140) rfl ?_
                refine a_aload_n C dX12_count_140 (i := 0) rfl rfl ?_
                refine a_get C fl_RX12_110 (i := 236) kd_236 (hid 236 (by decide)) (v := .ref (ad 267)) rfl dX12_count_141 ?_
                refine a_bipush C dX12_count_144 (v := 17) rfl ?_
                refine a_iload_n C dX12_count_146 (i := 1) rfl rfl ?_
                refine a_iadd C dX12_count_147 ?_
                refine p_iald C (i := 267) (show rowOK 267 from ⟨kd_267, by decide⟩) hid (by rw [al_267]; rfl) dX12_count_148 h (fun h => ?_)
                exact a_iret Rt dX12_count_149 rfl (ret_eq (h.trans (congrArg some hR.symm)))
              ·
                refine ite_k h (fun c8 h => ?_) (fun c8 h => ?_)
                ·
                  refine a_tableIn C dX12_count_5 (by omega) (by omega) (by rw [c8]; rfl) (tgt := 140) rfl ?_
                  refine a_aload_n C dX12_count_140 (i := 0) rfl rfl ?_
                  refine a_get C fl_RX12_110 (i := 236) kd_236 (hid 236 (by decide)) (v := .ref (ad 267)) rfl dX12_count_141 ?_
                  refine a_bipush C dX12_count_144 (v := 17) rfl ?_
                  refine a_iload_n C dX12_count_146 (i := 1) rfl rfl ?_
                  refine a_iadd C dX12_count_147 ?_
                  refine p_iald C (i := 267) (show rowOK 267 from ⟨kd_267, by decide⟩) hid (by rw [al_267]; rfl) dX12_count_148 h (fun h => ?_)
                  exact a_iret Rt dX12_count_149 rfl (ret_eq (h.trans (congrArg some hR.symm)))
                ·
                  refine ite_k h (fun c9 h => ?_) (fun c9 h => ?_)
                  ·
                    refine a_tableIn C dX12_count_5 (by omega) (by omega) (by rw [c9]; rfl) (tgt := 140) rfl ?_
                    refine a_aload_n C dX12_count_140 (i := 0) rfl rfl ?_
                    refine a_get C fl_RX12_110 (i := 236) kd_236 (hid 236 (by decide)) (v := .ref (ad 267)) rfl dX12_count_141 ?_
                    refine a_bipush C dX12_count_144 (v := 17) rfl ?_
                    refine a_iload_n C dX12_count_146 (i := 1) rfl rfl ?_
                    refine a_iadd C dX12_count_147 ?_
                    refine p_iald C (i := 267) (show rowOK 267 from ⟨kd_267, by decide⟩) hid (by rw [al_267]; rfl) dX12_count_148 h (fun h => ?_)
                    exact a_iret Rt dX12_count_149 rfl (ret_eq (h.trans (congrArg some hR.symm)))
                  ·
                    refine ite_k h (fun c10 h => ?_) (fun c10 h => ?_)
                    ·
                      refine a_tableIn C dX12_count_5 (by omega) (by omega) (by rw [c10]; rfl) (tgt := 150) rfl ?_
                      refine a_aload_n C dX12_count_150 (i := 0) rfl rfl ?_
                      refine a_get C fl_RX12_110 (i := 236) kd_236 (hid 236 (by decide)) (v := .ref (ad 267)) rfl dX12_count_151 ?_
                      refine a_bipush C dX12_count_154 (v := 26) rfl ?_
                      refine p_ialdc C (i := 267) 26 (show rowOK 267 from ⟨kd_267, by decide⟩) hid (by decide) (by rw [al_267]; decide) dX12_count_156 ?_
                      exact a_iret Rt dX12_count_157 rfl (ret_eq (h.trans (congrArg some hR.symm)))
                    ·
                      refine ite_k h (fun c11 h => ?_) (fun c11 h => ?_)
                      ·
                        refine a_tableIn C dX12_count_5 (by omega) (by omega) (by rw [c11]; rfl) (tgt := 158) rfl ?_
                        refine a_aload_n C dX12_count_158 (i := 0) rfl rfl ?_
                        refine p_callVi C (As := []) (i := 236) kd_236 (hid 236 (by decide)) ⟨_, _, rfl⟩ (by decide) h (fun _ _ e => Z_X12_heightNow hid e) mi_X12_heightNow ml_RX12_347 rfl rfl (Nat.le_of_ble_eq_true rfl) (Nat.le_of_ble_eq_true rfl) (Nat.le_of_ble_eq_true rfl) dX12_count_159 (fun r8 σ7 h => ?_)
                        exact a_iret Rt dX12_count_162 rfl (ret_eq (h.trans (congrArg some hR.symm)))
                      ·
                        refine ite_k h (fun c12 h => ?_) (fun c12 h => ?_)
                        ·
                          refine a_tableIn C dX12_count_5 (by omega) (by omega) (by rw [c12]; rfl) (tgt := 163) rfl ?_
                          refine a_aload_n C dX12_count_163 (i := 0) rfl rfl ?_
                          refine a_get C fl_RX12_154 (i := 236) kd_236 (hid 236 (by decide)) (v := .int (σ1.1 236 2)) rfl dX12_count_164 ?_
                          exact a_iret Rt dX12_count_167 rfl (ret_eq (h.trans (congrArg some hR.symm)))
                        ·
                          refine ite_k h (fun c13 h => ?_) (fun c13 h => ?_)
                          ·
                            refine a_tableIn C dX12_count_5 (by omega) (by omega) (by rw [c13]; rfl) (tgt := 168) rfl ?_
                            refine a_aload_n C dX12_count_168 (i := 0) rfl rfl ?_
                            refine a_get C fl_RX12_239 (i := 236) kd_236 (hid 236 (by decide)) (v := .int (σ1.1 236 54)) rfl dX12_count_169 ?_
                            exact a_iret Rt dX12_count_172 rfl (ret_eq (h.trans (congrArg some hR.symm)))
                          ·
                            refine ite_k h (fun c14 h => ?_) (fun c14 h => ?_)
                            ·
                              refine a_tableIn C dX12_count_5 (by omega) (by omega) (by rw [c14]; rfl) (tgt := 173) rfl ?_
                              refine a_aload_n C dX12_count_173 (i := 0) rfl rfl ?_
                              refine a_get C fl_RX12_242 (i := 236) kd_236 (hid 236 (by decide)) (v := .int (σ1.1 236 60)) rfl dX12_count_174 ?_
                              exact a_iret Rt dX12_count_177 rfl (ret_eq (h.trans (congrArg some hR.symm)))
                            ·
                              refine ite_k h (fun c15 h => ?_) (fun c15 h => ?_)
                              ·
                                refine a_tableIn C dX12_count_5 (by omega) (by omega) (by rw [c15]; rfl) (tgt := 178) rfl ?_
                                refine a_aload_n C dX12_count_178 (i := 0) rfl rfl ?_
                                refine a_get C fl_RX12_134 (i := 236) kd_236 (hid 236 (by decide)) (v := .ref (ad 275)) rfl dX12_count_179 ?_
                                refine a_iconst C dX12_count_182 (v := 0) rfl ?_
                                refine p_zaldc C (i := 275) 0 kd_275 (hid 275 (by decide)) (by decide) (by rw [al_275]; decide) dX12_count_183 ?_
                                refine p_if_eq C (X := (σ1.1 275 0).toInt) rfl dX12_count_184 (tgt := 191) rfl h (fun h => ?_) (fun h => ?_)
                                ·
                                  refine a_iconst C dX12_count_191 (v := 0) rfl ?_
                                  refine AW.sub (vs' := [some (.ref (ad 236)), none]) (lsub_of (by simp [lsubB])) ?_
                                  exact j192 _ _ h
                                ·
                                  refine a_iconst C dX12_count_187 (v := 1) rfl ?_
                                  refine a_goto C dX12_count_188 (tgt := 192) rfl ?_
                                  refine AW.sub (vs' := [some (.ref (ad 236)), none]) (lsub_of (by simp [lsubB])) ?_
                                  exact j192 _ _ h
                              ·
                                refine ite_k h (fun c16 h => ?_) (fun c16 h => ?_)
                                ·
                                  refine a_tableIn C dX12_count_5 (by omega) (by omega) (by rw [c16]; rfl) (tgt := 223) rfl ?_
                                  refine a_aload_n C dX12_count_223 (i := 0) rfl rfl ?_
                                  refine a_aload_n C dX12_count_224 (i := 0) rfl rfl ?_
                                  refine a_iconst C dX12_count_225 (v := 0) rfl ?_
                                  refine p_callVi C (As := [.int 0]) (i := 236) kd_236 (hid 236 (by decide)) ⟨_, _, rfl⟩ (by decide) h (fun _ _ e => Z_X12_thingsSo hid e) mi_X12_thingsSo ml_RX12_350 rfl rfl (Nat.le_of_ble_eq_true rfl) (Nat.le_of_ble_eq_true rfl) (Nat.le_of_ble_eq_true rfl) dX12_count_226 (fun r10 σ9 h => ?_)
                                  refine p_callVi C (As := [.int r10]) (i := 236) kd_236 (hid 236 (by decide)) ⟨_, _, rfl⟩ (by decide) h (fun _ _ e => Z_X12_weightsOf hid e) mi_X12_weightsOf ml_RX12_461 rfl rfl (Nat.le_of_ble_eq_true rfl) (Nat.le_of_ble_eq_true rfl) (Nat.le_of_ble_eq_true rfl) dX12_count_229 (fun r12 σ11 h => ?_)
                                  exact a_iret Rt dX12_count_232 rfl (ret_eq (h.trans (congrArg some hR.symm)))
                                ·
                                  refine ite_k h (fun c17 h => ?_) (fun c17 h => ?_)
                                  ·
                                    refine a_tableIn C dX12_count_5 (by omega) (by omega) (by rw [c17]; rfl) (tgt := 233) rfl ?_
                                    refine a_aload_n C dX12_count_233 (i := 0) rfl rfl ?_
                                    refine a_aload_n C dX12_count_234 (i := 0) rfl rfl ?_
                                    refine a_iconst C dX12_count_235 (v := 2) rfl ?_
                                    refine p_callVi C (As := [.int 2]) (i := 236) kd_236 (hid 236 (by decide)) ⟨_, _, rfl⟩ (by decide) h (fun _ _ e => Z_X12_thingsSo hid e) mi_X12_thingsSo ml_RX12_350 rfl rfl (Nat.le_of_ble_eq_true rfl) (Nat.le_of_ble_eq_true rfl) (Nat.le_of_ble_eq_true rfl) dX12_count_236 (fun r14 σ13 h => ?_)
                                    refine p_callVi C (As := [.int r14]) (i := 236) kd_236 (hid 236 (by decide)) ⟨_, _, rfl⟩ (by decide) h (fun _ _ e => Z_X12_weightsOf hid e) mi_X12_weightsOf ml_RX12_461 rfl rfl (Nat.le_of_ble_eq_true rfl) (Nat.le_of_ble_eq_true rfl) (Nat.le_of_ble_eq_true rfl) dX12_count_239 (fun r16 σ15 h => ?_)
                                    exact a_iret Rt dX12_count_242 rfl (ret_eq (h.trans (congrArg some hR.symm)))
                                  ·
                                    refine ite_k h (fun c18 h => ?_) (fun c18 h => ?_)
                                    ·
                                      refine a_tableIn C dX12_count_5 (by omega) (by omega) (by rw [c18]; rfl) (tgt := 243) rfl ?_
                                      refine a_aload_n C dX12_count_243 (i := 0) rfl rfl ?_
                                      refine a_iconst C dX12_count_244 (v := 1) rfl ?_
                                      refine p_callVi C (As := [.int 1]) (i := 236) kd_236 (hid 236 (by decide)) ⟨_, _, rfl⟩ (by decide) h (fun _ _ e => Z_X12_thingsSo hid e) mi_X12_thingsSo ml_RX12_350 rfl rfl (Nat.le_of_ble_eq_true rfl) (Nat.le_of_ble_eq_true rfl) (Nat.le_of_ble_eq_true rfl) dX12_count_245 (fun r18 σ17 h => ?_)
                                      exact a_iret Rt dX12_count_248 rfl (ret_eq (h.trans (congrArg some hR.symm)))
                                    ·
                                      refine a_tableOut C dX12_count_5 (by omega) (tgt := 249) rfl ?_
                                      refine a_iconst C dX12_count_249 (v := (-1)) rfl ?_
                                      exact a_iret Rt dX12_count_250 rfl (ret_eq (h.trans (congrArg some hR.symm)))

