set_option maxHeartbeats 4000000 in
set_option maxRecDepth 100000 in
theorem Z_X12_into {l : Launch} {D : va_G} {ids : List Nat} {ad : Nat → Nat} {ca : Nat → ClassId} {σ : HS} {x1 : Int32} {x2 : Int32} {r0 : Int32} {s0 : HS} (hid : ∀ i, i < 277 → i ∈ ids) (h : f_X12_into x1 x2 σ = some (r0, s0)) : Ki l D ids ad ca yX12_into cX12_into 5 .int 4 87 [.ref (ad 236), .int x1, .int x2] σ (fun r σ1 => r = r0 ∧ σ1 = s0) := by
  obtain ⟨R, hR⟩ : ∃ R, (r0, s0) = R := ⟨_, rfl⟩
  replace h := h.trans (congrArg some hR)
  refine Ki.of (by decide) (Nat.le_of_ble_eq_true rfl) 2 (fun Γ C Rt => ?_)
  show AW ids ad ca Γ 0 [some (.ref (ad 236)), some (.int x1), some (.int x2), none, none] [] σ
  unfold f_X12_into at h
  have j55 : ∀ (y2 : Int32) (σ : HS), f_X12_into_55 y2 σ = some R → AW ids ad ca Γ 55 [none, none, some (.int y2), none, none] [] σ := by
    intro y2 σ h
    unfold f_X12_into_55 at h
    refine a_iload_n C dX12_into_55 (i := 2) rfl rfl ?_
    refine a_iconst C dX12_into_56 (v := (-1)) rfl ?_
    refine p_ic_ne C (X := y2.toInt) (Y := (-1)) rfl (by decide) dX12_into_57 (tgt := 65) rfl h (fun h => ?_) (fun h => ?_)
    ·
      refine a_bipush C dX12_into_65 (v := (-3)) rfl ?_
      exact a_iret Rt dX12_into_67 rfl (ret_eq (h.trans (congrArg some hR.symm)))
    ·
      refine a_bipush C dX12_into_60 (v := (-2)) rfl ?_
      refine a_goto C dX12_into_62 (tgt := 67) rfl ?_
      exact a_iret Rt dX12_into_67 rfl (ret_eq (h.trans (congrArg some hR.symm)))
  have j95 : ∀ (n : Nat) (y2 : Int32) (y3 : Int32) (y4 : Int32) (σ : HS), f_X12_into_95 n y2 y3 y4 σ = some R → AW ids ad ca Γ 95 [some (.ref (ad 236)), none, some (.int y2), some (.int y3), some (.int y4)] [] σ := by
    intro n
    induction n with
    | zero => intro y2 y3 y4 σ h; exact nn h
    | succ n ih =>
      intro y2 y3 y4 σ h
      have h : b_X12_into_95 (f_X12_into_95 n) y2 y3 y4 σ = some R := h
      unfold b_X12_into_95 at h
      refine a_iload C dX12_into_95 rfl ?_
      refine a_iload_n C dX12_into_97 (i := 2) rfl rfl ?_
      refine p_ic_ge C (X := y4.toInt) (Y := y2.toInt) rfl rfl dX12_into_98 (tgt := 117) rfl h (fun h => ?_) (fun h => ?_)
      ·
        refine a_aload_n C dX12_into_117 (i := 0) rfl rfl ?_
        refine a_iload_n C dX12_into_118 (i := 3) rfl rfl ?_
        refine p_callVi C (As := [.int y3]) (i := 236) kd_236 (hid 236 (by decide)) ⟨_, _, rfl⟩ (by decide) h (fun _ _ e => Z_X12_firstOf hid e) mi_X12_firstOf ml_RX12_448 rfl rfl (Nat.le_of_ble_eq_true rfl) (Nat.le_of_ble_eq_true rfl) (Nat.le_of_ble_eq_true rfl) dX12_into_119 (fun r2 σ1 h => ?_)
        exact a_iret Rt dX12_into_122 rfl (ret_eq (h.trans (congrArg some hR.symm)))
      ·
        refine a_iload_n C dX12_into_101 (i := 3) rfl rfl ?_
        refine a_aload_n C dX12_into_102 (i := 0) rfl rfl ?_
        refine a_iload_n C dX12_into_103 (i := 3) rfl rfl ?_
        refine p_callVi C (As := [.int y3]) (i := 236) kd_236 (hid 236 (by decide)) ⟨_, _, rfl⟩ (by decide) h (fun _ _ e => Z_X12_firstOf hid e) mi_X12_firstOf ml_RX12_448 rfl rfl (Nat.le_of_ble_eq_true rfl) (Nat.le_of_ble_eq_true rfl) (Nat.le_of_ble_eq_true rfl) dX12_into_104 (fun r4 σ3 h => ?_)
        refine p_callSi C (As := [.int y3, .int r4]) h (fun _ _ e => Z_X12_nextOf hid e) ms_X12_nextOf ml_RX12_432 rfl rfl (Nat.le_of_ble_eq_true rfl) (Nat.le_of_ble_eq_true rfl) (Nat.le_of_ble_eq_true rfl) dX12_into_107 (fun r6 σ5 h => ?_)
        refine a_istore_n C dX12_into_110 (i := 3) rfl (by decide) rfl (vs1 := [some (.ref (ad 236)), none, some (.int y2), some (.int r6), some (.int y4)]) rfl ?_
        refine p_iinc C (y := (y4 + 1)) (fun z7 => [some (.ref (ad 236)), none, some (.int y2), some (.int r6), some (.int z7)]) dX12_into_111 rfl rfl (by decide) rfl (fun _ => rfl) h (fun z7 h => ?_)
        refine a_goto C dX12_into_114 (tgt := 95) rfl ?_
        exact ih _ _ _ _ h
  refine a_aload_n C dX12_into_0 (i := 0) rfl rfl ?_
  refine a_iload_n C dX12_into_1 (i := 1) rfl rfl ?_
  refine p_callVi C (As := [.int x1]) (i := 236) kd_236 (hid 236 (by decide)) ⟨_, _, rfl⟩ (by decide) h (fun _ _ e => Z_X12_isPattern hid e) mi_X12_isPattern ml_RX12_393 rfl rfl (Nat.le_of_ble_eq_true rfl) (Nat.le_of_ble_eq_true rfl) (Nat.le_of_ble_eq_true rfl) dX12_into_2 (fun r2 σ1 h => ?_)
  refine p_if_eq C (X := r2.toInt) rfl dX12_into_5 (tgt := 21) rfl h (fun h => ?_) (fun h => ?_)
  ·
    refine a_iconst C dX12_into_21 (v := (-1)) rfl ?_
    exact a_iret Rt dX12_into_22 rfl (ret_eq (h.trans (congrArg some hR.symm)))
  ·
    refine a_aload_n C dX12_into_8 (i := 0) rfl rfl ?_
    refine a_iload_n C dX12_into_9 (i := 1) rfl rfl ?_
    refine p_callVi C (As := [.int x1]) (i := 236) kd_236 (hid 236 (by decide)) ⟨_, _, rfl⟩ (by decide) h (fun _ _ e => Z_X12_keepsOf hid e) mi_X12_keepsOf ml_RX12_417 rfl rfl (Nat.le_of_ble_eq_true rfl) (Nat.le_of_ble_eq_true rfl) (Nat.le_of_ble_eq_true rfl) dX12_into_10 (fun r4 σ3 h => ?_)
    refine p_if_lt C (X := r4.toInt) rfl dX12_into_13 (tgt := 21) rfl h (fun h => ?_) (fun h => ?_)
    ·
      refine a_iconst C dX12_into_21 (v := (-1)) rfl ?_
      exact a_iret Rt dX12_into_22 rfl (ret_eq (h.trans (congrArg some hR.symm)))
    ·
      refine a_iload_n C dX12_into_16 (i := 2) rfl rfl ?_
      refine a_iconst C dX12_into_17 (v := (-1)) rfl ?_
      refine p_ic_ge C (X := x2.toInt) (Y := (-1)) rfl (by decide) dX12_into_18 (tgt := 23) rfl h (fun h => ?_) (fun h => ?_)
      ·
        refine a_aload_n C dX12_into_23 (i := 0) rfl rfl ?_
        refine p_callVi C (As := []) (i := 236) kd_236 (hid 236 (by decide)) ⟨_, _, rfl⟩ (by decide) h (fun _ _ e => Z_X12_lands hid e) mi_X12_lands ml_RX12_435 rfl rfl (Nat.le_of_ble_eq_true rfl) (Nat.le_of_ble_eq_true rfl) (Nat.le_of_ble_eq_true rfl) dX12_into_24 (fun r6 σ5 h => ?_)
        refine a_istore_n C dX12_into_27 (i := 3) rfl (by decide) rfl (vs1 := [some (.ref (ad 236)), some (.int x1), some (.int x2), some (.int r6), none]) rfl ?_
        refine a_aload_n C dX12_into_28 (i := 0) rfl rfl ?_
        refine a_aload_n C dX12_into_29 (i := 0) rfl rfl ?_
        refine a_iload_n C dX12_into_30 (i := 1) rfl rfl ?_
        refine p_callVi C (As := [.int x1]) (i := 236) kd_236 (hid 236 (by decide)) ⟨_, _, rfl⟩ (by decide) h (fun _ _ e => Z_X12_aimOf hid e) mi_X12_aimOf ml_RX12_438 rfl rfl (Nat.le_of_ble_eq_true rfl) (Nat.le_of_ble_eq_true rfl) (Nat.le_of_ble_eq_true rfl) dX12_into_31 (fun r8 σ7 h => ?_)
        refine p_callVv C (As := [.int r8]) (i := 236) kd_236 (hid 236 (by decide)) ⟨_, _, rfl⟩ (by decide) h (fun _ e => Z_X12_fillsFar hid e) mi_X12_fillsFar ml_RX12_441 rfl rfl (Nat.le_of_ble_eq_true rfl) (Nat.le_of_ble_eq_true rfl) (Nat.le_of_ble_eq_true rfl) dX12_into_34 (fun σ9 h => ?_)
        refine a_aload_n C dX12_into_37 (i := 0) rfl rfl ?_
        refine p_callVi C (As := []) (i := 236) kd_236 (hid 236 (by decide)) ⟨_, _, rfl⟩ (by decide) h (fun _ _ e => Z_X12_areTwoSoon hid e) mi_X12_areTwoSoon ml_RX12_444 rfl rfl (Nat.le_of_ble_eq_true rfl) (Nat.le_of_ble_eq_true rfl) (Nat.le_of_ble_eq_true rfl) dX12_into_38 (fun r12 σ11 h => ?_)
        refine p_if_ne C (X := r12.toInt) rfl dX12_into_41 (tgt := 55) rfl h (fun h => ?_) (fun h => ?_)
        ·
          refine AW.sub (vs' := [none, none, some (.int x2), none, none]) (lsub_of (by simp [lsubB])) ?_
          exact j55 _ _ h
        ·
          refine a_aload_n C dX12_into_44 (i := 0) rfl rfl ?_
          refine a_get C fl_RX12_119 (i := 236) kd_236 (hid 236 (by decide)) (v := .ref (ad 270)) rfl dX12_into_45 ?_
          refine a_iload_n C dX12_into_48 (i := 3) rfl rfl ?_
          refine p_iald C (i := 270) (show rowOK 270 from ⟨kd_270, by decide⟩) hid (by rw [al_270]; rfl) dX12_into_49 h (fun h => ?_)
          refine a_bipush C dX12_into_50 (v := 99) rfl ?_
          refine p_ic_ne C (X := (σ11.1 270 r6.toInt.toNat).toInt) (Y := 99) rfl (by decide) dX12_into_52 (tgt := 68) rfl h (fun h => ?_) (fun h => ?_)
          ·
            refine a_iload_n C dX12_into_68 (i := 2) rfl rfl ?_
            refine a_iconst C dX12_into_69 (v := (-1)) rfl ?_
            refine p_ic_ne C (X := x2.toInt) (Y := (-1)) rfl (by decide) dX12_into_70 (tgt := 80) rfl h (fun h => ?_) (fun h => ?_)
            ·
              refine a_iload_n C dX12_into_80 (i := 2) rfl rfl ?_
              refine a_aload_n C dX12_into_81 (i := 0) rfl rfl ?_
              refine a_get C fl_RX12_119 (i := 236) kd_236 (hid 236 (by decide)) (v := .ref (ad 270)) rfl dX12_into_82 ?_
              refine a_iload_n C dX12_into_85 (i := 3) rfl rfl ?_
              refine p_iald C (i := 270) (show rowOK 270 from ⟨kd_270, by decide⟩) hid (by rw [al_270]; rfl) dX12_into_86 h (fun h => ?_)
              refine p_ic_lt C (X := x2.toInt) (Y := (σ11.1 270 r6.toInt.toNat).toInt) rfl rfl dX12_into_87 (tgt := 92) rfl h (fun h => ?_) (fun h => ?_)
              ·
                refine a_iconst C dX12_into_92 (v := 0) rfl ?_
                refine a_istore C dX12_into_93 (by decide) rfl (vs1 := [some (.ref (ad 236)), some (.int x1), some (.int x2), some (.int r6), some (.int 0)]) rfl ?_
                refine AW.sub (vs' := [some (.ref (ad 236)), none, some (.int x2), some (.int r6), some (.int 0)]) (lsub_of (by simp [lsubB])) ?_
                exact j95 _ _ _ _ _ h
              ·
                refine a_iconst C dX12_into_90 (v := (-1)) rfl ?_
                exact a_iret Rt dX12_into_91 rfl (ret_eq (h.trans (congrArg some hR.symm)))
            ·
              refine a_aload_n C dX12_into_73 (i := 0) rfl rfl ?_
              refine a_get C fl_RX12_119 (i := 236) kd_236 (hid 236 (by decide)) (v := .ref (ad 270)) rfl dX12_into_74 ?_
              refine a_iload_n C dX12_into_77 (i := 3) rfl rfl ?_
              refine p_iald C (i := 270) (show rowOK 270 from ⟨kd_270, by decide⟩) hid (by rw [al_270]; rfl) dX12_into_78 h (fun h => ?_)
              exact a_iret Rt dX12_into_79 rfl (ret_eq (h.trans (congrArg some hR.symm)))
          ·
            refine AW.sub (vs' := [none, none, some (.int x2), none, none]) (lsub_of (by simp [lsubB])) ?_
            exact j55 _ _ h
      ·
        refine a_iconst C dX12_into_21 (v := (-1)) rfl ?_
        exact a_iret Rt dX12_into_22 rfl (ret_eq (h.trans (congrArg some hR.symm)))
set_option maxHeartbeats 4000000 in
set_option maxRecDepth 100000 in
theorem Z_X12_hasRoom {l : Launch} {D : va_G} {ids : List Nat} {ad : Nat → Nat} {ca : Nat → ClassId} {σ : HS} {x1 : Int32} {x2 : Int32} {r0 : Int32} {s0 : HS} (hid : ∀ i, i < 277 → i ∈ ids) (h : f_X12_hasRoom x1 x2 σ = some (r0, s0)) : Ki l D ids ad ca yX12_hasRoom cX12_hasRoom 4 .boolean 5 122 [.ref (ad 236), .int x1, .int x2] σ (fun r σ1 => r = r0 ∧ σ1 = s0) := by
  obtain ⟨R, hR⟩ : ∃ R, (r0, s0) = R := ⟨_, rfl⟩
  replace h := h.trans (congrArg some hR)
  refine Ki.of (by decide) (Nat.le_of_ble_eq_true rfl) 1 (fun Γ C Rt => ?_)
  show AW ids ad ca Γ 0 [some (.ref (ad 236)), some (.int x1), some (.int x2), none] [] σ
  unfold f_X12_hasRoom at h
  have j23 : ∀ (n : Nat) (y3 : Int32) (σ : HS), f_X12_hasRoom_23 n y3 σ = some R → AW ids ad ca Γ 23 [some (.ref (ad 236)), none, none, some (.int y3)] [] σ := by
    intro n
    induction n with
    | zero => intro y3 σ h; exact nn h
    | succ n ih =>
      intro y3 σ h
      have h : b_X12_hasRoom_23 (f_X12_hasRoom_23 n) y3 σ = some R := h
      unfold b_X12_hasRoom_23 at h
      refine a_iload_n C dX12_hasRoom_23 (i := 3) rfl rfl ?_
      refine a_bipush C dX12_hasRoom_24 (v := 60) rfl ?_
      refine p_ic_ge C (X := y3.toInt) (Y := 60) rfl (by decide) dX12_hasRoom_26 (tgt := 48) rfl h (fun h => ?_) (fun h => ?_)
      ·
        refine a_iconst C dX12_hasRoom_48 (v := 1) rfl ?_
        exact a_iret Rt dX12_hasRoom_49 (nar_z (by decide)).1 (ret_eq (h.trans (congrArg some hR.symm)))
      ·
        refine a_aload_n C dX12_hasRoom_29 (i := 0) rfl rfl ?_
        refine p_callVv C (As := []) (i := 236) kd_236 (hid 236 (by decide)) ⟨_, _, rfl⟩ (by decide) h (fun _ e => Z_X12_beatGoes hid e) mi_X12_beatGoes ml_RX12_387 rfl rfl (Nat.le_of_ble_eq_true rfl) (Nat.le_of_ble_eq_true rfl) (Nat.le_of_ble_eq_true rfl) dX12_hasRoom_30 (fun σ1 h => ?_)
        refine a_aload_n C dX12_hasRoom_33 (i := 0) rfl rfl ?_
        refine a_get C fl_RX12_344 (i := 236) kd_236 (hid 236 (by decide)) (v := .int (σ1.1 236 52)) rfl dX12_hasRoom_34 ?_
        refine p_if_eq C (X := (σ1.1 236 52).toInt) rfl dX12_hasRoom_37 (tgt := 42) rfl h (fun h => ?_) (fun h => ?_)
        ·
          refine p_iinc C (y := (y3 + 1)) (fun z3 => [some (.ref (ad 236)), none, none, some (.int z3)]) dX12_hasRoom_42 rfl rfl (by decide) rfl (fun _ => rfl) h (fun z3 h => ?_)
          refine a_goto C dX12_hasRoom_45 (tgt := 23) rfl ?_
          exact ih _ _ h
        ·
          refine a_iconst C dX12_hasRoom_40 (v := 0) rfl ?_
          exact a_iret Rt dX12_hasRoom_41 (nar_z (by decide)).1 (ret_eq (h.trans (congrArg some hR.symm)))
  refine a_aload_n C dX12_hasRoom_0 (i := 0) rfl rfl ?_
  refine p_callVv C (As := []) (i := 236) kd_236 (hid 236 (by decide)) ⟨_, _, rfl⟩ (by decide) h (fun _ e => Z_X12_copiesStill hid e) mi_X12_copiesStill ml_RX12_429 rfl rfl (Nat.le_of_ble_eq_true rfl) (Nat.le_of_ble_eq_true rfl) (Nat.le_of_ble_eq_true rfl) dX12_hasRoom_1 (fun σ1 h => ?_)
  refine a_aload_n C dX12_hasRoom_4 (i := 0) rfl rfl ?_
  refine a_get C fl_RX12_110 (i := 236) kd_236 (hid 236 (by decide)) (v := .ref (ad 267)) rfl dX12_hasRoom_5 ?_
  refine a_iload_n C dX12_hasRoom_8 (i := 1) rfl rfl ?_
  refine a_iconst C dX12_hasRoom_9 (v := 0) rfl ?_
  refine p_iast C (i := 267) (show rowOK 267 from ⟨kd_267, by decide⟩) hid (by rw [al_267]; rfl) dX12_hasRoom_10 h (fun σ3 h => ?_)
  refine a_aload_n C dX12_hasRoom_11 (i := 0) rfl rfl ?_
  refine a_get C fl_RX12_110 (i := 236) kd_236 (hid 236 (by decide)) (v := .ref (ad 267)) rfl dX12_hasRoom_12 ?_
  refine a_bipush C dX12_hasRoom_15 (v := 7) rfl ?_
  refine a_iload_n C dX12_hasRoom_17 (i := 1) rfl rfl ?_
  refine a_iadd C dX12_hasRoom_18 ?_
  refine a_iload_n C dX12_hasRoom_19 (i := 2) rfl rfl ?_
  refine p_iast C (i := 267) (show rowOK 267 from ⟨kd_267, by decide⟩) hid (by rw [al_267]; rfl) dX12_hasRoom_20 h (fun σ4 h => ?_)
  refine a_iconst C dX12_hasRoom_21 (v := 0) rfl ?_
  refine a_istore_n C dX12_hasRoom_22 (i := 3) rfl (by decide) rfl (vs1 := [some (.ref (ad 236)), some (.int x1), some (.int x2), some (.int 0)]) rfl ?_
  refine AW.sub (vs' := [some (.ref (ad 236)), none, none, some (.int 0)]) (lsub_of (by simp [lsubB])) ?_
  exact j23 _ _ _ h
set_option maxHeartbeats 4000000 in
set_option maxRecDepth 100000 in
theorem Z_X12_room {l : Launch} {D : va_G} {ids : List Nat} {ad : Nat → Nat} {ca : Nat → ClassId} {σ : HS} {x1 : Int32} {r0 : Int32} {s0 : HS} (hid : ∀ i, i < 277 → i ∈ ids) (h : f_X12_room x1 σ = some (r0, s0)) : Ki l D ids ad ca yX12_room cX12_room 3 .int 6 145 [.ref (ad 236), .int x1] σ (fun r σ1 => r = r0 ∧ σ1 = s0) := by
  obtain ⟨R, hR⟩ : ∃ R, (r0, s0) = R := ⟨_, rfl⟩
  replace h := h.trans (congrArg some hR)
  refine Ki.of (by decide) (Nat.le_of_ble_eq_true rfl) 1 (fun Γ C Rt => ?_)
  show AW ids ad ca Γ 0 [some (.ref (ad 236)), some (.int x1), none] [] σ
  unfold f_X12_room at h
  have j21 : ∀ (n : Nat) (y1 : Int32) (y2 : Int32) (σ : HS), f_X12_room_21 n y1 y2 σ = some R → AW ids ad ca Γ 21 [some (.ref (ad 236)), some (.int y1), some (.int y2)] [] σ := by
    intro n
    induction n with
    | zero => intro y1 y2 σ h; exact nn h
    | succ n ih =>
      intro y1 y2 σ h
      have h : b_X12_room_21 (f_X12_room_21 n) y1 y2 σ = some R := h
      unfold b_X12_room_21 at h
      refine a_iload_n C dX12_room_21 (i := 2) rfl rfl ?_
      refine a_bipush C dX12_room_22 (v := 10) rfl ?_
      refine p_ic_ge C (X := y2.toInt) (Y := 10) rfl (by decide) dX12_room_24 (tgt := 44) rfl h (fun h => ?_) (fun h => ?_)
      ·
        refine a_bipush C dX12_room_44 (v := (-2)) rfl ?_
        exact a_iret Rt dX12_room_46 rfl (ret_eq (h.trans (congrArg some hR.symm)))
      ·
        refine a_aload_n C dX12_room_27 (i := 0) rfl rfl ?_
        refine a_iload_n C dX12_room_28 (i := 1) rfl rfl ?_
        refine a_iload_n C dX12_room_29 (i := 2) rfl rfl ?_
        refine p_callVi C (As := [.int y1, .int y2]) (i := 236) kd_236 (hid 236 (by decide)) ⟨_, _, rfl⟩ (by decide) h (fun _ _ e => Z_X12_hasRoom hid e) mi_X12_hasRoom ml_RX12_451 rfl rfl (Nat.le_of_ble_eq_true rfl) (Nat.le_of_ble_eq_true rfl) (Nat.le_of_ble_eq_true rfl) dX12_room_30 (fun r2 σ1 h => ?_)
        refine p_if_eq C (X := r2.toInt) rfl dX12_room_33 (tgt := 38) rfl h (fun h => ?_) (fun h => ?_)
        ·
          refine p_iinc C (y := (y2 + 1)) (fun z3 => [some (.ref (ad 236)), some (.int y1), some (.int z3)]) dX12_room_38 rfl rfl (by decide) rfl (fun _ => rfl) h (fun z3 h => ?_)
          refine a_goto C dX12_room_41 (tgt := 21) rfl ?_
          exact ih _ _ _ h
        ·
          refine a_iload_n C dX12_room_36 (i := 2) rfl rfl ?_
          exact a_iret Rt dX12_room_37 rfl (ret_eq (h.trans (congrArg some hR.symm)))
  refine a_aload_n C dX12_room_0 (i := 0) rfl rfl ?_
  refine a_iload_n C dX12_room_1 (i := 1) rfl rfl ?_
  refine p_callVi C (As := [.int x1]) (i := 236) kd_236 (hid 236 (by decide)) ⟨_, _, rfl⟩ (by decide) h (fun _ _ e => Z_X12_isThing hid e) mi_X12_isThing ml_RX12_390 rfl rfl (Nat.le_of_ble_eq_true rfl) (Nat.le_of_ble_eq_true rfl) (Nat.le_of_ble_eq_true rfl) dX12_room_2 (fun r2 σ1 h => ?_)
  refine p_if_eq C (X := r2.toInt) rfl dX12_room_5 (tgt := 17) rfl h (fun h => ?_) (fun h => ?_)
  ·
    refine a_iconst C dX12_room_17 (v := (-1)) rfl ?_
    exact a_iret Rt dX12_room_18 rfl (ret_eq (h.trans (congrArg some hR.symm)))
  ·
    refine a_aload_n C dX12_room_8 (i := 0) rfl rfl ?_
    refine a_get C fl_RX12_107 (i := 236) kd_236 (hid 236 (by decide)) (v := .ref (ad 266)) rfl dX12_room_9 ?_
    refine a_iload_n C dX12_room_12 (i := 1) rfl rfl ?_
    refine p_iald C (i := 266) (show rowOK 266 from ⟨kd_266, by decide⟩) hid (by rw [al_266]; rfl) dX12_room_13 h (fun h => ?_)
    refine p_if_ne C (X := (σ1.1 266 x1.toInt.toNat).toInt) rfl dX12_room_14 (tgt := 19) rfl h (fun h => ?_) (fun h => ?_)
    ·
      refine a_iconst C dX12_room_19 (v := 0) rfl ?_
      refine a_istore_n C dX12_room_20 (i := 2) rfl (by decide) rfl (vs1 := [some (.ref (ad 236)), some (.int x1), some (.int 0)]) rfl ?_
      exact j21 _ _ _ _ h
    ·
      refine a_iconst C dX12_room_17 (v := (-1)) rfl ?_
      exact a_iret Rt dX12_room_18 rfl (ret_eq (h.trans (congrArg some hR.symm)))
set_option maxHeartbeats 4000000 in
set_option maxRecDepth 100000 in
theorem Z_X12_handover {l : Launch} {D : va_G} {ids : List Nat} {ad : Nat → Nat} {ca : Nat → ClassId} {σ : HS} {r0 : Int32} {s0 : HS} (hid : ∀ i, i < 277 → i ∈ ids) (h : f_X12_handover σ = some (r0, s0)) : Ki l D ids ad ca yX12_handover cX12_handover 3 .int 5 122 [.ref (ad 236)] σ (fun r σ1 => r = r0 ∧ σ1 = s0) := by
  obtain ⟨R, hR⟩ : ∃ R, (r0, s0) = R := ⟨_, rfl⟩
  replace h := h.trans (congrArg some hR)
  refine Ki.of (by decide) (Nat.le_of_ble_eq_true rfl) 2 (fun Γ C Rt => ?_)
  show AW ids ad ca Γ 0 [some (.ref (ad 236)), none, none] [] σ
  unfold f_X12_handover at h
  have j46 : ∀ (k12 : Int32 → Int32 → HS → Option (Int32 × HS)) (hk12 : ∀ (y1 : Int32) (y2 : Int32) (σ : HS), k12 y1 y2 σ = some R → AW ids ad ca Γ 12 [some (.ref (ad 236)), some (.int y1), some (.int y2)] [] σ) (y1 : Int32) (y2 : Int32) (σ : HS), f_X12_handover_46 k12 y1 y2 σ = some R → AW ids ad ca Γ 46 [some (.ref (ad 236)), some (.int y1), some (.int y2)] [] σ := by
    intro k12 hk12 y1 y2 σ h
    unfold f_X12_handover_46 at h
    refine a_iload_n C dX12_handover_46 (i := 1) rfl rfl ?_
    refine a_aload_n C dX12_handover_47 (i := 0) rfl rfl ?_
    refine a_iconst C dX12_handover_48 (v := 2) rfl ?_
    refine p_callVi C (As := [.int 2]) (i := 236) kd_236 (hid 236 (by decide)) ⟨_, _, rfl⟩ (by decide) h (fun _ _ e => Z_X12_thingsSo hid e) mi_X12_thingsSo ml_RX12_350 rfl rfl (Nat.le_of_ble_eq_true rfl) (Nat.le_of_ble_eq_true rfl) (Nat.le_of_ble_eq_true rfl) dX12_handover_49 (fun r2 σ1 h => ?_)
    refine a_iand C dX12_handover_52 ?_
    refine p_if_eq C (X := (y1 &&& r2).toInt) rfl dX12_handover_53 (tgt := 59) rfl h (fun h => ?_) (fun h => ?_)
    ·
      refine p_iinc C (y := (y2 + 1)) (fun z3 => [some (.ref (ad 236)), some (.int y1), some (.int z3)]) dX12_handover_59 rfl rfl (by decide) rfl (fun _ => rfl) h (fun z3 h => ?_)
      refine a_goto C dX12_handover_62 (tgt := 12) rfl ?_
      exact hk12 _ _ _ h
    ·
      refine a_bipush C dX12_handover_56 (v := (-2)) rfl ?_
      exact a_iret Rt dX12_handover_58 rfl (ret_eq (h.trans (congrArg some hR.symm)))
  have j12 : ∀ (n : Nat) (y1 : Int32) (y2 : Int32) (σ : HS), f_X12_handover_12 n y1 y2 σ = some R → AW ids ad ca Γ 12 [some (.ref (ad 236)), some (.int y1), some (.int y2)] [] σ := by
    intro n
    induction n with
    | zero => intro y1 y2 σ h; exact nn h
    | succ n ih =>
      intro y1 y2 σ h
      have h : b_X12_handover_12 (f_X12_handover_12 n) y1 y2 σ = some R := h
      unfold b_X12_handover_12 at h
      refine a_iload_n C dX12_handover_12 (i := 2) rfl rfl ?_
      refine a_bipush C dX12_handover_13 (v := 60) rfl ?_
      refine p_ic_gt C (X := y2.toInt) (Y := 60) rfl (by decide) dX12_handover_15 (tgt := 65) rfl h (fun h => ?_) (fun h => ?_)
      ·
        refine a_bipush C dX12_handover_65 (v := (-2)) rfl ?_
        exact a_iret Rt dX12_handover_67 rfl (ret_eq (h.trans (congrArg some hR.symm)))
      ·
        refine a_iload_n C dX12_handover_18 (i := 1) rfl rfl ?_
        refine p_if_ne C (X := y1.toInt) rfl dX12_handover_19 (tgt := 24) rfl h (fun h => ?_) (fun h => ?_)
        ·
          refine a_aload_n C dX12_handover_24 (i := 0) rfl rfl ?_
          refine p_callVv C (As := []) (i := 236) kd_236 (hid 236 (by decide)) ⟨_, _, rfl⟩ (by decide) h (fun _ e => Z_X12_beatGoes hid e) mi_X12_beatGoes ml_RX12_387 rfl rfl (Nat.le_of_ble_eq_true rfl) (Nat.le_of_ble_eq_true rfl) (Nat.le_of_ble_eq_true rfl) dX12_handover_25 (fun σ1 h => ?_)
          refine a_aload_n C dX12_handover_28 (i := 0) rfl rfl ?_
          refine a_get C fl_RX12_341 (i := 236) kd_236 (hid 236 (by decide)) (v := .int (σ1.1 236 51)) rfl dX12_handover_29 ?_
          refine p_if_lt C (X := (σ1.1 236 51).toInt) rfl dX12_handover_32 (tgt := 46) rfl h (fun h => ?_) (fun h => ?_)
          ·
            exact j46 (f_X12_handover_12 n) (fun y1 y2 σ h => ih y1 y2 σ h) _ _ _ h
          ·
            refine a_iload_n C dX12_handover_35 (i := 1) rfl rfl ?_
            refine a_iconst C dX12_handover_36 (v := 1) rfl ?_
            refine a_aload_n C dX12_handover_37 (i := 0) rfl rfl ?_
            refine a_get C fl_RX12_341 (i := 236) kd_236 (hid 236 (by decide)) (v := .int (σ1.1 236 51)) rfl dX12_handover_38 ?_
            refine a_ishl C dX12_handover_41 ?_
            refine a_iconst C dX12_handover_42 (v := (-1)) rfl ?_
            refine a_ixor C dX12_handover_43 ?_
            refine a_iand C dX12_handover_44 ?_
            refine p_istore_n C (fun z3 => [some (.ref (ad 236)), some (.int z3), some (.int y2)]) dX12_handover_45 (i := 1) rfl (by decide) rfl (fun _ => rfl) h (fun z3 h => ?_)
            exact j46 (f_X12_handover_12 n) (fun y1 y2 σ h => ih y1 y2 σ h) _ _ _ h
        ·
          refine a_iload_n C dX12_handover_22 (i := 2) rfl rfl ?_
          exact a_iret Rt dX12_handover_23 rfl (ret_eq (h.trans (congrArg some hR.symm)))
  refine a_aload_n C dX12_handover_0 (i := 0) rfl rfl ?_
  refine p_callVv C (As := []) (i := 236) kd_236 (hid 236 (by decide)) ⟨_, _, rfl⟩ (by decide) h (fun _ e => Z_X12_copiesStill hid e) mi_X12_copiesStill ml_RX12_429 rfl rfl (Nat.le_of_ble_eq_true rfl) (Nat.le_of_ble_eq_true rfl) (Nat.le_of_ble_eq_true rfl) dX12_handover_1 (fun σ1 h => ?_)
  refine a_aload_n C dX12_handover_4 (i := 0) rfl rfl ?_
  refine a_iconst C dX12_handover_5 (v := 0) rfl ?_
  refine p_callVi C (As := [.int 0]) (i := 236) kd_236 (hid 236 (by decide)) ⟨_, _, rfl⟩ (by decide) h (fun _ _ e => Z_X12_thingsSo hid e) mi_X12_thingsSo ml_RX12_350 rfl rfl (Nat.le_of_ble_eq_true rfl) (Nat.le_of_ble_eq_true rfl) (Nat.le_of_ble_eq_true rfl) dX12_handover_6 (fun r4 σ3 h => ?_)
  refine a_istore_n C dX12_handover_9 (i := 1) rfl (by decide) rfl (vs1 := [some (.ref (ad 236)), some (.int r4), none]) rfl ?_
  refine a_iconst C dX12_handover_10 (v := 0) rfl ?_
  refine a_istore_n C dX12_handover_11 (i := 2) rfl (by decide) rfl (vs1 := [some (.ref (ad 236)), some (.int r4), some (.int 0)]) rfl ?_
  exact j12 _ _ _ _ h
set_option maxHeartbeats 4000000 in
set_option maxRecDepth 100000 in
theorem Z_X12_limit {l : Launch} {D : va_G} {ids : List Nat} {ad : Nat → Nat} {ca : Nat → ClassId} {σ : HS} {x1 : Int32} {r0 : Int32} {s0 : HS} (hid : ∀ i, i < 277 → i ∈ ids) (h : f_X12_limit x1 σ = some (r0, s0)) : Ki l D ids ad ca yX12_limit cX12_limit 3 .int 5 122 [.ref (ad 236), .int x1] σ (fun r σ1 => r = r0 ∧ σ1 = s0) := by
  obtain ⟨R, hR⟩ : ∃ R, (r0, s0) = R := ⟨_, rfl⟩
  replace h := h.trans (congrArg some hR)
  refine Ki.of (by decide) (Nat.le_of_ble_eq_true rfl) 1 (fun Γ C Rt => ?_)
  show AW ids ad ca Γ 0 [some (.ref (ad 236)), some (.int x1), none] [] σ
  unfold f_X12_limit at h
  have j19 : ∀ (n : Nat) (y1 : Int32) (y2 : Int32) (σ : HS), f_X12_limit_19 n y1 y2 σ = some R → AW ids ad ca Γ 19 [some (.ref (ad 236)), some (.int y1), some (.int y2)] [] σ := by
    intro n
    induction n with
    | zero => intro y1 y2 σ h; exact nn h
    | succ n ih =>
      intro y1 y2 σ h
      have h : b_X12_limit_19 (f_X12_limit_19 n) y1 y2 σ = some R := h
      unfold b_X12_limit_19 at h
      refine a_iload_n C dX12_limit_19 (i := 2) rfl rfl ?_
      refine a_sipush C dX12_limit_20 (v := 200) rfl ?_
      refine p_ic_gt C (X := y2.toInt) (Y := 200) rfl (by decide) dX12_limit_23 (tgt := 49) rfl h (fun h => ?_) (fun h => ?_)
      ·
        refine a_bipush C dX12_limit_49 (v := (-2)) rfl ?_
        exact a_iret Rt dX12_limit_51 rfl (ret_eq (h.trans (congrArg some hR.symm)))
      ·
        refine a_aload_n C dX12_limit_26 (i := 0) rfl rfl ?_
        refine a_get C fl_RX12_110 (i := 236) kd_236 (hid 236 (by decide)) (v := .ref (ad 267)) rfl dX12_limit_27 ?_
        refine a_bipush C dX12_limit_30 (v := 22) rfl ?_
        refine p_ialdc C (i := 267) 22 (show rowOK 267 from ⟨kd_267, by decide⟩) hid (by decide) (by rw [al_267]; decide) dX12_limit_32 ?_
        refine a_iload_n C dX12_limit_33 (i := 1) rfl rfl ?_
        refine p_ic_lt C (X := (σ.1 267 22).toInt) (Y := y1.toInt) rfl rfl dX12_limit_34 (tgt := 39) rfl h (fun h => ?_) (fun h => ?_)
        ·
          refine a_aload_n C dX12_limit_39 (i := 0) rfl rfl ?_
          refine p_callVv C (As := []) (i := 236) kd_236 (hid 236 (by decide)) ⟨_, _, rfl⟩ (by decide) h (fun _ e => Z_X12_beatGoes hid e) mi_X12_beatGoes ml_RX12_387 rfl rfl (Nat.le_of_ble_eq_true rfl) (Nat.le_of_ble_eq_true rfl) (Nat.le_of_ble_eq_true rfl) dX12_limit_40 (fun σ1 h => ?_)
          refine p_iinc C (y := (y2 + 1)) (fun z3 => [some (.ref (ad 236)), some (.int y1), some (.int z3)]) dX12_limit_43 rfl rfl (by decide) rfl (fun _ => rfl) h (fun z3 h => ?_)
          refine a_goto C dX12_limit_46 (tgt := 19) rfl ?_
          exact ih _ _ _ h
        ·
          refine a_iload_n C dX12_limit_37 (i := 2) rfl rfl ?_
          exact a_iret Rt dX12_limit_38 rfl (ret_eq (h.trans (congrArg some hR.symm)))
  refine a_iload_n C dX12_limit_0 (i := 1) rfl rfl ?_
  refine a_iconst C dX12_limit_1 (v := 0) rfl ?_
  refine a_sipush C dX12_limit_2 (v := 999) rfl ?_
  refine p_callSi C (As := [.int x1, .int 0, .int 999]) h (fun _ _ e => Z_X12_in hid e) ms_X12_in ml_RX12_301 rfl rfl (Nat.le_of_ble_eq_true rfl) (Nat.le_of_ble_eq_true rfl) (Nat.le_of_ble_eq_true rfl) dX12_limit_5 (fun r2 σ1 h => ?_)
  refine p_if_ne C (X := r2.toInt) rfl dX12_limit_8 (tgt := 13) rfl h (fun h => ?_) (fun h => ?_)
  ·
    refine a_aload_n C dX12_limit_13 (i := 0) rfl rfl ?_
    refine p_callVv C (As := []) (i := 236) kd_236 (hid 236 (by decide)) ⟨_, _, rfl⟩ (by decide) h (fun _ e => Z_X12_copiesStill hid e) mi_X12_copiesStill ml_RX12_429 rfl rfl (Nat.le_of_ble_eq_true rfl) (Nat.le_of_ble_eq_true rfl) (Nat.le_of_ble_eq_true rfl) dX12_limit_14 (fun σ3 h => ?_)
    refine a_iconst C dX12_limit_17 (v := 0) rfl ?_
    refine a_istore_n C dX12_limit_18 (i := 2) rfl (by decide) rfl (vs1 := [some (.ref (ad 236)), some (.int x1), some (.int 0)]) rfl ?_
    exact j19 _ _ _ _ h
  ·
    refine a_iconst C dX12_limit_11 (v := (-1)) rfl ?_
    exact a_iret Rt dX12_limit_12 rfl (ret_eq (h.trans (congrArg some hR.symm)))
set_option maxHeartbeats 4000000 in
set_option maxRecDepth 100000 in
theorem Z_X12_isSome {l : Launch} {D : va_G} {ids : List Nat} {ad : Nat → Nat} {ca : Nat → ClassId} {σ : HS} {x1 : Int32} {r0 : Int32} {s0 : HS} (hid : ∀ i, i < 277 → i ∈ ids) (h : f_X12_isSome x1 σ = some (r0, s0)) : Ki l D ids ad ca yX12_isSome cX12_isSome 1 .boolean 1 22 [.int x1] σ (fun r σ1 => r = r0 ∧ σ1 = s0) := by
  obtain ⟨R, hR⟩ : ∃ R, (r0, s0) = R := ⟨_, rfl⟩
  replace h := h.trans (congrArg some hR)
  refine Ki.of (by decide) (Nat.le_of_ble_eq_true rfl) 0 (fun Γ C Rt => ?_)
  show AW ids ad ca Γ 0 [some (.int x1)] [] σ
  unfold f_X12_isSome at h
  refine a_iload_n C dX12_isSome_0 (i := 0) rfl rfl ?_
  refine a_iconst C dX12_isSome_1 (v := 1) rfl ?_
  refine a_bipush C dX12_isSome_2 (v := 60) rfl ?_
  refine p_callSi C (As := [.int x1, .int 1, .int 60]) h (fun _ _ e => Z_X12_in hid e) ms_X12_in ml_RX12_301 rfl rfl (Nat.le_of_ble_eq_true rfl) (Nat.le_of_ble_eq_true rfl) (Nat.le_of_ble_eq_true rfl) dX12_isSome_4 (fun r2 σ1 h => ?_)
  refine ite_n h (fun c h => ?_)
  exact a_iret Rt dX12_isSome_7 (nar_z c).1 (ret_eq (h.trans (congrArg some hR.symm)))
set_option maxHeartbeats 4000000 in
set_option maxRecDepth 100000 in
theorem Z_X12_busiest {l : Launch} {D : va_G} {ids : List Nat} {ad : Nat → Nat} {ca : Nat → ClassId} {σ : HS} {x1 : Int32} {x2 : Int32} {r0 : Int32} {s0 : HS} (hid : ∀ i, i < 277 → i ∈ ids) (h : f_X12_busiest x1 x2 σ = some (r0, s0)) : Ki l D ids ad ca yX12_busiest cX12_busiest 5 .int 5 122 [.ref (ad 236), .int x1, .int x2] σ (fun r σ1 => r = r0 ∧ σ1 = s0) := by
  obtain ⟨R, hR⟩ : ∃ R, (r0, s0) = R := ⟨_, rfl⟩
  replace h := h.trans (congrArg some hR)
  refine Ki.of (by decide) (Nat.le_of_ble_eq_true rfl) 2 (fun Γ C Rt => ?_)
  show AW ids ad ca Γ 0 [some (.ref (ad 236)), some (.int x1), some (.int x2), none, none] [] σ
  unfold f_X12_busiest at h
  have j111 : ∀ (k85 : Int32 → Int32 → Int32 → HS → Option (Int32 × HS)) (hk85 : ∀ (y2 : Int32) (y3 : Int32) (y4 : Int32) (σ : HS), k85 y2 y3 y4 σ = some R → AW ids ad ca Γ 85 [some (.ref (ad 236)), none, some (.int y2), some (.int y3), some (.int y4)] [] σ) (y2 : Int32) (y3 : Int32) (y4 : Int32) (σ : HS), f_X12_busiest_111 k85 y2 y3 y4 σ = some R → AW ids ad ca Γ 111 [some (.ref (ad 236)), none, some (.int y2), some (.int y3), some (.int y4)] [] σ := by
    intro k85 hk85 y2 y3 y4 σ h
    unfold f_X12_busiest_111 at h
    refine p_iinc C (y := (y4 + 1)) (fun z1 => [some (.ref (ad 236)), none, some (.int y2), some (.int y3), some (.int z1)]) dX12_busiest_111 rfl rfl (by decide) rfl (fun _ => rfl) h (fun z1 h => ?_)
    refine a_goto C dX12_busiest_114 (tgt := 85) rfl ?_
    exact hk85 _ _ _ _ h
  have j85 : ∀ (n : Nat) (y2 : Int32) (y3 : Int32) (y4 : Int32) (σ : HS), f_X12_busiest_85 n y2 y3 y4 σ = some R → AW ids ad ca Γ 85 [some (.ref (ad 236)), none, some (.int y2), some (.int y3), some (.int y4)] [] σ := by
    intro n
    induction n with
    | zero => intro y2 y3 y4 σ h; exact nn h
    | succ n ih =>
      intro y2 y3 y4 σ h
      have h : b_X12_busiest_85 (f_X12_busiest_85 n) y2 y3 y4 σ = some R := h
      unfold b_X12_busiest_85 at h
      refine a_iload C dX12_busiest_85 rfl ?_
      refine a_bipush C dX12_busiest_87 (v := 7) rfl ?_
      refine p_ic_ge C (X := y4.toInt) (Y := 7) rfl (by decide) dX12_busiest_89 (tgt := 117) rfl h (fun h => ?_) (fun h => ?_)
      ·
        refine a_aload_n C dX12_busiest_117 (i := 0) rfl rfl ?_
        refine a_get C fl_RX12_122 (i := 236) kd_236 (hid 236 (by decide)) (v := .ref (ad 271)) rfl dX12_busiest_118 ?_
        refine a_iload_n C dX12_busiest_121 (i := 3) rfl rfl ?_
        refine p_iald C (i := 271) (show rowOK 271 from ⟨kd_271, by decide⟩) hid (by rw [al_271]; rfl) dX12_busiest_122 h (fun h => ?_)
        refine p_if_ne C (X := (σ.1 271 y3.toInt.toNat).toInt) rfl dX12_busiest_123 (tgt := 131) rfl h (fun h => ?_) (fun h => ?_)
        ·
          refine a_iload_n C dX12_busiest_131 (i := 2) rfl rfl ?_
          refine p_if_ne C (X := y2.toInt) rfl dX12_busiest_132 (tgt := 139) rfl h (fun h => ?_) (fun h => ?_)
          ·
            refine a_aload_n C dX12_busiest_139 (i := 0) rfl rfl ?_
            refine a_get C fl_RX12_122 (i := 236) kd_236 (hid 236 (by decide)) (v := .ref (ad 271)) rfl dX12_busiest_140 ?_
            refine a_iload_n C dX12_busiest_143 (i := 3) rfl rfl ?_
            refine p_iald C (i := 271) (show rowOK 271 from ⟨kd_271, by decide⟩) hid (by rw [al_271]; rfl) dX12_busiest_144 h (fun h => ?_)
            exact a_iret Rt dX12_busiest_145 rfl (ret_eq (h.trans (congrArg some hR.symm)))
          ·
            refine a_iload_n C dX12_busiest_135 (i := 3) rfl rfl ?_
            refine a_goto C dX12_busiest_136 (tgt := 145) rfl ?_
            exact a_iret Rt dX12_busiest_145 rfl (ret_eq (h.trans (congrArg some hR.symm)))
        ·
          refine a_bipush C dX12_busiest_126 (v := (-2)) rfl ?_
          refine a_goto C dX12_busiest_128 (tgt := 145) rfl ?_
          exact a_iret Rt dX12_busiest_145 rfl (ret_eq (h.trans (congrArg some hR.symm)))
      ·
        refine a_aload_n C dX12_busiest_92 (i := 0) rfl rfl ?_
        refine a_get C fl_RX12_122 (i := 236) kd_236 (hid 236 (by decide)) (v := .ref (ad 271)) rfl dX12_busiest_93 ?_
        refine a_iload C dX12_busiest_96 rfl ?_
        refine p_iald C (i := 271) (show rowOK 271 from ⟨kd_271, by decide⟩) hid (by rw [al_271]; rfl) dX12_busiest_98 h (fun h => ?_)
        refine a_aload_n C dX12_busiest_99 (i := 0) rfl rfl ?_
        refine a_get C fl_RX12_122 (i := 236) kd_236 (hid 236 (by decide)) (v := .ref (ad 271)) rfl dX12_busiest_100 ?_
        refine a_iload_n C dX12_busiest_103 (i := 3) rfl rfl ?_
        refine p_iald C (i := 271) (show rowOK 271 from ⟨kd_271, by decide⟩) hid (by rw [al_271]; rfl) dX12_busiest_104 h (fun h => ?_)
        refine p_ic_le C (X := (σ.1 271 y4.toInt.toNat).toInt) (Y := (σ.1 271 y3.toInt.toNat).toInt) rfl rfl dX12_busiest_105 (tgt := 111) rfl h (fun h => ?_) (fun h => ?_)
        ·
          exact j111 (f_X12_busiest_85 n) (fun y2 y3 y4 σ h => ih y2 y3 y4 σ h) _ _ _ _ h
        ·
          refine a_iload C dX12_busiest_108 rfl ?_
          refine a_istore_n C dX12_busiest_110 (i := 3) rfl (by decide) rfl (vs1 := [some (.ref (ad 236)), none, some (.int y2), some (.int y4), some (.int y4)]) rfl ?_
          exact j111 (f_X12_busiest_85 n) (fun y2 y3 y4 σ h => ih y2 y3 y4 σ h) _ _ _ _ h
  have j74 : ∀ (k45 : Int32 → Int32 → Int32 → HS → Option (Int32 × HS)) (hk45 : ∀ (y1 : Int32) (y2 : Int32) (y3 : Int32) (σ : HS), k45 y1 y2 y3 σ = some R → AW ids ad ca Γ 45 [some (.ref (ad 236)), some (.int y1), some (.int y2), some (.int y3), none] [] σ) (y1 : Int32) (y2 : Int32) (y3 : Int32) (σ : HS), f_X12_busiest_74 k45 y1 y2 y3 σ = some R → AW ids ad ca Γ 74 [some (.ref (ad 236)), some (.int y1), some (.int y2), some (.int y3), none] [] σ := by
    intro k45 hk45 y1 y2 y3 σ h
    unfold f_X12_busiest_74 at h
    refine p_iinc C (y := (y3 + 1)) (fun z1 => [some (.ref (ad 236)), some (.int y1), some (.int y2), some (.int z1), none]) dX12_busiest_74 rfl rfl (by decide) rfl (fun _ => rfl) h (fun z1 h => ?_)
    refine a_goto C dX12_busiest_77 (tgt := 45) rfl ?_
    exact hk45 _ _ _ _ h
  have j45 : ∀ (n : Nat) (y1 : Int32) (y2 : Int32) (y3 : Int32) (σ : HS), f_X12_busiest_45 n y1 y2 y3 σ = some R → AW ids ad ca Γ 45 [some (.ref (ad 236)), some (.int y1), some (.int y2), some (.int y3), none] [] σ := by
    intro n
    induction n with
    | zero => intro y1 y2 y3 σ h; exact nn h
    | succ n ih =>
      intro y1 y2 y3 σ h
      have h : b_X12_busiest_45 (f_X12_busiest_45 n) y1 y2 y3 σ = some R := h
      unfold b_X12_busiest_45 at h
      refine a_iload_n C dX12_busiest_45 (i := 3) rfl rfl ?_
      refine a_iload_n C dX12_busiest_46 (i := 1) rfl rfl ?_
      refine p_ic_ge C (X := y3.toInt) (Y := y1.toInt) rfl rfl dX12_busiest_47 (tgt := 80) rfl h (fun h => ?_) (fun h => ?_)
      ·
        refine a_iconst C dX12_busiest_80 (v := 0) rfl ?_
        refine a_istore_n C dX12_busiest_81 (i := 3) rfl (by decide) rfl (vs1 := [some (.ref (ad 236)), some (.int y1), some (.int y2), some (.int 0), none]) rfl ?_
        refine a_iconst C dX12_busiest_82 (v := 1) rfl ?_
        refine a_istore C dX12_busiest_83 (by decide) rfl (vs1 := [some (.ref (ad 236)), some (.int y1), some (.int y2), some (.int 0), some (.int 1)]) rfl ?_
        refine AW.sub (vs' := [some (.ref (ad 236)), none, some (.int y2), some (.int 0), some (.int 1)]) (lsub_of (by simp [lsubB])) ?_
        exact j85 _ _ _ _ _ h
      ·
        refine a_aload_n C dX12_busiest_50 (i := 0) rfl rfl ?_
        refine p_callVv C (As := []) (i := 236) kd_236 (hid 236 (by decide)) ⟨_, _, rfl⟩ (by decide) h (fun _ e => Z_X12_beatGoes hid e) mi_X12_beatGoes ml_RX12_387 rfl rfl (Nat.le_of_ble_eq_true rfl) (Nat.le_of_ble_eq_true rfl) (Nat.le_of_ble_eq_true rfl) dX12_busiest_51 (fun σ1 h => ?_)
        refine a_aload_n C dX12_busiest_54 (i := 0) rfl rfl ?_
        refine a_get C fl_RX12_341 (i := 236) kd_236 (hid 236 (by decide)) (v := .int (σ1.1 236 51)) rfl dX12_busiest_55 ?_
        refine p_if_lt C (X := (σ1.1 236 51).toInt) rfl dX12_busiest_58 (tgt := 74) rfl h (fun h => ?_) (fun h => ?_)
        ·
          exact j74 (f_X12_busiest_45 n) (fun y1 y2 y3 σ h => ih y1 y2 y3 σ h) _ _ _ _ h
        ·
          refine a_aload_n C dX12_busiest_61 (i := 0) rfl rfl ?_
          refine a_get C fl_RX12_122 (i := 236) kd_236 (hid 236 (by decide)) (v := .ref (ad 271)) rfl dX12_busiest_62 ?_
          refine a_aload_n C dX12_busiest_65 (i := 0) rfl rfl ?_
          refine a_get C fl_RX12_341 (i := 236) kd_236 (hid 236 (by decide)) (v := .int (σ1.1 236 51)) rfl dX12_busiest_66 ?_
          refine a_dup2 C dX12_busiest_69 rfl rfl ?_
          refine p_iald C (i := 271) (show rowOK 271 from ⟨kd_271, by decide⟩) hid (by rw [al_271]; rfl) dX12_busiest_70 h (fun h => ?_)
          refine a_iconst C dX12_busiest_71 (v := 1) rfl ?_
          refine a_iadd C dX12_busiest_72 ?_
          refine p_iast C (i := 271) (show rowOK 271 from ⟨kd_271, by decide⟩) hid (by rw [al_271]; rfl) dX12_busiest_73 h (fun σ3 h => ?_)
          exact j74 (f_X12_busiest_45 n) (fun y1 y2 y3 σ h => ih y1 y2 y3 σ h) _ _ _ _ h
  have j24 : ∀ (n : Nat) (y1 : Int32) (y2 : Int32) (y3 : Int32) (σ : HS), f_X12_busiest_24 n y1 y2 y3 σ = some R → AW ids ad ca Γ 24 [some (.ref (ad 236)), some (.int y1), some (.int y2), some (.int y3), none] [] σ := by
    intro n
    induction n with
    | zero => intro y1 y2 y3 σ h; exact nn h
    | succ n ih =>
      intro y1 y2 y3 σ h
      have h : b_X12_busiest_24 (f_X12_busiest_24 n) y1 y2 y3 σ = some R := h
      unfold b_X12_busiest_24 at h
      refine a_iload_n C dX12_busiest_24 (i := 3) rfl rfl ?_
      refine a_bipush C dX12_busiest_25 (v := 7) rfl ?_
      refine p_ic_ge C (X := y3.toInt) (Y := 7) rfl (by decide) dX12_busiest_27 (tgt := 43) rfl h (fun h => ?_) (fun h => ?_)
      ·
        refine a_iconst C dX12_busiest_43 (v := 0) rfl ?_
        refine a_istore_n C dX12_busiest_44 (i := 3) rfl (by decide) rfl (vs1 := [some (.ref (ad 236)), some (.int y1), some (.int y2), some (.int 0), none]) rfl ?_
        exact j45 _ _ _ _ _ h
      ·
        refine a_aload_n C dX12_busiest_30 (i := 0) rfl rfl ?_
        refine a_get C fl_RX12_122 (i := 236) kd_236 (hid 236 (by decide)) (v := .ref (ad 271)) rfl dX12_busiest_31 ?_
        refine a_iload_n C dX12_busiest_34 (i := 3) rfl rfl ?_
        refine a_iconst C dX12_busiest_35 (v := 0) rfl ?_
        refine p_iast C (i := 271) (show rowOK 271 from ⟨kd_271, by decide⟩) hid (by rw [al_271]; rfl) dX12_busiest_36 h (fun σ1 h => ?_)
        refine p_iinc C (y := (y3 + 1)) (fun z2 => [some (.ref (ad 236)), some (.int y1), some (.int y2), some (.int z2), none]) dX12_busiest_37 rfl rfl (by decide) rfl (fun _ => rfl) h (fun z2 h => ?_)
        refine a_goto C dX12_busiest_40 (tgt := 24) rfl ?_
        exact ih _ _ _ _ h
  refine a_iload_n C dX12_busiest_0 (i := 1) rfl rfl ?_
  refine p_callSi C (As := [.int x1]) h (fun _ _ e => Z_X12_isSome hid e) ms_X12_isSome ml_RX12_454 rfl rfl (Nat.le_of_ble_eq_true rfl) (Nat.le_of_ble_eq_true rfl) (Nat.le_of_ble_eq_true rfl) dX12_busiest_1 (fun r2 σ1 h => ?_)
  refine p_if_eq C (X := r2.toInt) rfl dX12_busiest_4 (tgt := 16) rfl h (fun h => ?_) (fun h => ?_)
  ·
    refine a_iconst C dX12_busiest_16 (v := (-1)) rfl ?_
    exact a_iret Rt dX12_busiest_17 rfl (ret_eq (h.trans (congrArg some hR.symm)))
  ·
    refine a_iload_n C dX12_busiest_7 (i := 2) rfl rfl ?_
    refine a_iconst C dX12_busiest_8 (v := 0) rfl ?_
    refine a_iconst C dX12_busiest_9 (v := 1) rfl ?_
    refine p_callSi C (As := [.int x2, .int 0, .int 1]) h (fun _ _ e => Z_X12_in hid e) ms_X12_in ml_RX12_301 rfl rfl (Nat.le_of_ble_eq_true rfl) (Nat.le_of_ble_eq_true rfl) (Nat.le_of_ble_eq_true rfl) dX12_busiest_10 (fun r4 σ3 h => ?_)
    refine p_if_ne C (X := r4.toInt) rfl dX12_busiest_13 (tgt := 18) rfl h (fun h => ?_) (fun h => ?_)
    ·
      refine a_aload_n C dX12_busiest_18 (i := 0) rfl rfl ?_
      refine p_callVv C (As := []) (i := 236) kd_236 (hid 236 (by decide)) ⟨_, _, rfl⟩ (by decide) h (fun _ e => Z_X12_copiesStill hid e) mi_X12_copiesStill ml_RX12_429 rfl rfl (Nat.le_of_ble_eq_true rfl) (Nat.le_of_ble_eq_true rfl) (Nat.le_of_ble_eq_true rfl) dX12_busiest_19 (fun σ5 h => ?_)
      refine a_iconst C dX12_busiest_22 (v := 0) rfl ?_
      refine a_istore_n C dX12_busiest_23 (i := 3) rfl (by decide) rfl (vs1 := [some (.ref (ad 236)), some (.int x1), some (.int x2), some (.int 0), none]) rfl ?_
      exact j24 _ _ _ _ _ h
    ·
      refine a_iconst C dX12_busiest_16 (v := (-1)) rfl ?_
      exact a_iret Rt dX12_busiest_17 rfl (ret_eq (h.trans (congrArg some hR.symm)))
set_option maxHeartbeats 4000000 in
set_option maxRecDepth 100000 in
theorem Z_X12_load {l : Launch} {D : va_G} {ids : List Nat} {ad : Nat → Nat} {ca : Nat → ClassId} {σ : HS} {x1 : Int32} {r0 : Int32} {s0 : HS} (hid : ∀ i, i < 277 → i ∈ ids) (h : f_X12_load x1 σ = some (r0, s0)) : Ki l D ids ad ca yX12_load cX12_load 4 .int 5 122 [.ref (ad 236), .int x1] σ (fun r σ1 => r = r0 ∧ σ1 = s0) := by
  obtain ⟨R, hR⟩ : ∃ R, (r0, s0) = R := ⟨_, rfl⟩
  replace h := h.trans (congrArg some hR)
  refine Ki.of (by decide) (Nat.le_of_ble_eq_true rfl) 2 (fun Γ C Rt => ?_)
  show AW ids ad ca Γ 0 [some (.ref (ad 236)), some (.int x1), none, none] [] σ
  unfold f_X12_load at h
  have j53 : ∀ (k17 : Int32 → Int32 → Int32 → HS → Option (Int32 × HS)) (hk17 : ∀ (y1 : Int32) (y2 : Int32) (y3 : Int32) (σ : HS), k17 y1 y2 y3 σ = some R → AW ids ad ca Γ 17 [some (.ref (ad 236)), some (.int y1), some (.int y2), some (.int y3)] [] σ) (y1 : Int32) (y2 : Int32) (y3 : Int32) (σ : HS), f_X12_load_53 k17 y1 y2 y3 σ = some R → AW ids ad ca Γ 53 [some (.ref (ad 236)), some (.int y1), some (.int y2), some (.int y3)] [] σ := by
    intro k17 hk17 y1 y2 y3 σ h
    unfold f_X12_load_53 at h
    refine p_iinc C (y := (y3 + 1)) (fun z1 => [some (.ref (ad 236)), some (.int y1), some (.int y2), some (.int z1)]) dX12_load_53 rfl rfl (by decide) rfl (fun _ => rfl) h (fun z1 h => ?_)
    refine a_goto C dX12_load_56 (tgt := 17) rfl ?_
    exact hk17 _ _ _ _ h
  have j17 : ∀ (n : Nat) (y1 : Int32) (y2 : Int32) (y3 : Int32) (σ : HS), f_X12_load_17 n y1 y2 y3 σ = some R → AW ids ad ca Γ 17 [some (.ref (ad 236)), some (.int y1), some (.int y2), some (.int y3)] [] σ := by
    intro n
    induction n with
    | zero => intro y1 y2 y3 σ h; exact nn h
    | succ n ih =>
      intro y1 y2 y3 σ h
      have h : b_X12_load_17 (f_X12_load_17 n) y1 y2 y3 σ = some R := h
      unfold b_X12_load_17 at h
      refine a_iload_n C dX12_load_17 (i := 3) rfl rfl ?_
      refine a_iload_n C dX12_load_18 (i := 1) rfl rfl ?_
      refine p_ic_ge C (X := y3.toInt) (Y := y1.toInt) rfl rfl dX12_load_19 (tgt := 59) rfl h (fun h => ?_) (fun h => ?_)
      ·
        refine a_iload_n C dX12_load_59 (i := 2) rfl rfl ?_
        exact a_iret Rt dX12_load_60 rfl (ret_eq (h.trans (congrArg some hR.symm)))
      ·
        refine a_aload_n C dX12_load_22 (i := 0) rfl rfl ?_
        refine p_callVv C (As := []) (i := 236) kd_236 (hid 236 (by decide)) ⟨_, _, rfl⟩ (by decide) h (fun _ e => Z_X12_beatGoes hid e) mi_X12_beatGoes ml_RX12_387 rfl rfl (Nat.le_of_ble_eq_true rfl) (Nat.le_of_ble_eq_true rfl) (Nat.le_of_ble_eq_true rfl) dX12_load_23 (fun σ1 h => ?_)
        refine a_aload_n C dX12_load_26 (i := 0) rfl rfl ?_
        refine a_get C fl_RX12_341 (i := 236) kd_236 (hid 236 (by decide)) (v := .int (σ1.1 236 51)) rfl dX12_load_27 ?_
        refine p_if_lt C (X := (σ1.1 236 51).toInt) rfl dX12_load_30 (tgt := 53) rfl h (fun h => ?_) (fun h => ?_)
        ·
          exact j53 (f_X12_load_17 n) (fun y1 y2 y3 σ h => ih y1 y2 y3 σ h) _ _ _ _ h
        ·
          refine a_iload_n C dX12_load_33 (i := 2) rfl rfl ?_
          refine a_aload_n C dX12_load_34 (i := 0) rfl rfl ?_
          refine a_get C fl_RX12_46 (i := 236) kd_236 (hid 236 (by decide)) (v := .ref (ad 246)) rfl dX12_load_35 ?_
          refine a_bipush C dX12_load_38 (v := 7) rfl ?_
          refine a_aload_n C dX12_load_40 (i := 0) rfl rfl ?_
          refine a_get C fl_RX12_221 (i := 236) kd_236 (hid 236 (by decide)) (v := .int (σ1.1 236 18)) rfl dX12_load_41 ?_
          refine a_imul C dX12_load_44 ?_
          refine a_aload_n C dX12_load_45 (i := 0) rfl rfl ?_
          refine a_get C fl_RX12_341 (i := 236) kd_236 (hid 236 (by decide)) (v := .int (σ1.1 236 51)) rfl dX12_load_46 ?_
          refine a_iadd C dX12_load_49 ?_
          refine p_iald C (i := 246) (show rowOK 246 from ⟨kd_246, by decide⟩) hid (by rw [al_246]; rfl) dX12_load_50 h (fun h => ?_)
          refine a_iadd C dX12_load_51 ?_
          refine p_istore_n C (fun z3 => [some (.ref (ad 236)), some (.int y1), some (.int z3), some (.int y3)]) dX12_load_52 (i := 2) rfl (by decide) rfl (fun _ => rfl) h (fun z3 h => ?_)
          exact j53 (f_X12_load_17 n) (fun y1 y2 y3 σ h => ih y1 y2 y3 σ h) _ _ _ _ h
  refine a_iload_n C dX12_load_0 (i := 1) rfl rfl ?_
  refine p_callSi C (As := [.int x1]) h (fun _ _ e => Z_X12_isSome hid e) ms_X12_isSome ml_RX12_454 rfl rfl (Nat.le_of_ble_eq_true rfl) (Nat.le_of_ble_eq_true rfl) (Nat.le_of_ble_eq_true rfl) dX12_load_1 (fun r2 σ1 h => ?_)
  refine p_if_ne C (X := r2.toInt) rfl dX12_load_4 (tgt := 9) rfl h (fun h => ?_) (fun h => ?_)
  ·
    refine a_aload_n C dX12_load_9 (i := 0) rfl rfl ?_
    refine p_callVv C (As := []) (i := 236) kd_236 (hid 236 (by decide)) ⟨_, _, rfl⟩ (by decide) h (fun _ e => Z_X12_copiesStill hid e) mi_X12_copiesStill ml_RX12_429 rfl rfl (Nat.le_of_ble_eq_true rfl) (Nat.le_of_ble_eq_true rfl) (Nat.le_of_ble_eq_true rfl) dX12_load_10 (fun σ3 h => ?_)
    refine a_iconst C dX12_load_13 (v := 0) rfl ?_
    refine a_istore_n C dX12_load_14 (i := 2) rfl (by decide) rfl (vs1 := [some (.ref (ad 236)), some (.int x1), some (.int 0), none]) rfl ?_
    refine a_iconst C dX12_load_15 (v := 0) rfl ?_
    refine a_istore_n C dX12_load_16 (i := 3) rfl (by decide) rfl (vs1 := [some (.ref (ad 236)), some (.int x1), some (.int 0), some (.int 0)]) rfl ?_
    exact j17 _ _ _ _ _ h
  ·
    refine a_iconst C dX12_load_7 (v := (-1)) rfl ?_
    exact a_iret Rt dX12_load_8 rfl (ret_eq (h.trans (congrArg some hR.symm)))
set_option maxHeartbeats 4000000 in
set_option maxRecDepth 100000 in
theorem Z_X12_gap {l : Launch} {D : va_G} {ids : List Nat} {ad : Nat → Nat} {ca : Nat → ClassId} {σ : HS} {r0 : Int32} {s0 : HS} (hid : ∀ i, i < 277 → i ∈ ids) (h : f_X12_gap σ = some (r0, s0)) : Ki l D ids ad ca yX12_gap cX12_gap 2 .int 5 122 [.ref (ad 236)] σ (fun r σ1 => r = r0 ∧ σ1 = s0) := by
  obtain ⟨R, hR⟩ : ∃ R, (r0, s0) = R := ⟨_, rfl⟩
  replace h := h.trans (congrArg some hR)
  refine Ki.of (by decide) (Nat.le_of_ble_eq_true rfl) 1 (fun Γ C Rt => ?_)
  show AW ids ad ca Γ 0 [some (.ref (ad 236)), none] [] σ
  unfold f_X12_gap at h
  have j6 : ∀ (n : Nat) (y1 : Int32) (σ : HS), f_X12_gap_6 n y1 σ = some R → AW ids ad ca Γ 6 [some (.ref (ad 236)), some (.int y1)] [] σ := by
    intro n
    induction n with
    | zero => intro y1 σ h; exact nn h
    | succ n ih =>
      intro y1 σ h
      have h : b_X12_gap_6 (f_X12_gap_6 n) y1 σ = some R := h
      unfold b_X12_gap_6 at h
      refine a_iload_n C dX12_gap_6 (i := 1) rfl rfl ?_
      refine a_bipush C dX12_gap_7 (v := 60) rfl ?_
      refine p_ic_gt C (X := y1.toInt) (Y := 60) rfl (by decide) dX12_gap_9 (tgt := 31) rfl h (fun h => ?_) (fun h => ?_)
      ·
        refine a_bipush C dX12_gap_31 (v := (-2)) rfl ?_
        exact a_iret Rt dX12_gap_33 rfl (ret_eq (h.trans (congrArg some hR.symm)))
      ·
        refine a_aload_n C dX12_gap_12 (i := 0) rfl rfl ?_
        refine p_callVv C (As := []) (i := 236) kd_236 (hid 236 (by decide)) ⟨_, _, rfl⟩ (by decide) h (fun _ e => Z_X12_beatGoes hid e) mi_X12_beatGoes ml_RX12_387 rfl rfl (Nat.le_of_ble_eq_true rfl) (Nat.le_of_ble_eq_true rfl) (Nat.le_of_ble_eq_true rfl) dX12_gap_13 (fun σ1 h => ?_)
        refine a_aload_n C dX12_gap_16 (i := 0) rfl rfl ?_
        refine a_get C fl_RX12_341 (i := 236) kd_236 (hid 236 (by decide)) (v := .int (σ1.1 236 51)) rfl dX12_gap_17 ?_
        refine p_if_ge C (X := (σ1.1 236 51).toInt) rfl dX12_gap_20 (tgt := 25) rfl h (fun h => ?_) (fun h => ?_)
        ·
          refine p_iinc C (y := (y1 + 1)) (fun z3 => [some (.ref (ad 236)), some (.int z3)]) dX12_gap_25 rfl rfl (by decide) rfl (fun _ => rfl) h (fun z3 h => ?_)
          refine a_goto C dX12_gap_28 (tgt := 6) rfl ?_
          exact ih _ _ h
        ·
          refine a_iload_n C dX12_gap_23 (i := 1) rfl rfl ?_
          exact a_iret Rt dX12_gap_24 rfl (ret_eq (h.trans (congrArg some hR.symm)))
  refine a_aload_n C dX12_gap_0 (i := 0) rfl rfl ?_
  refine p_callVv C (As := []) (i := 236) kd_236 (hid 236 (by decide)) ⟨_, _, rfl⟩ (by decide) h (fun _ e => Z_X12_copiesStill hid e) mi_X12_copiesStill ml_RX12_429 rfl rfl (Nat.le_of_ble_eq_true rfl) (Nat.le_of_ble_eq_true rfl) (Nat.le_of_ble_eq_true rfl) dX12_gap_1 (fun σ1 h => ?_)
  refine a_iconst C dX12_gap_4 (v := 0) rfl ?_
  refine a_istore_n C dX12_gap_5 (i := 1) rfl (by decide) rfl (vs1 := [some (.ref (ad 236)), some (.int 0)]) rfl ?_
  exact j6 _ _ _ h
set_option maxHeartbeats 4000000 in
set_option maxRecDepth 100000 in
theorem Z_X12_order {l : Launch} {D : va_G} {ids : List Nat} {ad : Nat → Nat} {ca : Nat → ClassId} {σ : HS} {x1 : Int32} {r0 : Int32} {s0 : HS} (hid : ∀ i, i < 277 → i ∈ ids) (h : f_X12_order x1 σ = some (r0, s0)) : Ki l D ids ad ca yX12_order cX12_order 4 .int 2 43 [.ref (ad 236), .int x1] σ (fun r σ1 => r = r0 ∧ σ1 = s0) := by
  obtain ⟨R, hR⟩ : ∃ R, (r0, s0) = R := ⟨_, rfl⟩
  replace h := h.trans (congrArg some hR)
  refine Ki.of (by decide) (Nat.le_of_ble_eq_true rfl) 2 (fun Γ C Rt => ?_)
  show AW ids ad ca Γ 0 [some (.ref (ad 236)), some (.int x1), none, none] [] σ
  unfold f_X12_order at h
  have j68 : ∀ (k20 : Int32 → Int32 → Int32 → HS → Option (Int32 × HS)) (hk20 : ∀ (y1 : Int32) (y2 : Int32) (y3 : Int32) (σ : HS), k20 y1 y2 y3 σ = some R → AW ids ad ca Γ 20 [some (.ref (ad 236)), some (.int y1), some (.int y2), some (.int y3)] [] σ) (y1 : Int32) (y2 : Int32) (y3 : Int32) (σ : HS), f_X12_order_68 k20 y1 y2 y3 σ = some R → AW ids ad ca Γ 68 [some (.ref (ad 236)), some (.int y1), some (.int y2), some (.int y3)] [] σ := by
    intro k20 hk20 y1 y2 y3 σ h
    unfold f_X12_order_68 at h
    refine p_iinc C (y := (y3 + 1)) (fun z1 => [some (.ref (ad 236)), some (.int y1), some (.int y2), some (.int z1)]) dX12_order_68 rfl rfl (by decide) rfl (fun _ => rfl) h (fun z1 h => ?_)
    refine a_goto C dX12_order_71 (tgt := 20) rfl ?_
    exact hk20 _ _ _ _ h
  have j20 : ∀ (n : Nat) (y1 : Int32) (y2 : Int32) (y3 : Int32) (σ : HS), f_X12_order_20 n y1 y2 y3 σ = some R → AW ids ad ca Γ 20 [some (.ref (ad 236)), some (.int y1), some (.int y2), some (.int y3)] [] σ := by
    intro n
    induction n with
    | zero => intro y1 y2 y3 σ h; exact nn h
    | succ n ih =>
      intro y1 y2 y3 σ h
      have h : b_X12_order_20 (f_X12_order_20 n) y1 y2 y3 σ = some R := h
      unfold b_X12_order_20 at h
      refine a_iload_n C dX12_order_20 (i := 3) rfl rfl ?_
      refine a_bipush C dX12_order_21 (v := 70) rfl ?_
      refine p_ic_ge C (X := y3.toInt) (Y := 70) rfl (by decide) dX12_order_23 (tgt := 74) rfl h (fun h => ?_) (fun h => ?_)
      ·
        refine a_iconst C dX12_order_74 (v := (-1)) rfl ?_
        exact a_iret Rt dX12_order_75 rfl (ret_eq (h.trans (congrArg some hR.symm)))
      ·
        refine a_aload_n C dX12_order_26 (i := 0) rfl rfl ?_
        refine a_iload_n C dX12_order_27 (i := 3) rfl rfl ?_
        refine a_bipush C dX12_order_28 (v := 7) rfl ?_
        refine a_irem C dX12_order_30 (by decide) ?_
        refine p_callVi C (As := [.int (y3 - y3 / (7 : Int32) * (7 : Int32))]) (i := 236) kd_236 (hid 236 (by decide)) ⟨_, _, rfl⟩ (by decide) h (fun _ _ e => Z_X12_isThing hid e) mi_X12_isThing ml_RX12_390 rfl rfl (Nat.le_of_ble_eq_true rfl) (Nat.le_of_ble_eq_true rfl) (Nat.le_of_ble_eq_true rfl) dX12_order_31 (fun r2 σ1 h => ?_)
        refine p_if_eq C (X := r2.toInt) rfl dX12_order_34 (tgt := 68) rfl h (fun h => ?_) (fun h => ?_)
        ·
          exact j68 (f_X12_order_20 n) (fun y1 y2 y3 σ h => ih y1 y2 y3 σ h) _ _ _ _ h
        ·
          refine a_aload_n C dX12_order_37 (i := 0) rfl rfl ?_
          refine a_iload_n C dX12_order_38 (i := 3) rfl rfl ?_
          refine a_bipush C dX12_order_39 (v := 7) rfl ?_
          refine a_irem C dX12_order_41 (by decide) ?_
          refine a_iload_n C dX12_order_42 (i := 3) rfl rfl ?_
          refine a_bipush C dX12_order_43 (v := 7) rfl ?_
          refine a_idiv C dX12_order_45 (by decide) ?_
          refine p_callVi C (As := [.int (y3 - y3 / (7 : Int32) * (7 : Int32)), .int (y3 / (7 : Int32))]) (i := 236) kd_236 (hid 236 (by decide)) ⟨_, _, rfl⟩ (by decide) h (fun _ _ e => Z_X12_doesLand hid e) mi_X12_doesLand ml_RX12_324 rfl rfl (Nat.le_of_ble_eq_true rfl) (Nat.le_of_ble_eq_true rfl) (Nat.le_of_ble_eq_true rfl) dX12_order_46 (fun r4 σ3 h => ?_)
          refine p_if_ne C (X := r4.toInt) rfl dX12_order_49 (tgt := 55) rfl h (fun h => ?_) (fun h => ?_)
          ·
            refine a_iload_n C dX12_order_55 (i := 2) rfl rfl ?_
            refine a_iload_n C dX12_order_56 (i := 1) rfl rfl ?_
            refine p_ic_ne C (X := y2.toInt) (Y := y1.toInt) rfl rfl dX12_order_57 (tgt := 65) rfl h (fun h => ?_) (fun h => ?_)
            ·
              refine p_iinc C (y := (y2 + 1)) (fun z5 => [some (.ref (ad 236)), some (.int y1), some (.int z5), some (.int y3)]) dX12_order_65 rfl rfl (by decide) rfl (fun _ => rfl) h (fun z5 h => ?_)
              exact j68 (f_X12_order_20 n) (fun y1 y2 y3 σ h => ih y1 y2 y3 σ h) _ _ _ _ h
            ·
              refine a_iload_n C dX12_order_60 (i := 3) rfl rfl ?_
              refine a_bipush C dX12_order_61 (v := 7) rfl ?_
              refine a_irem C dX12_order_63 (by decide) ?_
              exact a_iret Rt dX12_order_64 rfl (ret_eq (h.trans (congrArg some hR.symm)))
          ·
            refine a_goto C dX12_order_52 (tgt := 68) rfl ?_
            exact j68 (f_X12_order_20 n) (fun y1 y2 y3 σ h => ih y1 y2 y3 σ h) _ _ _ _ h
  refine a_iload_n C dX12_order_0 (i := 1) rfl rfl ?_
  refine a_iconst C dX12_order_1 (v := 0) rfl ?_
  refine a_bipush C dX12_order_2 (v := 6) rfl ?_
  refine p_callSi C (As := [.int x1, .int 0, .int 6]) h (fun _ _ e => Z_X12_in hid e) ms_X12_in ml_RX12_301 rfl rfl (Nat.le_of_ble_eq_true rfl) (Nat.le_of_ble_eq_true rfl) (Nat.le_of_ble_eq_true rfl) dX12_order_4 (fun r2 σ1 h => ?_)
  refine p_if_ne C (X := r2.toInt) rfl dX12_order_7 (tgt := 12) rfl h (fun h => ?_) (fun h => ?_)
  ·
    refine a_aload_n C dX12_order_12 (i := 0) rfl rfl ?_
    refine p_callVv C (As := []) (i := 236) kd_236 (hid 236 (by decide)) ⟨_, _, rfl⟩ (by decide) h (fun _ e => Z_X12_copies hid e) mi_X12_copies ml_RX12_311 rfl rfl (Nat.le_of_ble_eq_true rfl) (Nat.le_of_ble_eq_true rfl) (Nat.le_of_ble_eq_true rfl) dX12_order_13 (fun σ3 h => ?_)
    refine a_iconst C dX12_order_16 (v := 0) rfl ?_
    refine a_istore_n C dX12_order_17 (i := 2) rfl (by decide) rfl (vs1 := [some (.ref (ad 236)), some (.int x1), some (.int 0), none]) rfl ?_
    refine a_iconst C dX12_order_18 (v := 0) rfl ?_
    refine a_istore_n C dX12_order_19 (i := 3) rfl (by decide) rfl (vs1 := [some (.ref (ad 236)), some (.int x1), some (.int 0), some (.int 0)]) rfl ?_
    exact j20 _ _ _ _ _ h
  ·
    refine a_iconst C dX12_order_10 (v := (-1)) rfl ?_
    exact a_iret Rt dX12_order_11 rfl (ret_eq (h.trans (congrArg some hR.symm)))
set_option maxHeartbeats 4000000 in
set_option maxRecDepth 100000 in
theorem Z_X12_ways {l : Launch} {D : va_G} {ids : List Nat} {ad : Nat → Nat} {ca : Nat → ClassId} {σ : HS} {x1 : Int32} {x2 : Int32} {x3 : Int32} {x4 : Int32} {r0 : Int32} {s0 : HS} (hid : ∀ i, i < 277 → i ∈ ids) (h : f_X12_ways x1 x2 x3 x4 σ = some (r0, s0)) : Ki l D ids ad ca yX12_ways cX12_ways 10 .int 1 24 [.ref (ad 236), .int x1, .int x2, .int x3, .int x4] σ (fun r σ1 => r = r0 ∧ σ1 = s0) := by
  obtain ⟨R, hR⟩ : ∃ R, (r0, s0) = R := ⟨_, rfl⟩
  replace h := h.trans (congrArg some hR)
  refine Ki.of (by decide) (Nat.le_of_ble_eq_true rfl) 5 (fun Γ C Rt => ?_)
  show AW ids ad ca Γ 0 [some (.ref (ad 236)), some (.int x1), some (.int x2), some (.int x3), some (.int x4), none, none, none, none, none] [] σ
  unfold f_X12_ways at h
  have j155 : ∀ (k80 : Int32 → Int32 → Int32 → Int32 → Int32 → Int32 → Int32 → HS → Option (Int32 × HS)) (hk80 : ∀ (y1 : Int32) (y2 : Int32) (y3 : Int32) (y4 : Int32) (y5 : Int32) (y6 : Int32) (y7 : Int32) (σ : HS), k80 y1 y2 y3 y4 y5 y6 y7 σ = some R → AW ids ad ca Γ 80 [some (.ref (ad 236)), some (.int y1), some (.int y2), some (.int y3), some (.int y4), some (.int y5), some (.int y6), some (.int y7), none, none] [] σ) (y1 : Int32) (y2 : Int32) (y3 : Int32) (y4 : Int32) (y5 : Int32) (y6 : Int32) (y7 : Int32) (σ : HS), f_X12_ways_155 k80 y1 y2 y3 y4 y5 y6 y7 σ = some R → AW ids ad ca Γ 155 [some (.ref (ad 236)), some (.int y1), some (.int y2), some (.int y3), some (.int y4), some (.int y5), some (.int y6), some (.int y7), none, none] [] σ := by
    intro k80 hk80 y1 y2 y3 y4 y5 y6 y7 σ h
    unfold f_X12_ways_155 at h
    refine p_iinc C (y := (y7 + 1)) (fun z1 => [some (.ref (ad 236)), some (.int y1), some (.int y2), some (.int y3), some (.int y4), some (.int y5), some (.int y6), some (.int z1), none, none]) dX12_ways_155 rfl rfl (by decide) rfl (fun _ => rfl) h (fun z1 h => ?_)
    refine a_goto C dX12_ways_158 (tgt := 80) rfl ?_
    exact hk80 _ _ _ _ _ _ _ _ h
  have j96 : ∀ (k80 : Int32 → Int32 → Int32 → Int32 → Int32 → Int32 → Int32 → HS → Option (Int32 × HS)) (hk80 : ∀ (y1 : Int32) (y2 : Int32) (y3 : Int32) (y4 : Int32) (y5 : Int32) (y6 : Int32) (y7 : Int32) (σ : HS), k80 y1 y2 y3 y4 y5 y6 y7 σ = some R → AW ids ad ca Γ 80 [some (.ref (ad 236)), some (.int y1), some (.int y2), some (.int y3), some (.int y4), some (.int y5), some (.int y6), some (.int y7), none, none] [] σ) (n : Nat) (y1 : Int32) (y2 : Int32) (y3 : Int32) (y4 : Int32) (y5 : Int32) (y6 : Int32) (y7 : Int32) (y8 : Int32) (y9 : Int32) (σ : HS), f_X12_ways_96 k80 n y1 y2 y3 y4 y5 y6 y7 y8 y9 σ = some R → AW ids ad ca Γ 96 [some (.ref (ad 236)), some (.int y1), some (.int y2), some (.int y3), some (.int y4), some (.int y5), some (.int y6), some (.int y7), some (.int y8), some (.int y9)] [] σ := by
    intro k80 hk80 n
    induction n with
    | zero => intro y1 y2 y3 y4 y5 y6 y7 y8 y9 σ h; exact nn h
    | succ n ih =>
      intro y1 y2 y3 y4 y5 y6 y7 y8 y9 σ h
      have h : b_X12_ways_96 k80 (f_X12_ways_96 k80 n) y1 y2 y3 y4 y5 y6 y7 y8 y9 σ = some R := h
      unfold b_X12_ways_96 at h
      refine a_iload C dX12_ways_96 rfl ?_
      refine p_if_lt C (X := y9.toInt) rfl dX12_ways_98 (tgt := 128) rfl h (fun h => ?_) (fun h => ?_)
      ·
        refine a_aload_n C dX12_ways_128 (i := 0) rfl rfl ?_
        refine p_callVi C (As := []) (i := 236) kd_236 (hid 236 (by decide)) ⟨_, _, rfl⟩ (by decide) h (fun _ _ e => Z_X12_keeps hid e) mi_X12_keeps ml_RX12_414 rfl rfl (Nat.le_of_ble_eq_true rfl) (Nat.le_of_ble_eq_true rfl) (Nat.le_of_ble_eq_true rfl) dX12_ways_129 (fun r2 σ1 h => ?_)
        refine a_iload_n C dX12_ways_132 (i := 3) rfl rfl ?_
        refine p_ic_eq C (X := r2.toInt) (Y := y3.toInt) rfl rfl dX12_ways_133 (tgt := 139) rfl h (fun h => ?_) (fun h => ?_)
        ·
          refine a_iload C dX12_ways_139 rfl ?_
          refine p_if_lt C (X := y4.toInt) rfl dX12_ways_141 (tgt := 152) rfl h (fun h => ?_) (fun h => ?_)
          ·
            refine p_iinc C (y := (y6 + 1)) (fun z3 => [some (.ref (ad 236)), some (.int y1), some (.int y2), some (.int y3), some (.int y4), some (.int y5), some (.int z3), some (.int y7), some (.int y8), some (.int y9)]) dX12_ways_152 rfl rfl (by decide) rfl (fun _ => rfl) h (fun z3 h => ?_)
            refine AW.sub (vs' := [some (.ref (ad 236)), some (.int y1), some (.int y2), some (.int y3), some (.int y4), some (.int y5), some (.int z3), some (.int y7), none, none]) (lsub_of (by simp [lsubB])) ?_
            exact j155 k80 hk80 _ _ _ _ _ _ _ _ h
          ·
            refine a_aload_n C dX12_ways_144 (i := 0) rfl rfl ?_
            refine a_get C fl_RX12_116 (i := 236) kd_236 (hid 236 (by decide)) (v := .ref (ad 269)) rfl dX12_ways_145 ?_
            refine a_iload C dX12_ways_148 rfl ?_
            refine p_iald C (i := 269) (show rowOK 269 from ⟨kd_269, by decide⟩) hid (by rw [al_269]; rfl) dX12_ways_150 h (fun h => ?_)
            exact a_iret Rt dX12_ways_151 rfl (ret_eq (h.trans (congrArg some hR.symm)))
        ·
          refine a_goto C dX12_ways_136 (tgt := 155) rfl ?_
          refine AW.sub (vs' := [some (.ref (ad 236)), some (.int y1), some (.int y2), some (.int y3), some (.int y4), some (.int y5), some (.int y6), some (.int y7), none, none]) (lsub_of (by simp [lsubB])) ?_
          exact j155 k80 hk80 _ _ _ _ _ _ _ _ h
      ·
        refine a_aload_n C dX12_ways_101 (i := 0) rfl rfl ?_
        refine a_get C fl_RX12_116 (i := 236) kd_236 (hid 236 (by decide)) (v := .ref (ad 269)) rfl dX12_ways_102 ?_
        refine a_iload C dX12_ways_105 rfl ?_
        refine a_iload C dX12_ways_107 rfl ?_
        refine a_iload_n C dX12_ways_109 (i := 2) rfl rfl ?_
        refine a_iconst C dX12_ways_110 (v := 1) rfl ?_
        refine a_iadd C dX12_ways_111 ?_
        refine p_irem C rfl dX12_ways_112 h (fun h => ?_)
        refine p_iast C (i := 269) (show rowOK 269 from ⟨kd_269, by decide⟩) hid (by rw [al_269]; rfl) dX12_ways_113 h (fun σ4 h => ?_)
        refine a_iload C dX12_ways_114 rfl ?_
        refine a_iload_n C dX12_ways_116 (i := 2) rfl rfl ?_
        refine a_iconst C dX12_ways_117 (v := 1) rfl ?_
        refine a_iadd C dX12_ways_118 ?_
        refine p_idiv C rfl dX12_ways_119 h (fun h => ?_)
        refine p_istore C (fun z5 => [some (.ref (ad 236)), some (.int y1), some (.int y2), some (.int y3), some (.int y4), some (.int y5), some (.int y6), some (.int y7), some (.int z5), some (.int y9)]) dX12_ways_120 (by decide) rfl (fun _ => rfl) h (fun z5 h => ?_)
        refine p_iinc C (y := (y9 + (-1))) (fun z6 => [some (.ref (ad 236)), some (.int y1), some (.int y2), some (.int y3), some (.int y4), some (.int y5), some (.int y6), some (.int y7), some (.int z5), some (.int z6)]) dX12_ways_122 rfl rfl (by decide) rfl (fun _ => rfl) h (fun z6 h => ?_)
        refine a_goto C dX12_ways_125 (tgt := 96) rfl ?_
        exact ih _ _ _ _ _ _ _ _ _ _ h
  have j80 : ∀ (n : Nat) (y1 : Int32) (y2 : Int32) (y3 : Int32) (y4 : Int32) (y5 : Int32) (y6 : Int32) (y7 : Int32) (σ : HS), f_X12_ways_80 n y1 y2 y3 y4 y5 y6 y7 σ = some R → AW ids ad ca Γ 80 [some (.ref (ad 236)), some (.int y1), some (.int y2), some (.int y3), some (.int y4), some (.int y5), some (.int y6), some (.int y7), none, none] [] σ := by
    intro n
    induction n with
    | zero => intro y1 y2 y3 y4 y5 y6 y7 σ h; exact nn h
    | succ n ih =>
      intro y1 y2 y3 y4 y5 y6 y7 σ h
      have h : b_X12_ways_80 (f_X12_ways_80 n) y1 y2 y3 y4 y5 y6 y7 σ = some R := h
      unfold b_X12_ways_80 at h
      refine a_iload C dX12_ways_80 rfl ?_
      refine a_iload C dX12_ways_82 rfl ?_
      refine p_ic_ge C (X := y7.toInt) (Y := y5.toInt) rfl rfl dX12_ways_84 (tgt := 161) rfl h (fun h => ?_) (fun h => ?_)
      ·
        refine a_iload C dX12_ways_161 rfl ?_
        refine a_iconst C dX12_ways_163 (v := (-1)) rfl ?_
        refine p_ic_ne C (X := y4.toInt) (Y := (-1)) rfl (by decide) dX12_ways_164 (tgt := 172) rfl h (fun h => ?_) (fun h => ?_)
        ·
          refine a_bipush C dX12_ways_172 (v := (-2)) rfl ?_
          exact a_iret Rt dX12_ways_174 rfl (ret_eq (h.trans (congrArg some hR.symm)))
        ·
          refine a_iload C dX12_ways_167 rfl ?_
          refine a_goto C dX12_ways_169 (tgt := 174) rfl ?_
          exact a_iret Rt dX12_ways_174 rfl (ret_eq (h.trans (congrArg some hR.symm)))
      ·
        refine a_iload C dX12_ways_87 rfl ?_
        refine a_istore C dX12_ways_89 (by decide) rfl (vs1 := [some (.ref (ad 236)), some (.int y1), some (.int y2), some (.int y3), some (.int y4), some (.int y5), some (.int y6), some (.int y7), some (.int y7), none]) rfl ?_
        refine a_iload_n C dX12_ways_91 (i := 1) rfl rfl ?_
        refine a_iconst C dX12_ways_92 (v := 1) rfl ?_
        refine a_isub C dX12_ways_93 ?_
        refine p_istore C (fun z1 => [some (.ref (ad 236)), some (.int y1), some (.int y2), some (.int y3), some (.int y4), some (.int y5), some (.int y6), some (.int y7), some (.int y7), some (.int z1)]) dX12_ways_94 (by decide) rfl (fun _ => rfl) h (fun z1 h => ?_)
        exact j96 (f_X12_ways_80 n) (fun y1 y2 y3 y4 y5 y6 y7 σ h => ih y1 y2 y3 y4 y5 y6 y7 σ h) _ _ _ _ _ _ _ _ _ _ _ h
  have j49 : ∀ (n : Nat) (y1 : Int32) (y2 : Int32) (y3 : Int32) (y4 : Int32) (y5 : Int32) (y6 : Int32) (σ : HS), f_X12_ways_49 n y1 y2 y3 y4 y5 y6 σ = some R → AW ids ad ca Γ 49 [some (.ref (ad 236)), some (.int y1), some (.int y2), some (.int y3), some (.int y4), some (.int y5), some (.int y6), none, none, none] [] σ := by
    intro n
    induction n with
    | zero => intro y1 y2 y3 y4 y5 y6 σ h; exact nn h
    | succ n ih =>
      intro y1 y2 y3 y4 y5 y6 σ h
      have h : b_X12_ways_49 (f_X12_ways_49 n) y1 y2 y3 y4 y5 y6 σ = some R := h
      unfold b_X12_ways_49 at h
      refine a_iload C dX12_ways_49 rfl ?_
      refine a_iload_n C dX12_ways_51 (i := 1) rfl rfl ?_
      refine p_ic_ge C (X := y6.toInt) (Y := y1.toInt) rfl rfl dX12_ways_52 (tgt := 69) rfl h (fun h => ?_) (fun h => ?_)
      ·
        refine a_aload_n C dX12_ways_69 (i := 0) rfl rfl ?_
        refine a_iload_n C dX12_ways_70 (i := 1) rfl rfl ?_
        refine p_put C fp_RX12_408 (i := 236) kd_236 (hid 236 (by decide)) rfl rfl dX12_ways_71 h (fun σ1 h => ?_)
        refine a_iconst C dX12_ways_74 (v := 0) rfl ?_
        refine a_istore C dX12_ways_75 (by decide) rfl (vs1 := [some (.ref (ad 236)), some (.int y1), some (.int y2), some (.int y3), some (.int y4), some (.int y5), some (.int 0), none, none, none]) rfl ?_
        refine a_iconst C dX12_ways_77 (v := 0) rfl ?_
        refine a_istore C dX12_ways_78 (by decide) rfl (vs1 := [some (.ref (ad 236)), some (.int y1), some (.int y2), some (.int y3), some (.int y4), some (.int y5), some (.int 0), some (.int 0), none, none]) rfl ?_
        exact j80 _ _ _ _ _ _ _ _ _ h
      ·
        refine a_iload C dX12_ways_55 rfl ?_
        refine a_iload_n C dX12_ways_57 (i := 2) rfl rfl ?_
        refine a_iconst C dX12_ways_58 (v := 1) rfl ?_
        refine a_iadd C dX12_ways_59 ?_
        refine a_imul C dX12_ways_60 ?_
        refine p_istore C (fun z2 => [some (.ref (ad 236)), some (.int y1), some (.int y2), some (.int y3), some (.int y4), some (.int z2), some (.int y6), none, none, none]) dX12_ways_61 (by decide) rfl (fun _ => rfl) h (fun z2 h => ?_)
        refine p_iinc C (y := (y6 + 1)) (fun z3 => [some (.ref (ad 236)), some (.int y1), some (.int y2), some (.int y3), some (.int y4), some (.int z2), some (.int z3), none, none, none]) dX12_ways_63 rfl rfl (by decide) rfl (fun _ => rfl) h (fun z3 h => ?_)
        refine a_goto C dX12_ways_66 (tgt := 49) rfl ?_
        exact ih _ _ _ _ _ _ _ h
  refine a_iload_n C dX12_ways_0 (i := 1) rfl rfl ?_
  refine a_iconst C dX12_ways_1 (v := 1) rfl ?_
  refine a_iconst C dX12_ways_2 (v := 5) rfl ?_
  refine p_callSi C (As := [.int x1, .int 1, .int 5]) h (fun _ _ e => Z_X12_in hid e) ms_X12_in ml_RX12_301 rfl rfl (Nat.le_of_ble_eq_true rfl) (Nat.le_of_ble_eq_true rfl) (Nat.le_of_ble_eq_true rfl) dX12_ways_3 (fun r2 σ1 h => ?_)
  refine p_if_eq C (X := r2.toInt) rfl dX12_ways_6 (tgt := 41) rfl h (fun h => ?_) (fun h => ?_)
  ·
    refine a_iconst C dX12_ways_41 (v := (-1)) rfl ?_
    exact a_iret Rt dX12_ways_42 rfl (ret_eq (h.trans (congrArg some hR.symm)))
  ·
    refine a_iload_n C dX12_ways_9 (i := 2) rfl rfl ?_
    refine a_iconst C dX12_ways_10 (v := 1) rfl ?_
    refine a_bipush C dX12_ways_11 (v := 7) rfl ?_
    refine p_callSi C (As := [.int x2, .int 1, .int 7]) h (fun _ _ e => Z_X12_in hid e) ms_X12_in ml_RX12_301 rfl rfl (Nat.le_of_ble_eq_true rfl) (Nat.le_of_ble_eq_true rfl) (Nat.le_of_ble_eq_true rfl) dX12_ways_13 (fun r4 σ3 h => ?_)
    refine p_if_eq C (X := r4.toInt) rfl dX12_ways_16 (tgt := 41) rfl h (fun h => ?_) (fun h => ?_)
    ·
      refine a_iconst C dX12_ways_41 (v := (-1)) rfl ?_
      exact a_iret Rt dX12_ways_42 rfl (ret_eq (h.trans (congrArg some hR.symm)))
    ·
      refine a_iload_n C dX12_ways_19 (i := 3) rfl rfl ?_
      refine a_iconst C dX12_ways_20 (v := 0) rfl ?_
      refine a_bipush C dX12_ways_21 (v := 7) rfl ?_
      refine p_callSi C (As := [.int x3, .int 0, .int 7]) h (fun _ _ e => Z_X12_in hid e) ms_X12_in ml_RX12_301 rfl rfl (Nat.le_of_ble_eq_true rfl) (Nat.le_of_ble_eq_true rfl) (Nat.le_of_ble_eq_true rfl) dX12_ways_23 (fun r6 σ5 h => ?_)
      refine p_if_eq C (X := r6.toInt) rfl dX12_ways_26 (tgt := 41) rfl h (fun h => ?_) (fun h => ?_)
      ·
        refine a_iconst C dX12_ways_41 (v := (-1)) rfl ?_
        exact a_iret Rt dX12_ways_42 rfl (ret_eq (h.trans (congrArg some hR.symm)))
      ·
        refine a_iload C dX12_ways_29 rfl ?_
        refine a_iconst C dX12_ways_31 (v := (-1)) rfl ?_
        refine a_iload_n C dX12_ways_32 (i := 1) rfl rfl ?_
        refine a_iconst C dX12_ways_33 (v := 1) rfl ?_
        refine a_isub C dX12_ways_34 ?_
        refine p_callSi C (As := [.int x4, .int (-1), .int (x1 - (1 : Int32))]) h (fun _ _ e => Z_X12_in hid e) ms_X12_in ml_RX12_301 rfl rfl (Nat.le_of_ble_eq_true rfl) (Nat.le_of_ble_eq_true rfl) (Nat.le_of_ble_eq_true rfl) dX12_ways_35 (fun r8 σ7 h => ?_)
        refine p_if_ne C (X := r8.toInt) rfl dX12_ways_38 (tgt := 43) rfl h (fun h => ?_) (fun h => ?_)
        ·
          refine a_iconst C dX12_ways_43 (v := 1) rfl ?_
          refine a_istore C dX12_ways_44 (by decide) rfl (vs1 := [some (.ref (ad 236)), some (.int x1), some (.int x2), some (.int x3), some (.int x4), some (.int 1), none, none, none, none]) rfl ?_
          refine a_iconst C dX12_ways_46 (v := 0) rfl ?_
          refine a_istore C dX12_ways_47 (by decide) rfl (vs1 := [some (.ref (ad 236)), some (.int x1), some (.int x2), some (.int x3), some (.int x4), some (.int 1), some (.int 0), none, none, none]) rfl ?_
          exact j49 _ _ _ _ _ _ _ _ h
        ·
          refine a_iconst C dX12_ways_41 (v := (-1)) rfl ?_
          exact a_iret Rt dX12_ways_42 rfl (ret_eq (h.trans (congrArg some hR.symm)))
set_option maxHeartbeats 4000000 in
set_option maxRecDepth 100000 in
theorem Z_X12_light {l : Launch} {D : va_G} {ids : List Nat} {ad : Nat → Nat} {ca : Nat → ClassId} {σ : HS} {x1 : Int32} {x2 : Int32} {r0 : Int32} {s0 : HS} (hid : ∀ i, i < 277 → i ∈ ids) (h : f_X12_light x1 x2 σ = some (r0, s0)) : Ki l D ids ad ca yX12_light cX12_light 6 .int 6 144 [.ref (ad 236), .int x1, .int x2] σ (fun r σ1 => r = r0 ∧ σ1 = s0) := by
  obtain ⟨R, hR⟩ : ∃ R, (r0, s0) = R := ⟨_, rfl⟩
  replace h := h.trans (congrArg some hR)
  refine Ki.of (by decide) (Nat.le_of_ble_eq_true rfl) 3 (fun Γ C Rt => ?_)
  show AW ids ad ca Γ 0 [some (.ref (ad 236)), some (.int x1), some (.int x2), none, none, none] [] σ
  unfold f_X12_light at h
  have j108 : ∀ (k28 : Int32 → Int32 → Int32 → Int32 → Int32 → HS → Option (Int32 × HS)) (hk28 : ∀ (y1 : Int32) (y2 : Int32) (y3 : Int32) (y4 : Int32) (y5 : Int32) (σ : HS), k28 y1 y2 y3 y4 y5 σ = some R → AW ids ad ca Γ 28 [some (.ref (ad 236)), some (.int y1), some (.int y2), some (.int y3), some (.int y4), some (.int y5)] [] σ) (y1 : Int32) (y2 : Int32) (y3 : Int32) (y4 : Int32) (y5 : Int32) (σ : HS), f_X12_light_108 k28 y1 y2 y3 y4 y5 σ = some R → AW ids ad ca Γ 108 [some (.ref (ad 236)), some (.int y1), some (.int y2), some (.int y3), some (.int y4), some (.int y5)] [] σ := by
    intro k28 hk28 y1 y2 y3 y4 y5 σ h
    unfold f_X12_light_108 at h
    refine p_iinc C (y := (y5 + 1)) (fun z1 => [some (.ref (ad 236)), some (.int y1), some (.int y2), some (.int y3), some (.int y4), some (.int z1)]) dX12_light_108 rfl rfl (by decide) rfl (fun _ => rfl) h (fun z1 h => ?_)
    refine a_goto C dX12_light_111 (tgt := 28) rfl ?_
    exact hk28 _ _ _ _ _ _ h
  have j96 : ∀ (k28 : Int32 → Int32 → Int32 → Int32 → Int32 → HS → Option (Int32 × HS)) (hk28 : ∀ (y1 : Int32) (y2 : Int32) (y3 : Int32) (y4 : Int32) (y5 : Int32) (σ : HS), k28 y1 y2 y3 y4 y5 σ = some R → AW ids ad ca Γ 28 [some (.ref (ad 236)), some (.int y1), some (.int y2), some (.int y3), some (.int y4), some (.int y5)] [] σ) (y1 : Int32) (y2 : Int32) (y5 : Int32) (σ : HS), f_X12_light_96 k28 y1 y2 y5 σ = some R → AW ids ad ca Γ 96 [some (.ref (ad 236)), some (.int y1), some (.int y2), none, none, some (.int y5)] [] σ := by
    intro k28 hk28 y1 y2 y5 σ h
    unfold f_X12_light_96 at h
    refine a_iload C dX12_light_96 rfl ?_
    refine a_istore_n C dX12_light_98 (i := 3) rfl (by decide) rfl (vs1 := [some (.ref (ad 236)), some (.int y1), some (.int y2), some (.int y5), none, some (.int y5)]) rfl ?_
    refine a_aload_n C dX12_light_99 (i := 0) rfl rfl ?_
    refine a_get C fl_RX12_110 (i := 236) kd_236 (hid 236 (by decide)) (v := .ref (ad 267)) rfl dX12_light_100 ?_
    refine a_bipush C dX12_light_103 (v := 22) rfl ?_
    refine p_ialdc C (i := 267) 22 (show rowOK 267 from ⟨kd_267, by decide⟩) hid (by decide) (by rw [al_267]; decide) dX12_light_105 ?_
    refine p_istore C (fun z1 => [some (.ref (ad 236)), some (.int y1), some (.int y2), some (.int y5), some (.int z1), some (.int y5)]) dX12_light_106 (by decide) rfl (fun _ => rfl) h (fun z1 h => ?_)
    exact j108 k28 hk28 _ _ _ _ _ _ h
  have j28 : ∀ (n : Nat) (y1 : Int32) (y2 : Int32) (y3 : Int32) (y4 : Int32) (y5 : Int32) (σ : HS), f_X12_light_28 n y1 y2 y3 y4 y5 σ = some R → AW ids ad ca Γ 28 [some (.ref (ad 236)), some (.int y1), some (.int y2), some (.int y3), some (.int y4), some (.int y5)] [] σ := by
    intro n
    induction n with
    | zero => intro y1 y2 y3 y4 y5 σ h; exact nn h
    | succ n ih =>
      intro y1 y2 y3 y4 y5 σ h
      have h : b_X12_light_28 (f_X12_light_28 n) y1 y2 y3 y4 y5 σ = some R := h
      unfold b_X12_light_28 at h
      refine a_iload C dX12_light_28 rfl ?_
      refine a_aload_n C dX12_light_30 (i := 0) rfl rfl ?_
      refine a_get C fl_RX12_55 (i := 236) kd_236 (hid 236 (by decide)) (v := .ref (ad 249)) rfl dX12_light_31 ?_
      refine a_aload_n C dX12_light_34 (i := 0) rfl rfl ?_
      refine a_get C fl_RX12_221 (i := 236) kd_236 (hid 236 (by decide)) (v := .int (σ.1 236 18)) rfl dX12_light_35 ?_
      refine p_iald C (i := 249) (show rowOK 249 from ⟨kd_249, by decide⟩) hid (by rw [al_249]; rfl) dX12_light_38 h (fun h => ?_)
      refine p_ic_ge C (X := y5.toInt) (Y := (σ.1 249 (σ.1 236 18).toInt.toNat).toInt) rfl rfl dX12_light_39 (tgt := 114) rfl h (fun h => ?_) (fun h => ?_)
      ·
        refine a_iload_n C dX12_light_114 (i := 2) rfl rfl ?_
        refine p_if_ne C (X := y2.toInt) rfl dX12_light_115 (tgt := 122) rfl h (fun h => ?_) (fun h => ?_)
        ·
          refine a_iload C dX12_light_122 rfl ?_
          exact a_iret Rt dX12_light_124 rfl (ret_eq (h.trans (congrArg some hR.symm)))
        ·
          refine a_iload_n C dX12_light_118 (i := 3) rfl rfl ?_
          refine a_goto C dX12_light_119 (tgt := 124) rfl ?_
          exact a_iret Rt dX12_light_124 rfl (ret_eq (h.trans (congrArg some hR.symm)))
      ·
        refine a_aload_n C dX12_light_42 (i := 0) rfl rfl ?_
        refine p_callVv C (As := []) (i := 236) kd_236 (hid 236 (by decide)) ⟨_, _, rfl⟩ (by decide) h (fun _ e => Z_X12_copiesStill hid e) mi_X12_copiesStill ml_RX12_429 rfl rfl (Nat.le_of_ble_eq_true rfl) (Nat.le_of_ble_eq_true rfl) (Nat.le_of_ble_eq_true rfl) dX12_light_43 (fun σ1 h => ?_)
        refine a_aload_n C dX12_light_46 (i := 0) rfl rfl ?_
        refine a_iload C dX12_light_47 rfl ?_
        refine p_callVi C (As := [.int y5]) (i := 236) kd_236 (hid 236 (by decide)) ⟨_, _, rfl⟩ (by decide) h (fun _ _ e => Z_X12_keepsOf hid e) mi_X12_keepsOf ml_RX12_417 rfl rfl (Nat.le_of_ble_eq_true rfl) (Nat.le_of_ble_eq_true rfl) (Nat.le_of_ble_eq_true rfl) dX12_light_49 (fun r4 σ3 h => ?_)
        refine a_aload_n C dX12_light_52 (i := 0) rfl rfl ?_
        refine a_iconst C dX12_light_53 (v := 0) rfl ?_
        refine p_callVi C (As := [.int 0]) (i := 236) kd_236 (hid 236 (by decide)) ⟨_, _, rfl⟩ (by decide) h (fun _ _ e => Z_X12_thingsSo hid e) mi_X12_thingsSo ml_RX12_350 rfl rfl (Nat.le_of_ble_eq_true rfl) (Nat.le_of_ble_eq_true rfl) (Nat.le_of_ble_eq_true rfl) dX12_light_54 (fun r6 σ5 h => ?_)
        refine p_callSi C (As := [.int r6]) h (fun _ _ e => Z_X12_bits hid e) ms_X12_bits ml_RX12_353 rfl rfl (Nat.le_of_ble_eq_true rfl) (Nat.le_of_ble_eq_true rfl) (Nat.le_of_ble_eq_true rfl) dX12_light_57 (fun r8 σ7 h => ?_)
        refine p_ic_eq C (X := r4.toInt) (Y := r8.toInt) rfl rfl dX12_light_60 (tgt := 66) rfl h (fun h => ?_) (fun h => ?_)
        ·
          refine a_aload_n C dX12_light_66 (i := 0) rfl rfl ?_
          refine a_iload C dX12_light_67 rfl ?_
          refine p_callVv C (As := [.int y5]) (i := 236) kd_236 (hid 236 (by decide)) ⟨_, _, rfl⟩ (by decide) h (fun _ e => Z_X12_uses hid e) mi_X12_uses ml_RX12_399 rfl rfl (Nat.le_of_ble_eq_true rfl) (Nat.le_of_ble_eq_true rfl) (Nat.le_of_ble_eq_true rfl) dX12_light_69 (fun σ9 h => ?_)
          refine a_aload_n C dX12_light_72 (i := 0) rfl rfl ?_
          refine a_iload_n C dX12_light_73 (i := 1) rfl rfl ?_
          refine p_callVv C (As := [.int y1]) (i := 236) kd_236 (hid 236 (by decide)) ⟨_, _, rfl⟩ (by decide) h (fun _ e => Z_X12_goes hid e) mi_X12_goes ml_RX12_405 rfl rfl (Nat.le_of_ble_eq_true rfl) (Nat.le_of_ble_eq_true rfl) (Nat.le_of_ble_eq_true rfl) dX12_light_74 (fun σ11 h => ?_)
          refine a_iload_n C dX12_light_77 (i := 3) rfl rfl ?_
          refine p_if_lt C (X := y3.toInt) rfl dX12_light_78 (tgt := 96) rfl h (fun h => ?_) (fun h => ?_)
          ·
            refine AW.sub (vs' := [some (.ref (ad 236)), some (.int y1), some (.int y2), none, none, some (.int y5)]) (lsub_of (by simp [lsubB])) ?_
            exact j96 (f_X12_light_28 n) (fun y1 y2 y3 y4 y5 σ h => ih y1 y2 y3 y4 y5 σ h) _ _ _ _ h
          ·
            refine a_aload_n C dX12_light_81 (i := 0) rfl rfl ?_
            refine a_get C fl_RX12_110 (i := 236) kd_236 (hid 236 (by decide)) (v := .ref (ad 267)) rfl dX12_light_82 ?_
            refine a_bipush C dX12_light_85 (v := 22) rfl ?_
            refine p_ialdc C (i := 267) 22 (show rowOK 267 from ⟨kd_267, by decide⟩) hid (by decide) (by rw [al_267]; decide) dX12_light_87 ?_
            refine a_iload C dX12_light_88 rfl ?_
            refine p_ic_lt C (X := (σ11.1 267 22).toInt) (Y := y4.toInt) rfl rfl dX12_light_90 (tgt := 96) rfl h (fun h => ?_) (fun h => ?_)
            ·
              refine AW.sub (vs' := [some (.ref (ad 236)), some (.int y1), some (.int y2), none, none, some (.int y5)]) (lsub_of (by simp [lsubB])) ?_
              exact j96 (f_X12_light_28 n) (fun y1 y2 y3 y4 y5 σ h => ih y1 y2 y3 y4 y5 σ h) _ _ _ _ h
            ·
              refine a_goto C dX12_light_93 (tgt := 108) rfl ?_
              exact j108 (f_X12_light_28 n) (fun y1 y2 y3 y4 y5 σ h => ih y1 y2 y3 y4 y5 σ h) _ _ _ _ _ _ h
        ·
          refine a_goto C dX12_light_63 (tgt := 108) rfl ?_
          exact j108 (f_X12_light_28 n) (fun y1 y2 y3 y4 y5 σ h => ih y1 y2 y3 y4 y5 σ h) _ _ _ _ _ _ h
  refine a_iload_n C dX12_light_0 (i := 1) rfl rfl ?_
  refine p_callSi C (As := [.int x1]) h (fun _ _ e => Z_X12_isSome hid e) ms_X12_isSome ml_RX12_454 rfl rfl (Nat.le_of_ble_eq_true rfl) (Nat.le_of_ble_eq_true rfl) (Nat.le_of_ble_eq_true rfl) dX12_light_1 (fun r2 σ1 h => ?_)
  refine p_if_eq C (X := r2.toInt) rfl dX12_light_4 (tgt := 16) rfl h (fun h => ?_) (fun h => ?_)
  ·
    refine a_iconst C dX12_light_16 (v := (-1)) rfl ?_
    exact a_iret Rt dX12_light_17 rfl (ret_eq (h.trans (congrArg some hR.symm)))
  ·
    refine a_iload_n C dX12_light_7 (i := 2) rfl rfl ?_
    refine a_iconst C dX12_light_8 (v := 0) rfl ?_
    refine a_iconst C dX12_light_9 (v := 1) rfl ?_
    refine p_callSi C (As := [.int x2, .int 0, .int 1]) h (fun _ _ e => Z_X12_in hid e) ms_X12_in ml_RX12_301 rfl rfl (Nat.le_of_ble_eq_true rfl) (Nat.le_of_ble_eq_true rfl) (Nat.le_of_ble_eq_true rfl) dX12_light_10 (fun r4 σ3 h => ?_)
    refine p_if_ne C (X := r4.toInt) rfl dX12_light_13 (tgt := 18) rfl h (fun h => ?_) (fun h => ?_)
    ·
      refine a_bipush C dX12_light_18 (v := (-2)) rfl ?_
      refine a_istore_n C dX12_light_20 (i := 3) rfl (by decide) rfl (vs1 := [some (.ref (ad 236)), some (.int x1), some (.int x2), some (.int (-2)), none, none]) rfl ?_
      refine a_bipush C dX12_light_21 (v := (-2)) rfl ?_
      refine a_istore C dX12_light_23 (by decide) rfl (vs1 := [some (.ref (ad 236)), some (.int x1), some (.int x2), some (.int (-2)), some (.int (-2)), none]) rfl ?_
      refine a_iconst C dX12_light_25 (v := 0) rfl ?_
      refine a_istore C dX12_light_26 (by decide) rfl (vs1 := [some (.ref (ad 236)), some (.int x1), some (.int x2), some (.int (-2)), some (.int (-2)), some (.int 0)]) rfl ?_
      exact j28 _ _ _ _ _ _ _ h
    ·
      refine a_iconst C dX12_light_16 (v := (-1)) rfl ?_
      exact a_iret Rt dX12_light_17 rfl (ret_eq (h.trans (congrArg some hR.symm)))
set_option maxHeartbeats 4000000 in
set_option maxRecDepth 100000 in
theorem Z_X12_rule {l : Launch} {D : va_G} {ids : List Nat} {ad : Nat → Nat} {ca : Nat → ClassId} {σ : HS} {x1 : Int32} {r0 : Int32} {s0 : HS} (hid : ∀ i, i < 277 → i ∈ ids) (h : f_X12_rule x1 σ = some (r0, s0)) : Ki l D ids ad ca yX12_rule cX12_rule 4 .int 5 122 [.ref (ad 236), .int x1] σ (fun r σ1 => r = r0 ∧ σ1 = s0) := by
  obtain ⟨R, hR⟩ : ∃ R, (r0, s0) = R := ⟨_, rfl⟩
  replace h := h.trans (congrArg some hR)
  refine Ki.of (by decide) (Nat.le_of_ble_eq_true rfl) 2 (fun Γ C Rt => ?_)
  show AW ids ad ca Γ 0 [some (.ref (ad 236)), some (.int x1), none, none] [] σ
  unfold f_X12_rule at h
  have j19 : ∀ (n : Nat) (y1 : Int32) (y2 : Int32) (y3 : Int32) (σ : HS), f_X12_rule_19 n y1 y2 y3 σ = some R → AW ids ad ca Γ 19 [some (.ref (ad 236)), some (.int y1), some (.int y2), some (.int y3)] [] σ := by
    intro n
    induction n with
    | zero => intro y1 y2 y3 σ h; exact nn h
    | succ n ih =>
      intro y1 y2 y3 σ h
      have h : b_X12_rule_19 (f_X12_rule_19 n) y1 y2 y3 σ = some R := h
      unfold b_X12_rule_19 at h
      refine a_iload_n C dX12_rule_19 (i := 3) rfl rfl ?_
      refine a_iload_n C dX12_rule_20 (i := 1) rfl rfl ?_
      refine p_ic_ge C (X := y3.toInt) (Y := y1.toInt) rfl rfl dX12_rule_21 (tgt := 41) rfl h (fun h => ?_) (fun h => ?_)
      ·
        refine a_iload_n C dX12_rule_41 (i := 2) rfl rfl ?_
        exact a_iret Rt dX12_rule_42 rfl (ret_eq (h.trans (congrArg some hR.symm)))
      ·
        refine a_aload_n C dX12_rule_24 (i := 0) rfl rfl ?_
        refine p_callVv C (As := []) (i := 236) kd_236 (hid 236 (by decide)) ⟨_, _, rfl⟩ (by decide) h (fun _ e => Z_X12_beatGoes hid e) mi_X12_beatGoes ml_RX12_387 rfl rfl (Nat.le_of_ble_eq_true rfl) (Nat.le_of_ble_eq_true rfl) (Nat.le_of_ble_eq_true rfl) dX12_rule_25 (fun σ1 h => ?_)
        refine a_iload_n C dX12_rule_28 (i := 2) rfl rfl ?_
        refine a_aload_n C dX12_rule_29 (i := 0) rfl rfl ?_
        refine a_get C fl_RX12_365 (i := 236) kd_236 (hid 236 (by decide)) (v := .int (σ1.1 236 53)) rfl dX12_rule_30 ?_
        refine a_iadd C dX12_rule_33 ?_
        refine p_istore_n C (fun z3 => [some (.ref (ad 236)), some (.int y1), some (.int z3), some (.int y3)]) dX12_rule_34 (i := 2) rfl (by decide) rfl (fun _ => rfl) h (fun z3 h => ?_)
        refine p_iinc C (y := (y3 + 1)) (fun z4 => [some (.ref (ad 236)), some (.int y1), some (.int z3), some (.int z4)]) dX12_rule_35 rfl rfl (by decide) rfl (fun _ => rfl) h (fun z4 h => ?_)
        refine a_goto C dX12_rule_38 (tgt := 19) rfl ?_
        exact ih _ _ _ _ h
  refine a_iload_n C dX12_rule_0 (i := 1) rfl rfl ?_
  refine p_callSi C (As := [.int x1]) h (fun _ _ e => Z_X12_isSome hid e) ms_X12_isSome ml_RX12_454 rfl rfl (Nat.le_of_ble_eq_true rfl) (Nat.le_of_ble_eq_true rfl) (Nat.le_of_ble_eq_true rfl) dX12_rule_1 (fun r2 σ1 h => ?_)
  refine p_if_ne C (X := r2.toInt) rfl dX12_rule_4 (tgt := 11) rfl h (fun h => ?_) (fun h => ?_)
  ·
    refine a_aload_n C dX12_rule_11 (i := 0) rfl rfl ?_
    refine p_callVv C (As := []) (i := 236) kd_236 (hid 236 (by decide)) ⟨_, _, rfl⟩ (by decide) h (fun _ e => Z_X12_copiesStill hid e) mi_X12_copiesStill ml_RX12_429 rfl rfl (Nat.le_of_ble_eq_true rfl) (Nat.le_of_ble_eq_true rfl) (Nat.le_of_ble_eq_true rfl) dX12_rule_12 (fun σ3 h => ?_)
    refine a_iconst C dX12_rule_15 (v := 0) rfl ?_
    refine a_istore_n C dX12_rule_16 (i := 2) rfl (by decide) rfl (vs1 := [some (.ref (ad 236)), some (.int x1), some (.int 0), none]) rfl ?_
    refine a_iconst C dX12_rule_17 (v := 0) rfl ?_
    refine a_istore_n C dX12_rule_18 (i := 3) rfl (by decide) rfl (vs1 := [some (.ref (ad 236)), some (.int x1), some (.int 0), some (.int 0)]) rfl ?_
    exact j19 _ _ _ _ _ h
  ·
    refine a_ldcw C dX12_rule_7 ko_RX12_457 ?_
    exact a_iret Rt dX12_rule_10 rfl (ret_eq (h.trans (congrArg some hR.symm)))
set_option maxHeartbeats 4000000 in
set_option maxRecDepth 100000 in
theorem Z_X12_down {l : Launch} {D : va_G} {ids : List Nat} {ad : Nat → Nat} {ca : Nat → ClassId} {σ : HS} {r0 : Int32} {s0 : HS} (hid : ∀ i, i < 277 → i ∈ ids) (h : f_X12_down σ = some (r0, s0)) : Ki l D ids ad ca yX12_down cX12_down 2 .int 5 122 [.ref (ad 236)] σ (fun r σ1 => r = r0 ∧ σ1 = s0) := by
  obtain ⟨R, hR⟩ : ∃ R, (r0, s0) = R := ⟨_, rfl⟩
  replace h := h.trans (congrArg some hR)
  refine Ki.of (by decide) (Nat.le_of_ble_eq_true rfl) 1 (fun Γ C Rt => ?_)
  show AW ids ad ca Γ 0 [some (.ref (ad 236)), none] [] σ
  unfold f_X12_down at h
  have j6 : ∀ (n : Nat) (y1 : Int32) (σ : HS), f_X12_down_6 n y1 σ = some R → AW ids ad ca Γ 6 [some (.ref (ad 236)), some (.int y1)] [] σ := by
    intro n
    induction n with
    | zero => intro y1 σ h; exact nn h
    | succ n ih =>
      intro y1 σ h
      have h : b_X12_down_6 (f_X12_down_6 n) y1 σ = some R := h
      unfold b_X12_down_6 at h
      refine a_iload_n C dX12_down_6 (i := 1) rfl rfl ?_
      refine a_sipush C dX12_down_7 (v := 200) rfl ?_
      refine p_ic_gt C (X := y1.toInt) (Y := 200) rfl (by decide) dX12_down_10 (tgt := 33) rfl h (fun h => ?_) (fun h => ?_)
      ·
        refine a_bipush C dX12_down_33 (v := (-2)) rfl ?_
        exact a_iret Rt dX12_down_35 rfl (ret_eq (h.trans (congrArg some hR.symm)))
      ·
        refine a_aload_n C dX12_down_13 (i := 0) rfl rfl ?_
        refine a_iconst C dX12_down_14 (v := 0) rfl ?_
        refine p_callVi C (As := [.int 0]) (i := 236) kd_236 (hid 236 (by decide)) ⟨_, _, rfl⟩ (by decide) h (fun _ _ e => Z_X12_thingsSo hid e) mi_X12_thingsSo ml_RX12_350 rfl rfl (Nat.le_of_ble_eq_true rfl) (Nat.le_of_ble_eq_true rfl) (Nat.le_of_ble_eq_true rfl) dX12_down_15 (fun r2 σ1 h => ?_)
        refine p_if_ne C (X := r2.toInt) rfl dX12_down_18 (tgt := 23) rfl h (fun h => ?_) (fun h => ?_)
        ·
          refine a_aload_n C dX12_down_23 (i := 0) rfl rfl ?_
          refine p_callVv C (As := []) (i := 236) kd_236 (hid 236 (by decide)) ⟨_, _, rfl⟩ (by decide) h (fun _ e => Z_X12_beatGoes hid e) mi_X12_beatGoes ml_RX12_387 rfl rfl (Nat.le_of_ble_eq_true rfl) (Nat.le_of_ble_eq_true rfl) (Nat.le_of_ble_eq_true rfl) dX12_down_24 (fun σ3 h => ?_)
          refine p_iinc C (y := (y1 + 1)) (fun z5 => [some (.ref (ad 236)), some (.int z5)]) dX12_down_27 rfl rfl (by decide) rfl (fun _ => rfl) h (fun z5 h => ?_)
          refine a_goto C dX12_down_30 (tgt := 6) rfl ?_
          exact ih _ _ h
        ·
          refine a_iload_n C dX12_down_21 (i := 1) rfl rfl ?_
          exact a_iret Rt dX12_down_22 rfl (ret_eq (h.trans (congrArg some hR.symm)))
  refine a_aload_n C dX12_down_0 (i := 0) rfl rfl ?_
  refine p_callVv C (As := []) (i := 236) kd_236 (hid 236 (by decide)) ⟨_, _, rfl⟩ (by decide) h (fun _ e => Z_X12_copiesStill hid e) mi_X12_copiesStill ml_RX12_429 rfl rfl (Nat.le_of_ble_eq_true rfl) (Nat.le_of_ble_eq_true rfl) (Nat.le_of_ble_eq_true rfl) dX12_down_1 (fun σ1 h => ?_)
  refine a_iconst C dX12_down_4 (v := 0) rfl ?_
  refine a_istore_n C dX12_down_5 (i := 1) rfl (by decide) rfl (vs1 := [some (.ref (ad 236)), some (.int 0)]) rfl ?_
  exact j6 _ _ _ h

set_option maxHeartbeats 4000000 in
set_option maxRecDepth 100000 in
theorem Z_X12_then {l : Launch} {D : va_G} {ids : List Nat} {ad : Nat → Nat} {ca : Nat → ClassId} {σ : HS} {x1 : Int32} {x2 : Int32} {r0 : Int32} {s0 : HS} (hid : ∀ i, i < 277 → i ∈ ids) (h : f_X12_then x1 x2 σ = some (r0, s0)) : Ki l D ids ad ca yX12_then cX12_then 3 .int 6 144 [.ref (ad 236), .int x1, .int x2] σ (fun r σ1 => r = r0 ∧ σ1 = s0) := by
  obtain ⟨R, hR⟩ : ∃ R, (r0, s0) = R := ⟨_, rfl⟩
  replace h := h.trans (congrArg some hR)
  refine Ki.of (by decide) (Nat.le_of_ble_eq_true rfl) 0 (fun Γ C Rt => ?_)
  show AW ids ad ca Γ 0 [some (.ref (ad 236)), some (.int x1), some (.int x2)] [] σ
  unfold f_X12_then at h
  refine a_iload_n C dX12_then_0 (i := 1) rfl rfl ?_
  refine p_callSi C (As := [.int x1]) h (fun _ _ e => Z_X12_isLong hid e) ms_X12_isLong ml_RX12_402 rfl rfl (Nat.le_of_ble_eq_true rfl) (Nat.le_of_ble_eq_true rfl) (Nat.le_of_ble_eq_true rfl) dX12_then_1 (fun r2 σ1 h => ?_)
  refine p_if_eq C (X := r2.toInt) rfl dX12_then_4 (tgt := 16) rfl h (fun h => ?_) (fun h => ?_)
  ·
    refine a_iconst C dX12_then_16 (v := (-1)) rfl ?_
    exact a_iret Rt dX12_then_17 rfl (ret_eq (h.trans (congrArg some hR.symm)))
  ·
    refine a_iload_n C dX12_then_7 (i := 2) rfl rfl ?_
    refine a_iconst C dX12_then_8 (v := 0) rfl ?_
    refine a_iconst C dX12_then_9 (v := 3) rfl ?_
    refine p_callSi C (As := [.int x2, .int 0, .int 3]) h (fun _ _ e => Z_X12_in hid e) ms_X12_in ml_RX12_301 rfl rfl (Nat.le_of_ble_eq_true rfl) (Nat.le_of_ble_eq_true rfl) (Nat.le_of_ble_eq_true rfl) dX12_then_10 (fun r4 σ3 h => ?_)
    refine p_if_ne C (X := r4.toInt) rfl dX12_then_13 (tgt := 18) rfl h (fun h => ?_) (fun h => ?_)
    ·
      refine a_aload_n C dX12_then_18 (i := 0) rfl rfl ?_
      refine p_callVv C (As := []) (i := 236) kd_236 (hid 236 (by decide)) ⟨_, _, rfl⟩ (by decide) h (fun _ e => Z_X12_copies hid e) mi_X12_copies ml_RX12_311 rfl rfl (Nat.le_of_ble_eq_true rfl) (Nat.le_of_ble_eq_true rfl) (Nat.le_of_ble_eq_true rfl) dX12_then_19 (fun σ5 h => ?_)
      refine a_aload_n C dX12_then_22 (i := 0) rfl rfl ?_
      refine a_iload_n C dX12_then_23 (i := 1) rfl rfl ?_
      refine p_callVv C (As := [.int x1]) (i := 236) kd_236 (hid 236 (by decide)) ⟨_, _, rfl⟩ (by decide) h (fun _ e => Z_X12_goes hid e) mi_X12_goes ml_RX12_405 rfl rfl (Nat.le_of_ble_eq_true rfl) (Nat.le_of_ble_eq_true rfl) (Nat.le_of_ble_eq_true rfl) dX12_then_24 (fun σ7 h => ?_)
      refine a_iload_n C dX12_then_27 (i := 2) rfl rfl ?_
      refine ite_k h (fun c1 h => ?_) (fun c1 h => ?_)
      ·
        refine a_tableIn C dX12_then_28 (by omega) (by omega) (by rw [c1]; rfl) (tgt := 56) rfl ?_
        refine a_aload_n C dX12_then_56 (i := 0) rfl rfl ?_
        refine a_get C fl_RX12_110 (i := 236) kd_236 (hid 236 (by decide)) (v := .ref (ad 267)) rfl dX12_then_57 ?_
        refine a_bipush C dX12_then_60 (v := 22) rfl ?_
        refine p_ialdc C (i := 267) 22 (show rowOK 267 from ⟨kd_267, by decide⟩) hid (by decide) (by rw [al_267]; decide) dX12_then_62 ?_
        exact a_iret Rt dX12_then_63 rfl (ret_eq (h.trans (congrArg some hR.symm)))
      ·
        refine ite_k h (fun c2 h => ?_) (fun c2 h => ?_)
        ·
          refine a_tableIn C dX12_then_28 (by omega) (by omega) (by rw [c2]; rfl) (tgt := 64) rfl ?_
          refine a_aload_n C dX12_then_64 (i := 0) rfl rfl ?_
          refine a_iconst C dX12_then_65 (v := 0) rfl ?_
          refine p_callVi C (As := [.int 0]) (i := 236) kd_236 (hid 236 (by decide)) ⟨_, _, rfl⟩ (by decide) h (fun _ _ e => Z_X12_thingsSo hid e) mi_X12_thingsSo ml_RX12_350 rfl rfl (Nat.le_of_ble_eq_true rfl) (Nat.le_of_ble_eq_true rfl) (Nat.le_of_ble_eq_true rfl) dX12_then_66 (fun r10 σ9 h => ?_)
          refine p_callSi C (As := [.int r10]) h (fun _ _ e => Z_X12_bits hid e) ms_X12_bits ml_RX12_353 rfl rfl (Nat.le_of_ble_eq_true rfl) (Nat.le_of_ble_eq_true rfl) (Nat.le_of_ble_eq_true rfl) dX12_then_69 (fun r12 σ11 h => ?_)
          exact a_iret Rt dX12_then_72 rfl (ret_eq (h.trans (congrArg some hR.symm)))
        ·
          refine ite_k h (fun c3 h => ?_) (fun c3 h => ?_)
          ·
            refine a_tableIn C dX12_then_28 (by omega) (by omega) (by rw [c3]; rfl) (tgt := 73) rfl ?_
            refine a_aload_n C dX12_then_73 (i := 0) rfl rfl ?_
            refine a_get C fl_RX12_110 (i := 236) kd_236 (hid 236 (by decide)) (v := .ref (ad 267)) rfl dX12_then_74 ?_
            refine a_bipush C dX12_then_77 (v := 23) rfl ?_
            refine p_ialdc C (i := 267) 23 (show rowOK 267 from ⟨kd_267, by decide⟩) hid (by decide) (by rw [al_267]; decide) dX12_then_79 ?_
            refine a_aload_n C dX12_then_80 (i := 0) rfl rfl ?_
            refine a_get C fl_RX12_107 (i := 236) kd_236 (hid 236 (by decide)) (v := .ref (ad 266)) rfl dX12_then_81 ?_
            refine a_bipush C dX12_then_84 (v := 23) rfl ?_
            refine p_ialdc C (i := 266) 23 (show rowOK 266 from ⟨kd_266, by decide⟩) hid (by decide) (by rw [al_266]; decide) dX12_then_86 ?_
            refine a_isub C dX12_then_87 ?_
            exact a_iret Rt dX12_then_88 rfl (ret_eq (h.trans (congrArg some hR.symm)))
          ·
            refine a_tableOut C dX12_then_28 (by omega) (tgt := 89) rfl ?_
            refine a_aload_n C dX12_then_89 (i := 0) rfl rfl ?_
            refine a_get C fl_RX12_110 (i := 236) kd_236 (hid 236 (by decide)) (v := .ref (ad 267)) rfl dX12_then_90 ?_
            refine a_bipush C dX12_then_93 (v := 25) rfl ?_
            refine p_ialdc C (i := 267) 25 (show rowOK 267 from ⟨kd_267, by decide⟩) hid (by decide) (by rw [al_267]; decide) dX12_then_95 ?_
            refine a_aload_n C dX12_then_96 (i := 0) rfl rfl ?_
            refine a_get C fl_RX12_107 (i := 236) kd_236 (hid 236 (by decide)) (v := .ref (ad 266)) rfl dX12_then_97 ?_
            refine a_bipush C dX12_then_100 (v := 25) rfl ?_
            refine p_ialdc C (i := 266) 25 (show rowOK 266 from ⟨kd_266, by decide⟩) hid (by decide) (by rw [al_266]; decide) dX12_then_102 ?_
            refine a_isub C dX12_then_103 ?_
            exact a_iret Rt dX12_then_104 rfl (ret_eq (h.trans (congrArg some hR.symm)))
    ·
      refine a_iconst C dX12_then_16 (v := (-1)) rfl ?_
      exact a_iret Rt dX12_then_17 rfl (ret_eq (h.trans (congrArg some hR.symm)))
set_option maxHeartbeats 4000000 in
set_option maxRecDepth 100000 in
theorem Z_X12_year {l : Launch} {D : va_G} {ids : List Nat} {ad : Nat → Nat} {ca : Nat → ClassId} {σ : HS} {x1 : Int32} {x2 : Int32} {r0 : Int32} {s0 : HS} (hid : ∀ i, i < 277 → i ∈ ids) (h : f_X12_year x1 x2 σ = some (r0, s0)) : Ki l D ids ad ca yX12_year cX12_year 5 .int 6 144 [.ref (ad 236), .int x1, .int x2] σ (fun r σ1 => r = r0 ∧ σ1 = s0) := by
  obtain ⟨R, hR⟩ : ∃ R, (r0, s0) = R := ⟨_, rfl⟩
  replace h := h.trans (congrArg some hR)
  refine Ki.of (by decide) (Nat.le_of_ble_eq_true rfl) 2 (fun Γ C Rt => ?_)
  show AW ids ad ca Γ 0 [some (.ref (ad 236)), some (.int x1), some (.int x2), none, none] [] σ
  unfold f_X12_year at h
  have j70 : ∀ (k24 : Int32 → Int32 → Int32 → Int32 → HS → Option (Int32 × HS)) (hk24 : ∀ (y1 : Int32) (y2 : Int32) (y3 : Int32) (y4 : Int32) (σ : HS), k24 y1 y2 y3 y4 σ = some R → AW ids ad ca Γ 24 [some (.ref (ad 236)), some (.int y1), some (.int y2), some (.int y3), some (.int y4)] [] σ) (y1 : Int32) (y2 : Int32) (y3 : Int32) (y4 : Int32) (σ : HS), f_X12_year_70 k24 y1 y2 y3 y4 σ = some R → AW ids ad ca Γ 70 [some (.ref (ad 236)), some (.int y1), some (.int y2), some (.int y3), some (.int y4)] [] σ := by
    intro k24 hk24 y1 y2 y3 y4 σ h
    unfold f_X12_year_70 at h
    refine p_iinc C (y := (y4 + 1)) (fun z1 => [some (.ref (ad 236)), some (.int y1), some (.int y2), some (.int y3), some (.int z1)]) dX12_year_70 rfl rfl (by decide) rfl (fun _ => rfl) h (fun z1 h => ?_)
    refine a_goto C dX12_year_73 (tgt := 24) rfl ?_
    exact hk24 _ _ _ _ _ h
  have j24 : ∀ (n : Nat) (y1 : Int32) (y2 : Int32) (y3 : Int32) (y4 : Int32) (σ : HS), f_X12_year_24 n y1 y2 y3 y4 σ = some R → AW ids ad ca Γ 24 [some (.ref (ad 236)), some (.int y1), some (.int y2), some (.int y3), some (.int y4)] [] σ := by
    intro n
    induction n with
    | zero => intro y1 y2 y3 y4 σ h; exact nn h
    | succ n ih =>
      intro y1 y2 y3 y4 σ h
      have h : b_X12_year_24 (f_X12_year_24 n) y1 y2 y3 y4 σ = some R := h
      unfold b_X12_year_24 at h
      refine a_iload C dX12_year_24 rfl ?_
      refine a_iload_n C dX12_year_26 (i := 2) rfl rfl ?_
      refine p_ic_ge C (X := y4.toInt) (Y := y2.toInt) rfl rfl dX12_year_27 (tgt := 76) rfl h (fun h => ?_) (fun h => ?_)
      ·
        refine a_iload_n C dX12_year_76 (i := 3) rfl rfl ?_
        exact a_iret Rt dX12_year_77 rfl (ret_eq (h.trans (congrArg some hR.symm)))
      ·
        refine a_aload_n C dX12_year_30 (i := 0) rfl rfl ?_
        refine p_callVv C (As := []) (i := 236) kd_236 (hid 236 (by decide)) ⟨_, _, rfl⟩ (by decide) h (fun _ e => Z_X12_copies hid e) mi_X12_copies ml_RX12_311 rfl rfl (Nat.le_of_ble_eq_true rfl) (Nat.le_of_ble_eq_true rfl) (Nat.le_of_ble_eq_true rfl) dX12_year_31 (fun σ1 h => ?_)
        refine a_aload_n C dX12_year_34 (i := 0) rfl rfl ?_
        refine a_dup C dX12_year_35 rfl ?_
        refine a_get C fl_RX12_305 (i := 236) kd_236 (hid 236 (by decide)) (v := .int (σ1.1 236 49)) rfl dX12_year_36 ?_
        refine a_iload C dX12_year_39 rfl ?_
        refine a_iadd C dX12_year_41 ?_
        refine p_put C fp_RX12_305 (i := 236) kd_236 (hid 236 (by decide)) rfl rfl dX12_year_42 h (fun σ3 h => ?_)
        refine a_aload_n C dX12_year_45 (i := 0) rfl rfl ?_
        refine a_iload_n C dX12_year_46 (i := 1) rfl rfl ?_
        refine p_callVv C (As := [.int y1]) (i := 236) kd_236 (hid 236 (by decide)) ⟨_, _, rfl⟩ (by decide) h (fun _ e => Z_X12_goes hid e) mi_X12_goes ml_RX12_405 rfl rfl (Nat.le_of_ble_eq_true rfl) (Nat.le_of_ble_eq_true rfl) (Nat.le_of_ble_eq_true rfl) dX12_year_47 (fun σ4 h => ?_)
        refine a_aload_n C dX12_year_50 (i := 0) rfl rfl ?_
        refine a_get C fl_RX12_110 (i := 236) kd_236 (hid 236 (by decide)) (v := .ref (ad 267)) rfl dX12_year_51 ?_
        refine a_bipush C dX12_year_54 (v := 23) rfl ?_
        refine p_ialdc C (i := 267) 23 (show rowOK 267 from ⟨kd_267, by decide⟩) hid (by decide) (by rw [al_267]; decide) dX12_year_56 ?_
        refine a_aload_n C dX12_year_57 (i := 0) rfl rfl ?_
        refine a_get C fl_RX12_107 (i := 236) kd_236 (hid 236 (by decide)) (v := .ref (ad 266)) rfl dX12_year_58 ?_
        refine a_bipush C dX12_year_61 (v := 23) rfl ?_
        refine p_ialdc C (i := 266) 23 (show rowOK 266 from ⟨kd_266, by decide⟩) hid (by decide) (by rw [al_266]; decide) dX12_year_63 ?_
        refine p_ic_ne C (X := (σ4.1 267 23).toInt) (Y := (σ4.1 266 23).toInt) rfl rfl dX12_year_64 (tgt := 70) rfl h (fun h => ?_) (fun h => ?_)
        ·
          exact j70 (f_X12_year_24 n) (fun y1 y2 y3 y4 σ h => ih y1 y2 y3 y4 σ h) _ _ _ _ _ h
        ·
          refine p_iinc C (y := (y3 + 1)) (fun z6 => [some (.ref (ad 236)), some (.int y1), some (.int y2), some (.int z6), some (.int y4)]) dX12_year_67 rfl rfl (by decide) rfl (fun _ => rfl) h (fun z6 h => ?_)
          exact j70 (f_X12_year_24 n) (fun y1 y2 y3 y4 σ h => ih y1 y2 y3 y4 σ h) _ _ _ _ _ h
  refine a_iload_n C dX12_year_0 (i := 1) rfl rfl ?_
  refine p_callSi C (As := [.int x1]) h (fun _ _ e => Z_X12_isLong hid e) ms_X12_isLong ml_RX12_402 rfl rfl (Nat.le_of_ble_eq_true rfl) (Nat.le_of_ble_eq_true rfl) (Nat.le_of_ble_eq_true rfl) dX12_year_1 (fun r2 σ1 h => ?_)
  refine p_if_eq C (X := r2.toInt) rfl dX12_year_4 (tgt := 17) rfl h (fun h => ?_) (fun h => ?_)
  ·
    refine a_iconst C dX12_year_17 (v := (-1)) rfl ?_
    exact a_iret Rt dX12_year_18 rfl (ret_eq (h.trans (congrArg some hR.symm)))
  ·
    refine a_iload_n C dX12_year_7 (i := 2) rfl rfl ?_
    refine a_iconst C dX12_year_8 (v := 1) rfl ?_
    refine a_bipush C dX12_year_9 (v := 20) rfl ?_
    refine p_callSi C (As := [.int x2, .int 1, .int 20]) h (fun _ _ e => Z_X12_in hid e) ms_X12_in ml_RX12_301 rfl rfl (Nat.le_of_ble_eq_true rfl) (Nat.le_of_ble_eq_true rfl) (Nat.le_of_ble_eq_true rfl) dX12_year_11 (fun r4 σ3 h => ?_)
    refine p_if_ne C (X := r4.toInt) rfl dX12_year_14 (tgt := 19) rfl h (fun h => ?_) (fun h => ?_)
    ·
      refine a_iconst C dX12_year_19 (v := 0) rfl ?_
      refine a_istore_n C dX12_year_20 (i := 3) rfl (by decide) rfl (vs1 := [some (.ref (ad 236)), some (.int x1), some (.int x2), some (.int 0), none]) rfl ?_
      refine a_iconst C dX12_year_21 (v := 0) rfl ?_
      refine a_istore C dX12_year_22 (by decide) rfl (vs1 := [some (.ref (ad 236)), some (.int x1), some (.int x2), some (.int 0), some (.int 0)]) rfl ?_
      exact j24 _ _ _ _ _ _ h
    ·
      refine a_iconst C dX12_year_17 (v := (-1)) rfl ?_
      exact a_iret Rt dX12_year_18 rfl (ret_eq (h.trans (congrArg some hR.symm)))
set_option maxHeartbeats 4000000 in
set_option maxRecDepth 100000 in
theorem Z_X12_tell {l : Launch} {D : va_G} {ids : List Nat} {ad : Nat → Nat} {ca : Nat → ClassId} {σ : HS} {x1 : Int32} {x2 : Int32} {r0 : Int32} {s0 : HS} (hid : ∀ i, i < 277 → i ∈ ids) (h : f_X12_tell x1 x2 σ = some (r0, s0)) : Ki l D ids ad ca yX12_tell cX12_tell 3 .int 1 22 [.ref (ad 236), .int x1, .int x2] σ (fun r σ1 => r = r0 ∧ σ1 = s0) := by
  obtain ⟨R, hR⟩ : ∃ R, (r0, s0) = R := ⟨_, rfl⟩
  replace h := h.trans (congrArg some hR)
  refine Ki.of (by decide) (Nat.le_of_ble_eq_true rfl) 0 (fun Γ C Rt => ?_)
  show AW ids ad ca Γ 0 [some (.ref (ad 236)), some (.int x1), some (.int x2)] [] σ
  unfold f_X12_tell at h
  refine a_aload_n C dX12_tell_0 (i := 0) rfl rfl ?_
  refine a_get C fl_RX12_242 (i := 236) kd_236 (hid 236 (by decide)) (v := .int (σ.1 236 60)) rfl dX12_tell_1 ?_
  refine a_bipush C dX12_tell_4 (v := 20) rfl ?_
  refine p_ic_eq C (X := (σ.1 236 60).toInt) (Y := 20) rfl (by decide) dX12_tell_6 (tgt := 19) rfl h (fun h => ?_) (fun h => ?_)
  ·
    refine a_iconst C dX12_tell_19 (v := (-1)) rfl ?_
    exact a_iret Rt dX12_tell_20 rfl (ret_eq (h.trans (congrArg some hR.symm)))
  ·
    refine a_iload_n C dX12_tell_9 (i := 1) rfl rfl ?_
    refine a_iconst C dX12_tell_10 (v := 0) rfl ?_
    refine a_bipush C dX12_tell_11 (v := 40) rfl ?_
    refine p_callSi C (As := [.int x1, .int 0, .int 40]) h (fun _ _ e => Z_X12_in hid e) ms_X12_in ml_RX12_301 rfl rfl (Nat.le_of_ble_eq_true rfl) (Nat.le_of_ble_eq_true rfl) (Nat.le_of_ble_eq_true rfl) dX12_tell_13 (fun r2 σ1 h => ?_)
    refine p_if_ne C (X := r2.toInt) rfl dX12_tell_16 (tgt := 21) rfl h (fun h => ?_) (fun h => ?_)
    ·
      refine a_aload_n C dX12_tell_21 (i := 0) rfl rfl ?_
      refine a_get C fl_RX12_125 (i := 236) kd_236 (hid 236 (by decide)) (v := .ref (ad 272)) rfl dX12_tell_22 ?_
      refine a_aload_n C dX12_tell_25 (i := 0) rfl rfl ?_
      refine a_get C fl_RX12_242 (i := 236) kd_236 (hid 236 (by decide)) (v := .int (σ1.1 236 60)) rfl dX12_tell_26 ?_
      refine a_iload_n C dX12_tell_29 (i := 1) rfl rfl ?_
      refine p_iast C (i := 272) (show rowOK 272 from ⟨kd_272, by decide⟩) hid (by rw [al_272]; rfl) dX12_tell_30 h (fun σ3 h => ?_)
      refine a_aload_n C dX12_tell_31 (i := 0) rfl rfl ?_
      refine a_get C fl_RX12_128 (i := 236) kd_236 (hid 236 (by decide)) (v := .ref (ad 273)) rfl dX12_tell_32 ?_
      refine a_aload_n C dX12_tell_35 (i := 0) rfl rfl ?_
      refine a_get C fl_RX12_242 (i := 236) kd_236 (hid 236 (by decide)) (v := .int (σ3.1 236 60)) rfl dX12_tell_36 ?_
      refine a_iload_n C dX12_tell_39 (i := 2) rfl rfl ?_
      refine ite_n h (fun hz4 h => ?_)
      refine p_zast C (i := 273) kd_273 (hid 273 (by decide)) (by rw [al_273]; rfl) hz4 dX12_tell_40 h (fun σ5 h => ?_)
      refine a_aload_n C dX12_tell_41 (i := 0) rfl rfl ?_
      refine a_dup C dX12_tell_42 rfl ?_
      refine a_get C fl_RX12_242 (i := 236) kd_236 (hid 236 (by decide)) (v := .int (σ5.1 236 60)) rfl dX12_tell_43 ?_
      refine a_iconst C dX12_tell_46 (v := 1) rfl ?_
      refine a_iadd C dX12_tell_47 ?_
      refine p_put C fp_RX12_242 (i := 236) kd_236 (hid 236 (by decide)) rfl rfl dX12_tell_48 h (fun σ6 h => ?_)
      refine a_aload_n C dX12_tell_51 (i := 0) rfl rfl ?_
      refine a_get C fl_RX12_242 (i := 236) kd_236 (hid 236 (by decide)) (v := .int (σ6.1 236 60)) rfl dX12_tell_52 ?_
      refine a_iconst C dX12_tell_55 (v := 1) rfl ?_
      refine a_isub C dX12_tell_56 ?_
      exact a_iret Rt dX12_tell_57 rfl (ret_eq (h.trans (congrArg some hR.symm)))
    ·
      refine a_iconst C dX12_tell_19 (v := (-1)) rfl ?_
      exact a_iret Rt dX12_tell_20 rfl (ret_eq (h.trans (congrArg some hR.symm)))
set_option maxHeartbeats 4000000 in
set_option maxRecDepth 100000 in
theorem Z_X12_forget {l : Launch} {D : va_G} {ids : List Nat} {ad : Nat → Nat} {ca : Nat → ClassId} {σ : HS} {r0 : Int32} {s0 : HS} (hid : ∀ i, i < 277 → i ∈ ids) (h : f_X12_forget σ = some (r0, s0)) : Ki l D ids ad ca yX12_forget cX12_forget 2 .int 0 0 [.ref (ad 236)] σ (fun r σ1 => r = r0 ∧ σ1 = s0) := by
  obtain ⟨R, hR⟩ : ∃ R, (r0, s0) = R := ⟨_, rfl⟩
  replace h := h.trans (congrArg some hR)
  refine Ki.of (by decide) (Nat.le_of_ble_eq_true rfl) 1 (fun Γ C Rt => ?_)
  show AW ids ad ca Γ 0 [some (.ref (ad 236)), none] [] σ
  unfold f_X12_forget at h
  refine a_aload_n C dX12_forget_0 (i := 0) rfl rfl ?_
  refine a_get C fl_RX12_242 (i := 236) kd_236 (hid 236 (by decide)) (v := .int (σ.1 236 60)) rfl dX12_forget_1 ?_
  refine p_istore_n C (fun z1 => [some (.ref (ad 236)), some (.int z1)]) dX12_forget_4 (i := 1) rfl (by decide) rfl (fun _ => rfl) h (fun z1 h => ?_)
  refine a_aload_n C dX12_forget_5 (i := 0) rfl rfl ?_
  refine a_iconst C dX12_forget_6 (v := 0) rfl ?_
  refine p_put C fp_RX12_242 (i := 236) kd_236 (hid 236 (by decide)) rfl rfl dX12_forget_7 h (fun σ2 h => ?_)
  refine a_iload_n C dX12_forget_10 (i := 1) rfl rfl ?_
  exact a_iret Rt dX12_forget_11 rfl (ret_eq (h.trans (congrArg some hR.symm)))
set_option maxHeartbeats 4000000 in
set_option maxRecDepth 100000 in
theorem Z_X12_glitterBits {l : Launch} {D : va_G} {ids : List Nat} {ad : Nat → Nat} {ca : Nat → ClassId} {σ : HS} {x1 : Int32} {r0 : Int32} {s0 : HS} (hid : ∀ i, i < 277 → i ∈ ids) (h : f_X12_glitterBits x1 σ = some (r0, s0)) : Ki l D ids ad ca yX12_glitterBits cX12_glitterBits 5 .int 5 122 [.ref (ad 236), .int x1] σ (fun r σ1 => r = r0 ∧ σ1 = s0) := by
  obtain ⟨R, hR⟩ : ∃ R, (r0, s0) = R := ⟨_, rfl⟩
  replace h := h.trans (congrArg some hR)
  refine Ki.of (by decide) (Nat.le_of_ble_eq_true rfl) 3 (fun Γ C Rt => ?_)
  show AW ids ad ca Γ 0 [some (.ref (ad 236)), some (.int x1), none, none, none] [] σ
  unfold f_X12_glitterBits at h
  have j94 : ∀ (k40 : Int32 → Int32 → Int32 → HS → Option (Int32 × HS)) (hk40 : ∀ (y1 : Int32) (y2 : Int32) (y3 : Int32) (σ : HS), k40 y1 y2 y3 σ = some R → AW ids ad ca Γ 40 [some (.ref (ad 236)), some (.int y1), some (.int y2), some (.int y3), none] [] σ) (k48 : Int32 → Int32 → Int32 → Int32 → HS → Option (Int32 × HS)) (hk48 : ∀ (y1 : Int32) (y2 : Int32) (y3 : Int32) (y4 : Int32) (σ : HS), k48 y1 y2 y3 y4 σ = some R → AW ids ad ca Γ 48 [some (.ref (ad 236)), some (.int y1), some (.int y2), some (.int y3), some (.int y4)] [] σ) (y1 : Int32) (y2 : Int32) (y3 : Int32) (y4 : Int32) (σ : HS), f_X12_glitterBits_94 k40 k48 y1 y2 y3 y4 σ = some R → AW ids ad ca Γ 94 [some (.ref (ad 236)), some (.int y1), some (.int y2), some (.int y3), some (.int y4)] [] σ := by
    intro k40 hk40 k48 hk48 y1 y2 y3 y4 σ h
    unfold f_X12_glitterBits_94 at h
    refine p_iinc C (y := (y4 + 1)) (fun z1 => [some (.ref (ad 236)), some (.int y1), some (.int y2), some (.int y3), some (.int z1)]) dX12_glitterBits_94 rfl rfl (by decide) rfl (fun _ => rfl) h (fun z1 h => ?_)
    refine a_goto C dX12_glitterBits_97 (tgt := 48) rfl ?_
    exact hk48 _ _ _ _ _ h
  have j76 : ∀ (k40 : Int32 → Int32 → Int32 → HS → Option (Int32 × HS)) (hk40 : ∀ (y1 : Int32) (y2 : Int32) (y3 : Int32) (σ : HS), k40 y1 y2 y3 σ = some R → AW ids ad ca Γ 40 [some (.ref (ad 236)), some (.int y1), some (.int y2), some (.int y3), none] [] σ) (k48 : Int32 → Int32 → Int32 → Int32 → HS → Option (Int32 × HS)) (hk48 : ∀ (y1 : Int32) (y2 : Int32) (y3 : Int32) (y4 : Int32) (σ : HS), k48 y1 y2 y3 y4 σ = some R → AW ids ad ca Γ 48 [some (.ref (ad 236)), some (.int y1), some (.int y2), some (.int y3), some (.int y4)] [] σ) (y1 : Int32) (y2 : Int32) (y3 : Int32) (y4 : Int32) (v0 : Int32) (σ : HS), f_X12_glitterBits_76 k40 k48 y1 y2 y3 y4 v0 σ = some R → AW ids ad ca Γ 76 [some (.ref (ad 236)), some (.int y1), some (.int y2), some (.int y3), some (.int y4)] [.int v0] σ := by
    intro k40 hk40 k48 hk48 y1 y2 y3 y4 v0 σ h
    unfold f_X12_glitterBits_76 at h
    refine a_aload_n C dX12_glitterBits_76 (i := 0) rfl rfl ?_
    refine a_get C fl_RX12_128 (i := 236) kd_236 (hid 236 (by decide)) (v := .ref (ad 273)) rfl dX12_glitterBits_77 ?_
    refine a_iload_n C dX12_glitterBits_80 (i := 3) rfl rfl ?_
    refine p_zald C (i := 273) kd_273 (hid 273 (by decide)) (by rw [al_273]; rfl) dX12_glitterBits_81 h (fun h => ?_)
    refine p_ic_eq C (X := v0.toInt) (Y := (σ.1 273 y3.toInt.toNat).toInt) rfl rfl dX12_glitterBits_82 (tgt := 94) rfl h (fun h => ?_) (fun h => ?_)
    ·
      exact j94 k40 hk40 k48 hk48 _ _ _ _ _ h
    ·
      refine a_iload_n C dX12_glitterBits_85 (i := 2) rfl rfl ?_
      refine a_iconst C dX12_glitterBits_86 (v := 1) rfl ?_
      refine a_iload C dX12_glitterBits_87 rfl ?_
      refine a_ishl C dX12_glitterBits_89 ?_
      refine a_iconst C dX12_glitterBits_90 (v := (-1)) rfl ?_
      refine a_ixor C dX12_glitterBits_91 ?_
      refine a_iand C dX12_glitterBits_92 ?_
      refine p_istore_n C (fun z1 => [some (.ref (ad 236)), some (.int y1), some (.int z1), some (.int y3), some (.int y4)]) dX12_glitterBits_93 (i := 2) rfl (by decide) rfl (fun _ => rfl) h (fun z1 h => ?_)
      exact j94 k40 hk40 k48 hk48 _ _ _ _ _ h
  have j48 : ∀ (k40 : Int32 → Int32 → Int32 → HS → Option (Int32 × HS)) (hk40 : ∀ (y1 : Int32) (y2 : Int32) (y3 : Int32) (σ : HS), k40 y1 y2 y3 σ = some R → AW ids ad ca Γ 40 [some (.ref (ad 236)), some (.int y1), some (.int y2), some (.int y3), none] [] σ) (n : Nat) (y1 : Int32) (y2 : Int32) (y3 : Int32) (y4 : Int32) (σ : HS), f_X12_glitterBits_48 k40 n y1 y2 y3 y4 σ = some R → AW ids ad ca Γ 48 [some (.ref (ad 236)), some (.int y1), some (.int y2), some (.int y3), some (.int y4)] [] σ := by
    intro k40 hk40 n
    induction n with
    | zero => intro y1 y2 y3 y4 σ h; exact nn h
    | succ n ih =>
      intro y1 y2 y3 y4 σ h
      have h : b_X12_glitterBits_48 k40 (f_X12_glitterBits_48 k40 n) y1 y2 y3 y4 σ = some R := h
      unfold b_X12_glitterBits_48 at h
      refine a_iload C dX12_glitterBits_48 rfl ?_
      refine a_bipush C dX12_glitterBits_50 (v := 7) rfl ?_
      refine p_ic_ge C (X := y4.toInt) (Y := 7) rfl (by decide) dX12_glitterBits_52 (tgt := 100) rfl h (fun h => ?_) (fun h => ?_)
      ·
        refine p_iinc C (y := (y3 + 1)) (fun z1 => [some (.ref (ad 236)), some (.int y1), some (.int y2), some (.int z1), some (.int y4)]) dX12_glitterBits_100 rfl rfl (by decide) rfl (fun _ => rfl) h (fun z1 h => ?_)
        refine a_goto C dX12_glitterBits_103 (tgt := 40) rfl ?_
        refine AW.sub (vs' := [some (.ref (ad 236)), some (.int y1), some (.int y2), some (.int z1), none]) (lsub_of (by simp [lsubB])) ?_
        exact hk40 _ _ _ _ h
      ·
        refine a_aload_n C dX12_glitterBits_55 (i := 0) rfl rfl ?_
        refine a_get C fl_RX12_131 (i := 236) kd_236 (hid 236 (by decide)) (v := .ref (ad 274)) rfl dX12_glitterBits_56 ?_
        refine a_aload_n C dX12_glitterBits_59 (i := 0) rfl rfl ?_
        refine a_get C fl_RX12_125 (i := 236) kd_236 (hid 236 (by decide)) (v := .ref (ad 272)) rfl dX12_glitterBits_60 ?_
        refine a_iload_n C dX12_glitterBits_63 (i := 3) rfl rfl ?_
        refine p_iald C (i := 272) (show rowOK 272 from ⟨kd_272, by decide⟩) hid (by rw [al_272]; rfl) dX12_glitterBits_64 h (fun h => ?_)
        refine p_iald C (i := 274) (show rowOK 274 from ⟨kd_274, by decide⟩) hid (by rw [al_274]; rfl) dX12_glitterBits_65 h (fun h => ?_)
        refine a_iload C dX12_glitterBits_66 rfl ?_
        refine p_ic_ne C (X := (σ.1 274 (σ.1 272 y3.toInt.toNat).toInt.toNat).toInt) (Y := y4.toInt) rfl rfl dX12_glitterBits_68 (tgt := 75) rfl h (fun h => ?_) (fun h => ?_)
        ·
          refine a_iconst C dX12_glitterBits_75 (v := 0) rfl ?_
          exact j76 k40 hk40 (f_X12_glitterBits_48 k40 n) (fun y1 y2 y3 y4 σ h => ih y1 y2 y3 y4 σ h) _ _ _ _ _ _ h
        ·
          refine a_iconst C dX12_glitterBits_71 (v := 1) rfl ?_
          refine a_goto C dX12_glitterBits_72 (tgt := 76) rfl ?_
          exact j76 k40 hk40 (f_X12_glitterBits_48 k40 n) (fun y1 y2 y3 y4 σ h => ih y1 y2 y3 y4 σ h) _ _ _ _ _ _ h
  have j40 : ∀ (n : Nat) (y1 : Int32) (y2 : Int32) (y3 : Int32) (σ : HS), f_X12_glitterBits_40 n y1 y2 y3 σ = some R → AW ids ad ca Γ 40 [some (.ref (ad 236)), some (.int y1), some (.int y2), some (.int y3), none] [] σ := by
    intro n
    induction n with
    | zero => intro y1 y2 y3 σ h; exact nn h
    | succ n ih =>
      intro y1 y2 y3 σ h
      have h : b_X12_glitterBits_40 (f_X12_glitterBits_40 n) y1 y2 y3 σ = some R := h
      unfold b_X12_glitterBits_40 at h
      refine a_iload_n C dX12_glitterBits_40 (i := 3) rfl rfl ?_
      refine a_iload_n C dX12_glitterBits_41 (i := 1) rfl rfl ?_
      refine p_ic_ge C (X := y3.toInt) (Y := y1.toInt) rfl rfl dX12_glitterBits_42 (tgt := 106) rfl h (fun h => ?_) (fun h => ?_)
      ·
        refine a_iload_n C dX12_glitterBits_106 (i := 2) rfl rfl ?_
        exact a_iret Rt dX12_glitterBits_107 rfl (ret_eq (h.trans (congrArg some hR.symm)))
      ·
        refine a_iconst C dX12_glitterBits_45 (v := 0) rfl ?_
        refine a_istore C dX12_glitterBits_46 (by decide) rfl (vs1 := [some (.ref (ad 236)), some (.int y1), some (.int y2), some (.int y3), some (.int 0)]) rfl ?_
        exact j48 (f_X12_glitterBits_40 n) (fun y1 y2 y3 σ h => ih y1 y2 y3 σ h) _ _ _ _ _ _ h
  have j12 : ∀ (n : Nat) (y1 : Int32) (y2 : Int32) (y3 : Int32) (σ : HS), f_X12_glitterBits_12 n y1 y2 y3 σ = some R → AW ids ad ca Γ 12 [some (.ref (ad 236)), some (.int y1), some (.int y2), some (.int y3), none] [] σ := by
    intro n
    induction n with
    | zero => intro y1 y2 y3 σ h; exact nn h
    | succ n ih =>
      intro y1 y2 y3 σ h
      have h : b_X12_glitterBits_12 (f_X12_glitterBits_12 n) y1 y2 y3 σ = some R := h
      unfold b_X12_glitterBits_12 at h
      refine a_iload_n C dX12_glitterBits_12 (i := 3) rfl rfl ?_
      refine a_bipush C dX12_glitterBits_13 (v := 40) rfl ?_
      refine p_ic_gt C (X := y3.toInt) (Y := 40) rfl (by decide) dX12_glitterBits_15 (tgt := 38) rfl h (fun h => ?_) (fun h => ?_)
      ·
        refine a_iconst C dX12_glitterBits_38 (v := 0) rfl ?_
        refine a_istore_n C dX12_glitterBits_39 (i := 3) rfl (by decide) rfl (vs1 := [some (.ref (ad 236)), some (.int y1), some (.int y2), some (.int 0), none]) rfl ?_
        exact j40 _ _ _ _ _ h
      ·
        refine a_aload_n C dX12_glitterBits_18 (i := 0) rfl rfl ?_
        refine p_callVv C (As := []) (i := 236) kd_236 (hid 236 (by decide)) ⟨_, _, rfl⟩ (by decide) h (fun _ e => Z_X12_beatGoes hid e) mi_X12_beatGoes ml_RX12_387 rfl rfl (Nat.le_of_ble_eq_true rfl) (Nat.le_of_ble_eq_true rfl) (Nat.le_of_ble_eq_true rfl) dX12_glitterBits_19 (fun σ1 h => ?_)
        refine a_aload_n C dX12_glitterBits_22 (i := 0) rfl rfl ?_
        refine a_get C fl_RX12_131 (i := 236) kd_236 (hid 236 (by decide)) (v := .ref (ad 274)) rfl dX12_glitterBits_23 ?_
        refine a_iload_n C dX12_glitterBits_26 (i := 3) rfl rfl ?_
        refine a_aload_n C dX12_glitterBits_27 (i := 0) rfl rfl ?_
        refine a_get C fl_RX12_341 (i := 236) kd_236 (hid 236 (by decide)) (v := .int (σ1.1 236 51)) rfl dX12_glitterBits_28 ?_
        refine p_iast C (i := 274) (show rowOK 274 from ⟨kd_274, by decide⟩) hid (by rw [al_274]; rfl) dX12_glitterBits_31 h (fun σ3 h => ?_)
        refine p_iinc C (y := (y3 + 1)) (fun z4 => [some (.ref (ad 236)), some (.int y1), some (.int y2), some (.int z4), none]) dX12_glitterBits_32 rfl rfl (by decide) rfl (fun _ => rfl) h (fun z4 h => ?_)
        refine a_goto C dX12_glitterBits_35 (tgt := 12) rfl ?_
        exact ih _ _ _ _ h
  refine a_aload_n C dX12_glitterBits_0 (i := 0) rfl rfl ?_
  refine p_callVv C (As := []) (i := 236) kd_236 (hid 236 (by decide)) ⟨_, _, rfl⟩ (by decide) h (fun _ e => Z_X12_copiesStill hid e) mi_X12_copiesStill ml_RX12_429 rfl rfl (Nat.le_of_ble_eq_true rfl) (Nat.le_of_ble_eq_true rfl) (Nat.le_of_ble_eq_true rfl) dX12_glitterBits_1 (fun σ1 h => ?_)
  refine a_aload_n C dX12_glitterBits_4 (i := 0) rfl rfl ?_
  refine a_iconst C dX12_glitterBits_5 (v := 0) rfl ?_
  refine p_callVi C (As := [.int 0]) (i := 236) kd_236 (hid 236 (by decide)) ⟨_, _, rfl⟩ (by decide) h (fun _ _ e => Z_X12_thingsSo hid e) mi_X12_thingsSo ml_RX12_350 rfl rfl (Nat.le_of_ble_eq_true rfl) (Nat.le_of_ble_eq_true rfl) (Nat.le_of_ble_eq_true rfl) dX12_glitterBits_6 (fun r4 σ3 h => ?_)
  refine a_istore_n C dX12_glitterBits_9 (i := 2) rfl (by decide) rfl (vs1 := [some (.ref (ad 236)), some (.int x1), some (.int r4), none, none]) rfl ?_
  refine a_iconst C dX12_glitterBits_10 (v := 0) rfl ?_
  refine a_istore_n C dX12_glitterBits_11 (i := 3) rfl (by decide) rfl (vs1 := [some (.ref (ad 236)), some (.int x1), some (.int r4), some (.int 0), none]) rfl ?_
  exact j12 _ _ _ _ _ h
set_option maxHeartbeats 4000000 in
set_option maxRecDepth 100000 in
theorem Z_X12_glitters {l : Launch} {D : va_G} {ids : List Nat} {ad : Nat → Nat} {ca : Nat → ClassId} {σ : HS} {x1 : Int32} {x2 : Int32} {r0 : Int32} {s0 : HS} (hid : ∀ i, i < 277 → i ∈ ids) (h : f_X12_glitters x1 x2 σ = some (r0, s0)) : Ki l D ids ad ca yX12_glitters cX12_glitters 4 .int 6 146 [.ref (ad 236), .int x1, .int x2] σ (fun r σ1 => r = r0 ∧ σ1 = s0) := by
  obtain ⟨R, hR⟩ : ∃ R, (r0, s0) = R := ⟨_, rfl⟩
  replace h := h.trans (congrArg some hR)
  refine Ki.of (by decide) (Nat.le_of_ble_eq_true rfl) 1 (fun Γ C Rt => ?_)
  show AW ids ad ca Γ 0 [some (.ref (ad 236)), some (.int x1), some (.int x2), none] [] σ
  unfold f_X12_glitters at h
  refine a_iload_n C dX12_glitters_0 (i := 1) rfl rfl ?_
  refine a_iconst C dX12_glitters_1 (v := 0) rfl ?_
  refine a_aload_n C dX12_glitters_2 (i := 0) rfl rfl ?_
  refine a_get C fl_RX12_242 (i := 236) kd_236 (hid 236 (by decide)) (v := .int (σ.1 236 60)) rfl dX12_glitters_3 ?_
  refine p_callSi C (As := [.int x1, .int 0, .int (σ.1 236 60)]) h (fun _ _ e => Z_X12_in hid e) ms_X12_in ml_RX12_301 rfl rfl (Nat.le_of_ble_eq_true rfl) (Nat.le_of_ble_eq_true rfl) (Nat.le_of_ble_eq_true rfl) dX12_glitters_6 (fun r2 σ1 h => ?_)
  refine p_if_eq C (X := r2.toInt) rfl dX12_glitters_9 (tgt := 21) rfl h (fun h => ?_) (fun h => ?_)
  ·
    refine a_iconst C dX12_glitters_21 (v := (-1)) rfl ?_
    exact a_iret Rt dX12_glitters_22 rfl (ret_eq (h.trans (congrArg some hR.symm)))
  ·
    refine a_iload_n C dX12_glitters_12 (i := 2) rfl rfl ?_
    refine a_iconst C dX12_glitters_13 (v := 0) rfl ?_
    refine a_iconst C dX12_glitters_14 (v := 1) rfl ?_
    refine p_callSi C (As := [.int x2, .int 0, .int 1]) h (fun _ _ e => Z_X12_in hid e) ms_X12_in ml_RX12_301 rfl rfl (Nat.le_of_ble_eq_true rfl) (Nat.le_of_ble_eq_true rfl) (Nat.le_of_ble_eq_true rfl) dX12_glitters_15 (fun r4 σ3 h => ?_)
    refine p_if_ne C (X := r4.toInt) rfl dX12_glitters_18 (tgt := 23) rfl h (fun h => ?_) (fun h => ?_)
    ·
      refine a_aload_n C dX12_glitters_23 (i := 0) rfl rfl ?_
      refine a_iload_n C dX12_glitters_24 (i := 1) rfl rfl ?_
      refine p_callVi C (As := [.int x1]) (i := 236) kd_236 (hid 236 (by decide)) ⟨_, _, rfl⟩ (by decide) h (fun _ _ e => Z_X12_glitterBits hid e) mi_X12_glitterBits ml_RX12_458 rfl rfl (Nat.le_of_ble_eq_true rfl) (Nat.le_of_ble_eq_true rfl) (Nat.le_of_ble_eq_true rfl) dX12_glitters_25 (fun r6 σ5 h => ?_)
      refine a_istore_n C dX12_glitters_28 (i := 3) rfl (by decide) rfl (vs1 := [some (.ref (ad 236)), some (.int x1), some (.int x2), some (.int r6)]) rfl ?_
      refine a_iload_n C dX12_glitters_29 (i := 2) rfl rfl ?_
      refine p_if_ne C (X := x2.toInt) rfl dX12_glitters_30 (tgt := 40) rfl h (fun h => ?_) (fun h => ?_)
      ·
        refine a_iload_n C dX12_glitters_40 (i := 3) rfl rfl ?_
        exact a_iret Rt dX12_glitters_41 rfl (ret_eq (h.trans (congrArg some hR.symm)))
      ·
        refine a_iload_n C dX12_glitters_33 (i := 3) rfl rfl ?_
        refine p_callSi C (As := [.int r6]) h (fun _ _ e => Z_X12_bits hid e) ms_X12_bits ml_RX12_353 rfl rfl (Nat.le_of_ble_eq_true rfl) (Nat.le_of_ble_eq_true rfl) (Nat.le_of_ble_eq_true rfl) dX12_glitters_34 (fun r8 σ7 h => ?_)
        refine a_goto C dX12_glitters_37 (tgt := 41) rfl ?_
        exact a_iret Rt dX12_glitters_41 rfl (ret_eq (h.trans (congrArg some hR.symm)))
    ·
      refine a_iconst C dX12_glitters_21 (v := (-1)) rfl ?_
      exact a_iret Rt dX12_glitters_22 rfl (ret_eq (h.trans (congrArg some hR.symm)))
set_option maxHeartbeats 4000000 in
set_option maxRecDepth 100000 in
theorem Z_X12_watch {l : Launch} {D : va_G} {ids : List Nat} {ad : Nat → Nat} {ca : Nat → ClassId} {σ : HS} {x1 : Int32} {r0 : Int32} {s0 : HS} (hid : ∀ i, i < 277 → i ∈ ids) (h : f_X12_watch x1 σ = some (r0, s0)) : Ki l D ids ad ca yX12_watch cX12_watch 9 .int 6 146 [.ref (ad 236), .int x1] σ (fun r σ1 => r = r0 ∧ σ1 = s0) := by
  obtain ⟨R, hR⟩ : ∃ R, (r0, s0) = R := ⟨_, rfl⟩
  replace h := h.trans (congrArg some hR)
  refine Ki.of (by decide) (Nat.le_of_ble_eq_true rfl) 7 (fun Γ C Rt => ?_)
  show AW ids ad ca Γ 0 [some (.ref (ad 236)), some (.int x1), none, none, none, none, none, none, none] [] σ
  unfold f_X12_watch at h
  have j121 : ∀ (k35 : Int32 → Int32 → Int32 → Int32 → Int32 → HS → Option (Int32 × HS)) (hk35 : ∀ (y2 : Int32) (y3 : Int32) (y4 : Int32) (y5 : Int32) (y6 : Int32) (σ : HS), k35 y2 y3 y4 y5 y6 σ = some R → AW ids ad ca Γ 35 [some (.ref (ad 236)), none, some (.int y2), some (.int y3), some (.int y4), some (.int y5), some (.int y6), none, none] [] σ) (y2 : Int32) (y3 : Int32) (y4 : Int32) (y5 : Int32) (y6 : Int32) (σ : HS), f_X12_watch_121 k35 y2 y3 y4 y5 y6 σ = some R → AW ids ad ca Γ 121 [some (.ref (ad 236)), none, some (.int y2), some (.int y3), some (.int y4), some (.int y5), some (.int y6), none, none] [] σ := by
    intro k35 hk35 y2 y3 y4 y5 y6 σ h
    unfold f_X12_watch_121 at h
    refine p_iinc C (y := (y6 + 1)) (fun z1 => [some (.ref (ad 236)), none, some (.int y2), some (.int y3), some (.int y4), some (.int y5), some (.int z1), none, none]) dX12_watch_121 rfl rfl (by decide) rfl (fun _ => rfl) h (fun z1 h => ?_)
    refine a_goto C dX12_watch_124 (tgt := 35) rfl ?_
    exact hk35 _ _ _ _ _ _ h
  have j113 : ∀ (k35 : Int32 → Int32 → Int32 → Int32 → Int32 → HS → Option (Int32 × HS)) (hk35 : ∀ (y2 : Int32) (y3 : Int32) (y4 : Int32) (y5 : Int32) (y6 : Int32) (σ : HS), k35 y2 y3 y4 y5 y6 σ = some R → AW ids ad ca Γ 35 [some (.ref (ad 236)), none, some (.int y2), some (.int y3), some (.int y4), some (.int y5), some (.int y6), none, none] [] σ) (y2 : Int32) (y3 : Int32) (y6 : Int32) (y8 : Int32) (σ : HS), f_X12_watch_113 k35 y2 y3 y6 y8 σ = some R → AW ids ad ca Γ 113 [some (.ref (ad 236)), none, some (.int y2), some (.int y3), none, none, some (.int y6), none, some (.int y8)] [] σ := by
    intro k35 hk35 y2 y3 y6 y8 σ h
    unfold f_X12_watch_113 at h
    refine a_iload C dX12_watch_113 rfl ?_
    refine a_istore C dX12_watch_115 (by decide) rfl (vs1 := [some (.ref (ad 236)), none, some (.int y2), some (.int y3), some (.int y6), none, some (.int y6), none, some (.int y8)]) rfl ?_
    refine a_iload C dX12_watch_117 rfl ?_
    refine a_istore C dX12_watch_119 (by decide) rfl (vs1 := [some (.ref (ad 236)), none, some (.int y2), some (.int y3), some (.int y6), some (.int y8), some (.int y6), none, some (.int y8)]) rfl ?_
    refine AW.sub (vs' := [some (.ref (ad 236)), none, some (.int y2), some (.int y3), some (.int y6), some (.int y8), some (.int y6), none, none]) (lsub_of (by simp [lsubB])) ?_
    exact j121 k35 hk35 _ _ _ _ _ _ h
  have j96 : ∀ (k35 : Int32 → Int32 → Int32 → Int32 → Int32 → HS → Option (Int32 × HS)) (hk35 : ∀ (y2 : Int32) (y3 : Int32) (y4 : Int32) (y5 : Int32) (y6 : Int32) (σ : HS), k35 y2 y3 y4 y5 y6 σ = some R → AW ids ad ca Γ 35 [some (.ref (ad 236)), none, some (.int y2), some (.int y3), some (.int y4), some (.int y5), some (.int y6), none, none] [] σ) (y2 : Int32) (y3 : Int32) (y4 : Int32) (y5 : Int32) (y6 : Int32) (v0 : Int32) (σ : HS), f_X12_watch_96 k35 y2 y3 y4 y5 y6 v0 σ = some R → AW ids ad ca Γ 96 [some (.ref (ad 236)), none, some (.int y2), some (.int y3), some (.int y4), some (.int y5), some (.int y6), none, none] [.int v0] σ := by
    intro k35 hk35 y2 y3 y4 y5 y6 v0 σ h
    unfold f_X12_watch_96 at h
    refine a_istore C dX12_watch_96 (by decide) rfl (vs1 := [some (.ref (ad 236)), none, some (.int y2), some (.int y3), some (.int y4), some (.int y5), some (.int y6), none, some (.int v0)]) rfl ?_
    refine a_iload C dX12_watch_98 rfl ?_
    refine p_if_lt C (X := y4.toInt) rfl dX12_watch_100 (tgt := 113) rfl h (fun h => ?_) (fun h => ?_)
    ·
      refine AW.sub (vs' := [some (.ref (ad 236)), none, some (.int y2), some (.int y3), none, none, some (.int y6), none, some (.int v0)]) (lsub_of (by simp [lsubB])) ?_
      exact j113 k35 hk35 _ _ _ _ _ h
    ·
      refine a_iload C dX12_watch_103 rfl ?_
      refine a_iload C dX12_watch_105 rfl ?_
      refine p_ic_lt C (X := v0.toInt) (Y := y5.toInt) rfl rfl dX12_watch_107 (tgt := 113) rfl h (fun h => ?_) (fun h => ?_)
      ·
        refine AW.sub (vs' := [some (.ref (ad 236)), none, some (.int y2), some (.int y3), none, none, some (.int y6), none, some (.int v0)]) (lsub_of (by simp [lsubB])) ?_
        exact j113 k35 hk35 _ _ _ _ _ h
      ·
        refine a_goto C dX12_watch_110 (tgt := 121) rfl ?_
        refine AW.sub (vs' := [some (.ref (ad 236)), none, some (.int y2), some (.int y3), some (.int y4), some (.int y5), some (.int y6), none, none]) (lsub_of (by simp [lsubB])) ?_
        exact j121 k35 hk35 _ _ _ _ _ _ h
  have j76 : ∀ (k35 : Int32 → Int32 → Int32 → Int32 → Int32 → HS → Option (Int32 × HS)) (hk35 : ∀ (y2 : Int32) (y3 : Int32) (y4 : Int32) (y5 : Int32) (y6 : Int32) (σ : HS), k35 y2 y3 y4 y5 y6 σ = some R → AW ids ad ca Γ 35 [some (.ref (ad 236)), none, some (.int y2), some (.int y3), some (.int y4), some (.int y5), some (.int y6), none, none] [] σ) (y2 : Int32) (y3 : Int32) (y4 : Int32) (y5 : Int32) (y6 : Int32) (v0 : Int32) (σ : HS), f_X12_watch_76 k35 y2 y3 y4 y5 y6 v0 σ = some R → AW ids ad ca Γ 76 [some (.ref (ad 236)), none, some (.int y2), some (.int y3), some (.int y4), some (.int y5), some (.int y6), none, none] [.int v0] σ := by
    intro k35 hk35 y2 y3 y4 y5 y6 v0 σ h
    unfold f_X12_watch_76 at h
    refine a_istore C dX12_watch_76 (by decide) rfl (vs1 := [some (.ref (ad 236)), none, some (.int y2), some (.int y3), some (.int y4), some (.int y5), some (.int y6), some (.int v0), none]) rfl ?_
    refine a_iload C dX12_watch_78 rfl ?_
    refine a_iload_n C dX12_watch_80 (i := 3) rfl rfl ?_
    refine a_iload C dX12_watch_81 rfl ?_
    refine a_isub C dX12_watch_83 ?_
    refine p_ic_le C (X := v0.toInt) (Y := (y3 - v0).toInt) rfl rfl dX12_watch_84 (tgt := 92) rfl h (fun h => ?_) (fun h => ?_)
    ·
      refine a_iload_n C dX12_watch_92 (i := 3) rfl rfl ?_
      refine a_iload C dX12_watch_93 rfl ?_
      refine a_isub C dX12_watch_95 ?_
      refine AW.sub (vs' := [some (.ref (ad 236)), none, some (.int y2), some (.int y3), some (.int y4), some (.int y5), some (.int y6), none, none]) (lsub_of (by simp [lsubB])) ?_
      exact j96 k35 hk35 _ _ _ _ _ _ _ h
    ·
      refine a_iload C dX12_watch_87 rfl ?_
      refine a_goto C dX12_watch_89 (tgt := 96) rfl ?_
      refine AW.sub (vs' := [some (.ref (ad 236)), none, some (.int y2), some (.int y3), some (.int y4), some (.int y5), some (.int y6), none, none]) (lsub_of (by simp [lsubB])) ?_
      exact j96 k35 hk35 _ _ _ _ _ _ _ h
  have j75 : ∀ (k35 : Int32 → Int32 → Int32 → Int32 → Int32 → HS → Option (Int32 × HS)) (hk35 : ∀ (y2 : Int32) (y3 : Int32) (y4 : Int32) (y5 : Int32) (y6 : Int32) (σ : HS), k35 y2 y3 y4 y5 y6 σ = some R → AW ids ad ca Γ 35 [some (.ref (ad 236)), none, some (.int y2), some (.int y3), some (.int y4), some (.int y5), some (.int y6), none, none] [] σ) (y2 : Int32) (y3 : Int32) (y4 : Int32) (y5 : Int32) (y6 : Int32) (σ : HS), f_X12_watch_75 k35 y2 y3 y4 y5 y6 σ = some R → AW ids ad ca Γ 75 [some (.ref (ad 236)), none, some (.int y2), some (.int y3), some (.int y4), some (.int y5), some (.int y6), none, none] [] σ := by
    intro k35 hk35 y2 y3 y4 y5 y6 σ h
    unfold f_X12_watch_75 at h
    refine a_iconst C dX12_watch_75 (v := 0) rfl ?_
    exact j76 k35 hk35 _ _ _ _ _ _ _ h
  have j35 : ∀ (n : Nat) (y2 : Int32) (y3 : Int32) (y4 : Int32) (y5 : Int32) (y6 : Int32) (σ : HS), f_X12_watch_35 n y2 y3 y4 y5 y6 σ = some R → AW ids ad ca Γ 35 [some (.ref (ad 236)), none, some (.int y2), some (.int y3), some (.int y4), some (.int y5), some (.int y6), none, none] [] σ := by
    intro n
    induction n with
    | zero => intro y2 y3 y4 y5 y6 σ h; exact nn h
    | succ n ih =>
      intro y2 y3 y4 y5 y6 σ h
      have h : b_X12_watch_35 (f_X12_watch_35 n) y2 y3 y4 y5 y6 σ = some R := h
      unfold b_X12_watch_35 at h
      refine a_iload C dX12_watch_35 rfl ?_
      refine a_bipush C dX12_watch_37 (v := 40) rfl ?_
      refine p_ic_gt C (X := y6.toInt) (Y := 40) rfl (by decide) dX12_watch_39 (tgt := 127) rfl h (fun h => ?_) (fun h => ?_)
      ·
        refine a_iload C dX12_watch_127 rfl ?_
        exact a_iret Rt dX12_watch_129 rfl (ret_eq (h.trans (congrArg some hR.symm)))
      ·
        refine a_iload_n C dX12_watch_42 (i := 3) rfl rfl ?_
        refine p_if_le C (X := y3.toInt) rfl dX12_watch_43 (tgt := 127) rfl h (fun h => ?_) (fun h => ?_)
        ·
          refine a_iload C dX12_watch_127 rfl ?_
          exact a_iret Rt dX12_watch_129 rfl (ret_eq (h.trans (congrArg some hR.symm)))
        ·
          refine a_aload_n C dX12_watch_46 (i := 0) rfl rfl ?_
          refine a_get C fl_RX12_131 (i := 236) kd_236 (hid 236 (by decide)) (v := .ref (ad 274)) rfl dX12_watch_47 ?_
          refine a_iload C dX12_watch_50 rfl ?_
          refine p_iald C (i := 274) (show rowOK 274 from ⟨kd_274, by decide⟩) hid (by rw [al_274]; rfl) dX12_watch_52 h (fun h => ?_)
          refine p_if_lt C (X := (σ.1 274 y6.toInt.toNat).toInt) rfl dX12_watch_53 (tgt := 75) rfl h (fun h => ?_) (fun h => ?_)
          ·
            exact j75 (f_X12_watch_35 n) (fun y2 y3 y4 y5 y6 σ h => ih y2 y3 y4 y5 y6 σ h) _ _ _ _ _ _ h
          ·
            refine a_iload_n C dX12_watch_56 (i := 2) rfl rfl ?_
            refine a_aload_n C dX12_watch_57 (i := 0) rfl rfl ?_
            refine a_get C fl_RX12_131 (i := 236) kd_236 (hid 236 (by decide)) (v := .ref (ad 274)) rfl dX12_watch_58 ?_
            refine a_iload C dX12_watch_61 rfl ?_
            refine p_iald C (i := 274) (show rowOK 274 from ⟨kd_274, by decide⟩) hid (by rw [al_274]; rfl) dX12_watch_63 h (fun h => ?_)
            refine a_ishr C dX12_watch_64 ?_
            refine a_iconst C dX12_watch_65 (v := 1) rfl ?_
            refine a_iand C dX12_watch_66 ?_
            refine a_iconst C dX12_watch_67 (v := 1) rfl ?_
            refine p_ic_ne C (X := ((y2 >>> ((σ.1 274 y6.toInt.toNat) &&& 31)) &&& (1 : Int32)).toInt) (Y := 1) rfl (by decide) dX12_watch_68 (tgt := 75) rfl h (fun h => ?_) (fun h => ?_)
            ·
              exact j75 (f_X12_watch_35 n) (fun y2 y3 y4 y5 y6 σ h => ih y2 y3 y4 y5 y6 σ h) _ _ _ _ _ _ h
            ·
              refine a_iconst C dX12_watch_71 (v := 1) rfl ?_
              refine a_goto C dX12_watch_72 (tgt := 76) rfl ?_
              exact j76 (f_X12_watch_35 n) (fun y2 y3 y4 y5 y6 σ h => ih y2 y3 y4 y5 y6 σ h) _ _ _ _ _ _ _ h
  refine a_iload_n C dX12_watch_0 (i := 1) rfl rfl ?_
  refine a_iconst C dX12_watch_1 (v := 0) rfl ?_
  refine a_aload_n C dX12_watch_2 (i := 0) rfl rfl ?_
  refine a_get C fl_RX12_242 (i := 236) kd_236 (hid 236 (by decide)) (v := .int (σ.1 236 60)) rfl dX12_watch_3 ?_
  refine p_callSi C (As := [.int x1, .int 0, .int (σ.1 236 60)]) h (fun _ _ e => Z_X12_in hid e) ms_X12_in ml_RX12_301 rfl rfl (Nat.le_of_ble_eq_true rfl) (Nat.le_of_ble_eq_true rfl) (Nat.le_of_ble_eq_true rfl) dX12_watch_6 (fun r2 σ1 h => ?_)
  refine p_if_ne C (X := r2.toInt) rfl dX12_watch_9 (tgt := 14) rfl h (fun h => ?_) (fun h => ?_)
  ·
    refine a_aload_n C dX12_watch_14 (i := 0) rfl rfl ?_
    refine a_iload_n C dX12_watch_15 (i := 1) rfl rfl ?_
    refine p_callVi C (As := [.int x1]) (i := 236) kd_236 (hid 236 (by decide)) ⟨_, _, rfl⟩ (by decide) h (fun _ _ e => Z_X12_glitterBits hid e) mi_X12_glitterBits ml_RX12_458 rfl rfl (Nat.le_of_ble_eq_true rfl) (Nat.le_of_ble_eq_true rfl) (Nat.le_of_ble_eq_true rfl) dX12_watch_16 (fun r4 σ3 h => ?_)
    refine a_istore_n C dX12_watch_19 (i := 2) rfl (by decide) rfl (vs1 := [some (.ref (ad 236)), some (.int x1), some (.int r4), none, none, none, none, none, none]) rfl ?_
    refine a_iload_n C dX12_watch_20 (i := 2) rfl rfl ?_
    refine p_callSi C (As := [.int r4]) h (fun _ _ e => Z_X12_bits hid e) ms_X12_bits ml_RX12_353 rfl rfl (Nat.le_of_ble_eq_true rfl) (Nat.le_of_ble_eq_true rfl) (Nat.le_of_ble_eq_true rfl) dX12_watch_21 (fun r6 σ5 h => ?_)
    refine a_istore_n C dX12_watch_24 (i := 3) rfl (by decide) rfl (vs1 := [some (.ref (ad 236)), some (.int x1), some (.int r4), some (.int r6), none, none, none, none, none]) rfl ?_
    refine a_bipush C dX12_watch_25 (v := (-2)) rfl ?_
    refine a_istore C dX12_watch_27 (by decide) rfl (vs1 := [some (.ref (ad 236)), some (.int x1), some (.int r4), some (.int r6), some (.int (-2)), none, none, none, none]) rfl ?_
    refine a_iconst C dX12_watch_29 (v := 0) rfl ?_
    refine a_istore C dX12_watch_30 (by decide) rfl (vs1 := [some (.ref (ad 236)), some (.int x1), some (.int r4), some (.int r6), some (.int (-2)), some (.int 0), none, none, none]) rfl ?_
    refine a_iconst C dX12_watch_32 (v := 0) rfl ?_
    refine a_istore C dX12_watch_33 (by decide) rfl (vs1 := [some (.ref (ad 236)), some (.int x1), some (.int r4), some (.int r6), some (.int (-2)), some (.int 0), some (.int 0), none, none]) rfl ?_
    refine AW.sub (vs' := [some (.ref (ad 236)), none, some (.int r4), some (.int r6), some (.int (-2)), some (.int 0), some (.int 0), none, none]) (lsub_of (by simp [lsubB])) ?_
    exact j35 _ _ _ _ _ _ _ h
  ·
    refine a_iconst C dX12_watch_12 (v := (-1)) rfl ?_
    exact a_iret Rt dX12_watch_13 rfl (ret_eq (h.trans (congrArg some hR.symm)))
set_option maxHeartbeats 4000000 in
set_option maxRecDepth 100000 in
theorem Z_X12_hold {l : Launch} {D : va_G} {ids : List Nat} {ad : Nat → Nat} {ca : Nat → ClassId} {σ : HS} {x1 : Int32} {r0 : Int32} {s0 : HS} (hid : ∀ i, i < 277 → i ∈ ids) (h : f_X12_hold x1 σ = some (r0, s0)) : Ki l D ids ad ca yX12_hold cX12_hold 3 .boolean 1 22 [.ref (ad 236), .int x1] σ (fun r σ1 => r = r0 ∧ σ1 = s0) := by
  obtain ⟨R, hR⟩ : ∃ R, (r0, s0) = R := ⟨_, rfl⟩
  replace h := h.trans (congrArg some hR)
  refine Ki.of (by decide) (Nat.le_of_ble_eq_true rfl) 1 (fun Γ C Rt => ?_)
  show AW ids ad ca Γ 0 [some (.ref (ad 236)), some (.int x1), none] [] σ
  unfold f_X12_hold at h
  have j20 : ∀ (n : Nat) (y1 : Int32) (y2 : Int32) (σ : HS), f_X12_hold_20 n y1 y2 σ = some R → AW ids ad ca Γ 20 [some (.ref (ad 236)), some (.int y1), some (.int y2)] [] σ := by
    intro n
    induction n with
    | zero => intro y1 y2 σ h; exact nn h
    | succ n ih =>
      intro y1 y2 σ h
      have h : b_X12_hold_20 (f_X12_hold_20 n) y1 y2 σ = some R := h
      unfold b_X12_hold_20 at h
      refine a_iload_n C dX12_hold_20 (i := 2) rfl rfl ?_
      refine a_bipush C dX12_hold_21 (v := 29) rfl ?_
      refine p_ic_ge C (X := y2.toInt) (Y := 29) rfl (by decide) dX12_hold_23 (tgt := 49) rfl h (fun h => ?_) (fun h => ?_)
      ·
        refine a_iconst C dX12_hold_49 (v := 1) rfl ?_
        exact a_iret Rt dX12_hold_50 (nar_z (by decide)).1 (ret_eq (h.trans (congrArg some hR.symm)))
      ·
        refine a_aload_n C dX12_hold_26 (i := 0) rfl rfl ?_
        refine a_get C fl_RX12_137 (i := 236) kd_236 (hid 236 (by decide)) (v := .ref (ad 276)) rfl dX12_hold_27 ?_
        refine a_bipush C dX12_hold_30 (v := 29) rfl ?_
        refine a_iload_n C dX12_hold_32 (i := 1) rfl rfl ?_
        refine a_imul C dX12_hold_33 ?_
        refine a_iload_n C dX12_hold_34 (i := 2) rfl rfl ?_
        refine a_iadd C dX12_hold_35 ?_
        refine a_aload_n C dX12_hold_36 (i := 0) rfl rfl ?_
        refine a_get C fl_RX12_107 (i := 236) kd_236 (hid 236 (by decide)) (v := .ref (ad 266)) rfl dX12_hold_37 ?_
        refine a_iload_n C dX12_hold_40 (i := 2) rfl rfl ?_
        refine p_iald C (i := 266) (show rowOK 266 from ⟨kd_266, by decide⟩) hid (by rw [al_266]; rfl) dX12_hold_41 h (fun h => ?_)
        refine p_iast C (i := 276) (show rowOK 276 from ⟨kd_276, by decide⟩) hid (by rw [al_276]; rfl) dX12_hold_42 h (fun σ1 h => ?_)
        refine p_iinc C (y := (y2 + 1)) (fun z2 => [some (.ref (ad 236)), some (.int y1), some (.int z2)]) dX12_hold_43 rfl rfl (by decide) rfl (fun _ => rfl) h (fun z2 h => ?_)
        refine a_goto C dX12_hold_46 (tgt := 20) rfl ?_
        exact ih _ _ _ h
  refine a_iload_n C dX12_hold_0 (i := 1) rfl rfl ?_
  refine a_iconst C dX12_hold_1 (v := 0) rfl ?_
  refine a_iconst C dX12_hold_2 (v := 2) rfl ?_
  refine p_callSi C (As := [.int x1, .int 0, .int 2]) h (fun _ _ e => Z_X12_in hid e) ms_X12_in ml_RX12_301 rfl rfl (Nat.le_of_ble_eq_true rfl) (Nat.le_of_ble_eq_true rfl) (Nat.le_of_ble_eq_true rfl) dX12_hold_3 (fun r2 σ1 h => ?_)
  refine p_if_ne C (X := r2.toInt) rfl dX12_hold_6 (tgt := 11) rfl h (fun h => ?_) (fun h => ?_)
  ·
    refine a_aload_n C dX12_hold_11 (i := 0) rfl rfl ?_
    refine a_get C fl_RX12_134 (i := 236) kd_236 (hid 236 (by decide)) (v := .ref (ad 275)) rfl dX12_hold_12 ?_
    refine a_iload_n C dX12_hold_15 (i := 1) rfl rfl ?_
    refine a_iconst C dX12_hold_16 (v := 1) rfl ?_
    refine p_zast C (i := 275) kd_275 (hid 275 (by decide)) (by rw [al_275]; rfl) (by decide) dX12_hold_17 h (fun σ3 h => ?_)
    refine a_iconst C dX12_hold_18 (v := 0) rfl ?_
    refine a_istore_n C dX12_hold_19 (i := 2) rfl (by decide) rfl (vs1 := [some (.ref (ad 236)), some (.int x1), some (.int 0)]) rfl ?_
    exact j20 _ _ _ _ h
  ·
    refine a_iconst C dX12_hold_9 (v := 0) rfl ?_
    exact a_iret Rt dX12_hold_10 (nar_z (by decide)).1 (ret_eq (h.trans (congrArg some hR.symm)))
set_option maxHeartbeats 4000000 in
set_option maxRecDepth 100000 in
theorem Z_X12_restore {l : Launch} {D : va_G} {ids : List Nat} {ad : Nat → Nat} {ca : Nat → ClassId} {σ : HS} {x1 : Int32} {r0 : Int32} {s0 : HS} (hid : ∀ i, i < 277 → i ∈ ids) (h : f_X12_restore x1 σ = some (r0, s0)) : Ki l D ids ad ca yX12_restore cX12_restore 3 .boolean 1 22 [.ref (ad 236), .int x1] σ (fun r σ1 => r = r0 ∧ σ1 = s0) := by
  obtain ⟨R, hR⟩ : ∃ R, (r0, s0) = R := ⟨_, rfl⟩
  replace h := h.trans (congrArg some hR)
  refine Ki.of (by decide) (Nat.le_of_ble_eq_true rfl) 1 (fun Γ C Rt => ?_)
  show AW ids ad ca Γ 0 [some (.ref (ad 236)), some (.int x1), none] [] σ
  unfold f_X12_restore at h
  have j22 : ∀ (n : Nat) (y1 : Int32) (y2 : Int32) (σ : HS), f_X12_restore_22 n y1 y2 σ = some R → AW ids ad ca Γ 22 [some (.ref (ad 236)), some (.int y1), some (.int y2)] [] σ := by
    intro n
    induction n with
    | zero => intro y1 y2 σ h; exact nn h
    | succ n ih =>
      intro y1 y2 σ h
      have h : b_X12_restore_22 (f_X12_restore_22 n) y1 y2 σ = some R := h
      unfold b_X12_restore_22 at h
      refine a_iload_n C dX12_restore_22 (i := 2) rfl rfl ?_
      refine a_bipush C dX12_restore_23 (v := 29) rfl ?_
      refine p_ic_ge C (X := y2.toInt) (Y := 29) rfl (by decide) dX12_restore_25 (tgt := 51) rfl h (fun h => ?_) (fun h => ?_)
      ·
        refine a_aload_n C dX12_restore_51 (i := 0) rfl rfl ?_
        refine a_iconst C dX12_restore_52 (v := 0) rfl ?_
        refine p_put C fp_RX12_239 (i := 236) kd_236 (hid 236 (by decide)) rfl rfl dX12_restore_53 h (fun σ1 h => ?_)
        refine a_iconst C dX12_restore_56 (v := 1) rfl ?_
        exact a_iret Rt dX12_restore_57 (nar_z (by decide)).1 (ret_eq (h.trans (congrArg some hR.symm)))
      ·
        refine a_aload_n C dX12_restore_28 (i := 0) rfl rfl ?_
        refine a_get C fl_RX12_107 (i := 236) kd_236 (hid 236 (by decide)) (v := .ref (ad 266)) rfl dX12_restore_29 ?_
        refine a_iload_n C dX12_restore_32 (i := 2) rfl rfl ?_
        refine a_aload_n C dX12_restore_33 (i := 0) rfl rfl ?_
        refine a_get C fl_RX12_137 (i := 236) kd_236 (hid 236 (by decide)) (v := .ref (ad 276)) rfl dX12_restore_34 ?_
        refine a_bipush C dX12_restore_37 (v := 29) rfl ?_
        refine a_iload_n C dX12_restore_39 (i := 1) rfl rfl ?_
        refine a_imul C dX12_restore_40 ?_
        refine a_iload_n C dX12_restore_41 (i := 2) rfl rfl ?_
        refine a_iadd C dX12_restore_42 ?_
        refine p_iald C (i := 276) (show rowOK 276 from ⟨kd_276, by decide⟩) hid (by rw [al_276]; rfl) dX12_restore_43 h (fun h => ?_)
        refine p_iast C (i := 266) (show rowOK 266 from ⟨kd_266, by decide⟩) hid (by rw [al_266]; rfl) dX12_restore_44 h (fun σ2 h => ?_)
        refine p_iinc C (y := (y2 + 1)) (fun z3 => [some (.ref (ad 236)), some (.int y1), some (.int z3)]) dX12_restore_45 rfl rfl (by decide) rfl (fun _ => rfl) h (fun z3 h => ?_)
        refine a_goto C dX12_restore_48 (tgt := 22) rfl ?_
        exact ih _ _ _ h
  refine a_iload_n C dX12_restore_0 (i := 1) rfl rfl ?_
  refine a_iconst C dX12_restore_1 (v := 0) rfl ?_
  refine a_iconst C dX12_restore_2 (v := 2) rfl ?_
  refine p_callSi C (As := [.int x1, .int 0, .int 2]) h (fun _ _ e => Z_X12_in hid e) ms_X12_in ml_RX12_301 rfl rfl (Nat.le_of_ble_eq_true rfl) (Nat.le_of_ble_eq_true rfl) (Nat.le_of_ble_eq_true rfl) dX12_restore_3 (fun r2 σ1 h => ?_)
  refine p_if_eq C (X := r2.toInt) rfl dX12_restore_6 (tgt := 18) rfl h (fun h => ?_) (fun h => ?_)
  ·
    refine a_iconst C dX12_restore_18 (v := 0) rfl ?_
    exact a_iret Rt dX12_restore_19 (nar_z (by decide)).1 (ret_eq (h.trans (congrArg some hR.symm)))
  ·
    refine a_aload_n C dX12_restore_9 (i := 0) rfl rfl ?_
    refine a_get C fl_RX12_134 (i := 236) kd_236 (hid 236 (by decide)) (v := .ref (ad 275)) rfl dX12_restore_10 ?_
    refine a_iload_n C dX12_restore_13 (i := 1) rfl rfl ?_
    refine p_zald C (i := 275) kd_275 (hid 275 (by decide)) (by rw [al_275]; rfl) dX12_restore_14 h (fun h => ?_)
    refine p_if_ne C (X := (σ1.1 275 x1.toInt.toNat).toInt) rfl dX12_restore_15 (tgt := 20) rfl h (fun h => ?_) (fun h => ?_)
    ·
      refine a_iconst C dX12_restore_20 (v := 0) rfl ?_
      refine a_istore_n C dX12_restore_21 (i := 2) rfl (by decide) rfl (vs1 := [some (.ref (ad 236)), some (.int x1), some (.int 0)]) rfl ?_
      exact j22 _ _ _ _ h
    ·
      refine a_iconst C dX12_restore_18 (v := 0) rfl ?_
      exact a_iret Rt dX12_restore_19 (nar_z (by decide)).1 (ret_eq (h.trans (congrArg some hR.symm)))
set_option maxHeartbeats 4000000 in
set_option maxRecDepth 100000 in
theorem Z_X12_weightsOf {l : Launch} {D : va_G} {ids : List Nat} {ad : Nat → Nat} {ca : Nat → ClassId} {σ : HS} {x1 : Int32} {r0 : Int32} {s0 : HS} (hid : ∀ i, i < 277 → i ∈ ids) (h : f_X12_weightsOf x1 σ = some (r0, s0)) : Ki l D ids ad ca yX12_weightsOf cX12_weightsOf 4 .int 0 0 [.ref (ad 236), .int x1] σ (fun r σ1 => r = r0 ∧ σ1 = s0) := by
  obtain ⟨R, hR⟩ : ∃ R, (r0, s0) = R := ⟨_, rfl⟩
  replace h := h.trans (congrArg some hR)
  refine Ki.of (by decide) (Nat.le_of_ble_eq_true rfl) 2 (fun Γ C Rt => ?_)
  show AW ids ad ca Γ 0 [some (.ref (ad 236)), some (.int x1), none, none] [] σ
  unfold f_X12_weightsOf at h
  have j43 : ∀ (k4 : Int32 → Int32 → Int32 → HS → Option (Int32 × HS)) (hk4 : ∀ (y1 : Int32) (y2 : Int32) (y3 : Int32) (σ : HS), k4 y1 y2 y3 σ = some R → AW ids ad ca Γ 4 [some (.ref (ad 236)), some (.int y1), some (.int y2), some (.int y3)] [] σ) (y1 : Int32) (y2 : Int32) (y3 : Int32) (σ : HS), f_X12_weightsOf_43 k4 y1 y2 y3 σ = some R → AW ids ad ca Γ 43 [some (.ref (ad 236)), some (.int y1), some (.int y2), some (.int y3)] [] σ := by
    intro k4 hk4 y1 y2 y3 σ h
    unfold f_X12_weightsOf_43 at h
    refine p_iinc C (y := (y3 + 1)) (fun z1 => [some (.ref (ad 236)), some (.int y1), some (.int y2), some (.int z1)]) dX12_weightsOf_43 rfl rfl (by decide) rfl (fun _ => rfl) h (fun z1 h => ?_)
    refine a_goto C dX12_weightsOf_46 (tgt := 4) rfl ?_
    exact hk4 _ _ _ _ h
  have j4 : ∀ (n : Nat) (y1 : Int32) (y2 : Int32) (y3 : Int32) (σ : HS), f_X12_weightsOf_4 n y1 y2 y3 σ = some R → AW ids ad ca Γ 4 [some (.ref (ad 236)), some (.int y1), some (.int y2), some (.int y3)] [] σ := by
    intro n
    induction n with
    | zero => intro y1 y2 y3 σ h; exact nn h
    | succ n ih =>
      intro y1 y2 y3 σ h
      have h : b_X12_weightsOf_4 (f_X12_weightsOf_4 n) y1 y2 y3 σ = some R := h
      unfold b_X12_weightsOf_4 at h
      refine a_iload_n C dX12_weightsOf_4 (i := 3) rfl rfl ?_
      refine a_aload_n C dX12_weightsOf_5 (i := 0) rfl rfl ?_
      refine a_get C fl_RX12_43 (i := 236) kd_236 (hid 236 (by decide)) (v := .ref (ad 245)) rfl dX12_weightsOf_6 ?_
      refine a_aload_n C dX12_weightsOf_9 (i := 0) rfl rfl ?_
      refine a_get C fl_RX12_221 (i := 236) kd_236 (hid 236 (by decide)) (v := .int (σ.1 236 18)) rfl dX12_weightsOf_10 ?_
      refine p_iald C (i := 245) (show rowOK 245 from ⟨kd_245, by decide⟩) hid (by rw [al_245]; rfl) dX12_weightsOf_13 h (fun h => ?_)
      refine p_ic_ge C (X := y3.toInt) (Y := (σ.1 245 (σ.1 236 18).toInt.toNat).toInt) rfl rfl dX12_weightsOf_14 (tgt := 49) rfl h (fun h => ?_) (fun h => ?_)
      ·
        refine a_iload_n C dX12_weightsOf_49 (i := 2) rfl rfl ?_
        exact a_iret Rt dX12_weightsOf_50 rfl (ret_eq (h.trans (congrArg some hR.symm)))
      ·
        refine a_iload_n C dX12_weightsOf_17 (i := 1) rfl rfl ?_
        refine a_iload_n C dX12_weightsOf_18 (i := 3) rfl rfl ?_
        refine a_ishr C dX12_weightsOf_19 ?_
        refine a_iconst C dX12_weightsOf_20 (v := 1) rfl ?_
        refine a_iand C dX12_weightsOf_21 ?_
        refine a_iconst C dX12_weightsOf_22 (v := 1) rfl ?_
        refine p_ic_ne C (X := ((y1 >>> (y3 &&& 31)) &&& (1 : Int32)).toInt) (Y := 1) rfl (by decide) dX12_weightsOf_23 (tgt := 43) rfl h (fun h => ?_) (fun h => ?_)
        ·
          exact j43 (f_X12_weightsOf_4 n) (fun y1 y2 y3 σ h => ih y1 y2 y3 σ h) _ _ _ _ h
        ·
          refine a_iload_n C dX12_weightsOf_26 (i := 2) rfl rfl ?_
          refine a_aload_n C dX12_weightsOf_27 (i := 0) rfl rfl ?_
          refine a_get C fl_RX12_46 (i := 236) kd_236 (hid 236 (by decide)) (v := .ref (ad 246)) rfl dX12_weightsOf_28 ?_
          refine a_bipush C dX12_weightsOf_31 (v := 7) rfl ?_
          refine a_aload_n C dX12_weightsOf_33 (i := 0) rfl rfl ?_
          refine a_get C fl_RX12_221 (i := 236) kd_236 (hid 236 (by decide)) (v := .int (σ.1 236 18)) rfl dX12_weightsOf_34 ?_
          refine a_imul C dX12_weightsOf_37 ?_
          refine a_iload_n C dX12_weightsOf_38 (i := 3) rfl rfl ?_
          refine a_iadd C dX12_weightsOf_39 ?_
          refine p_iald C (i := 246) (show rowOK 246 from ⟨kd_246, by decide⟩) hid (by rw [al_246]; rfl) dX12_weightsOf_40 h (fun h => ?_)
          refine a_iadd C dX12_weightsOf_41 ?_
          refine p_istore_n C (fun z1 => [some (.ref (ad 236)), some (.int y1), some (.int z1), some (.int y3)]) dX12_weightsOf_42 (i := 2) rfl (by decide) rfl (fun _ => rfl) h (fun z1 h => ?_)
          exact j43 (f_X12_weightsOf_4 n) (fun y1 y2 y3 σ h => ih y1 y2 y3 σ h) _ _ _ _ h
  refine a_iconst C dX12_weightsOf_0 (v := 0) rfl ?_
  refine a_istore_n C dX12_weightsOf_1 (i := 2) rfl (by decide) rfl (vs1 := [some (.ref (ad 236)), some (.int x1), some (.int 0), none]) rfl ?_
  refine a_iconst C dX12_weightsOf_2 (v := 0) rfl ?_
  refine a_istore_n C dX12_weightsOf_3 (i := 3) rfl (by decide) rfl (vs1 := [some (.ref (ad 236)), some (.int x1), some (.int 0), some (.int 0)]) rfl ?_
  exact j4 _ _ _ _ _ h
set_option maxHeartbeats 4000000 in
set_option maxRecDepth 100000 in
theorem Z_X12_count {l : Launch} {D : va_G} {ids : List Nat} {ad : Nat → Nat} {ca : Nat → ClassId} {σ : HS} {x1 : Int32} {r0 : Int32} {s0 : HS} (hid : ∀ i, i < 277 → i ∈ ids) (h : f_X12_count x1 σ = some (r0, s0)) : Ki l D ids ad ca yX12_count cX12_count 2 .int 3 63 [.ref (ad 236), .int x1] σ (fun r σ1 => r = r0 ∧ σ1 = s0) := by
  obtain ⟨R, hR⟩ : ∃ R, (r0, s0) = R := ⟨_, rfl⟩
  replace h := h.trans (congrArg some hR)
  refine Ki.of (by decide) (Nat.le_of_ble_eq_true rfl) 0 (fun Γ C Rt => ?_)
  show AW ids ad ca Γ 0 [some (.ref (ad 236)), some (.int x1)] [] σ
  unfold f_X12_count at h
  have j221 : ∀ (v0 : Int32) (v1 : Int32) (σ : HS), f_X12_count_221 v0 v1 σ = some R → AW ids ad ca Γ 221 [none, none] [.int v0, .int v1] σ := by
    intro v0 v1 σ h
    unfold f_X12_count_221 at h
    refine a_iadd C dX12_count_221 ?_
    exact a_iret Rt dX12_count_222 rfl (ret_eq (h.trans (congrArg some hR.symm)))
  have j206 : ∀ (v0 : Int32) (v1 : Int32) (σ : HS), f_X12_count_206 v0 v1 σ = some R → AW ids ad ca Γ 206 [some (.ref (ad 236)), none] [.int v0, .int v1] σ := by
    intro v0 v1 σ h
    unfold f_X12_count_206 at h
    refine a_iadd C dX12_count_206 ?_
    refine a_aload_n C dX12_count_207 (i := 0) rfl rfl ?_
    refine a_get C fl_RX12_134 (i := 236) kd_236 (hid 236 (by decide)) (v := .ref (ad 275)) rfl dX12_count_208 ?_
    refine a_iconst C dX12_count_211 (v := 2) rfl ?_
    refine p_zaldc C (i := 275) 2 kd_275 (hid 275 (by decide)) (by decide) (by rw [al_275]; decide) dX12_count_212 ?_
    refine p_if_eq C (X := (σ.1 275 2).toInt) rfl dX12_count_213 (tgt := 220) rfl h (fun h => ?_) (fun h => ?_)
    ·
      refine a_iconst C dX12_count_220 (v := 0) rfl ?_
      refine AW.sub (vs' := [none, none]) (lsub_of (by simp [lsubB])) ?_
      exact j221 _ _ _ h
    ·
      refine a_iconst C dX12_count_216 (v := 1) rfl ?_
      refine a_goto C dX12_count_217 (tgt := 221) rfl ?_
      refine AW.sub (vs' := [none, none]) (lsub_of (by simp [lsubB])) ?_
      exact j221 _ _ _ h
  have j192 : ∀ (v0 : Int32) (σ : HS), f_X12_count_192 v0 σ = some R → AW ids ad ca Γ 192 [some (.ref (ad 236)), none] [.int v0] σ := by
    intro v0 σ h
    unfold f_X12_count_192 at h
    refine a_aload_n C dX12_count_192 (i := 0) rfl rfl ?_
    refine a_get C fl_RX12_134 (i := 236) kd_236 (hid 236 (by decide)) (v := .ref (ad 275)) rfl dX12_count_193 ?_
    refine a_iconst C dX12_count_196 (v := 1) rfl ?_
    refine p_zaldc C (i := 275) 1 kd_275 (hid 275 (by decide)) (by decide) (by rw [al_275]; decide) dX12_count_197 ?_
    refine p_if_eq C (X := (σ.1 275 1).toInt) rfl dX12_count_198 (tgt := 205) rfl h (fun h => ?_) (fun h => ?_)
    ·
      refine a_iconst C dX12_count_205 (v := 0) rfl ?_
      exact j206 _ _ _ h
    ·
      refine a_iconst C dX12_count_201 (v := 1) rfl ?_
      refine a_goto C dX12_count_202 (tgt := 206) rfl ?_
      exact j206 _ _ _ h
  refine a_aload_n C dX12_count_0 (i := 0) rfl rfl ?_
  refine p_callVv C (As := []) (i := 236) kd_236 (hid 236 (by decide)) ⟨_, _, rfl⟩ (by decide) h (fun _ e => Z_X12_copies hid e) mi_X12_copies ml_RX12_311 rfl rfl (Nat.le_of_ble_eq_true rfl) (Nat.le_of_ble_eq_true rfl) (Nat.le_of_ble_eq_true rfl) dX12_count_1 (fun σ1 h => ?_)
  refine a_iload_n C dX12_count_4 (i := 1) rfl rfl ?_
  refine ite_k h (fun c1 h => ?_) (fun c1 h => ?_)
  ·
    refine a_tableIn C dX12_count_5 (by omega) (by omega) (by rw [c1]; rfl) (tgt := 92) rfl ?_
    refine a_aload_n C dX12_count_92 (i := 0) rfl rfl ?_
    refine a_get C fl_RX12_43 (i := 236) kd_236 (hid 236 (by decide)) (v := .ref (ad 245)) rfl dX12_count_93 ?_
    refine a_aload_n C dX12_count_96 (i := 0) rfl rfl ?_
    refine a_get C fl_RX12_221 (i := 236) kd_236 (hid 236 (by decide)) (v := .int (σ1.1 236 18)) rfl dX12_count_97 ?_
    refine p_iald C (i := 245) (show rowOK 245 from ⟨kd_245, by decide⟩) hid (by rw [al_245]; rfl) dX12_count_100 h (fun h => ?_)
    exact a_iret Rt dX12_count_101 rfl (ret_eq (h.trans (congrArg some hR.symm)))
  ·
    refine ite_k h (fun c2 h => ?_) (fun c2 h => ?_)
    ·
      refine a_tableIn C dX12_count_5 (by omega) (by omega) (by rw [c2]; rfl) (tgt := 102) rfl ?_
      refine a_aload_n C dX12_count_102 (i := 0) rfl rfl ?_
      refine a_get C fl_RX12_55 (i := 236) kd_236 (hid 236 (by decide)) (v := .ref (ad 249)) rfl dX12_count_103 ?_
      refine a_aload_n C dX12_count_106 (i := 0) rfl rfl ?_
      refine a_get C fl_RX12_221 (i := 236) kd_236 (hid 236 (by decide)) (v := .int (σ1.1 236 18)) rfl dX12_count_107 ?_
      refine p_iald C (i := 249) (show rowOK 249 from ⟨kd_249, by decide⟩) hid (by rw [al_249]; rfl) dX12_count_110 h (fun h => ?_)
      exact a_iret Rt dX12_count_111 rfl (ret_eq (h.trans (congrArg some hR.symm)))
    ·
      refine ite_k h (fun c3 h => ?_) (fun c3 h => ?_)
      ·
        refine a_tableIn C dX12_count_5 (by omega) (by omega) (by rw [c3]; rfl) (tgt := 112) rfl ?_
        refine a_aload_n C dX12_count_112 (i := 0) rfl rfl ?_
        refine a_get C fl_RX12_110 (i := 236) kd_236 (hid 236 (by decide)) (v := .ref (ad 267)) rfl dX12_count_113 ?_
        refine a_bipush C dX12_count_116 (v := 21) rfl ?_
        refine p_ialdc C (i := 267) 21 (show rowOK 267 from ⟨kd_267, by decide⟩) hid (by decide) (by rw [al_267]; decide) dX12_count_118 ?_
        exact a_iret Rt dX12_count_119 rfl (ret_eq (h.trans (congrArg some hR.symm)))
      ·
        refine ite_k h (fun c4 h => ?_) (fun c4 h => ?_)
        ·
          refine a_tableIn C dX12_count_5 (by omega) (by omega) (by rw [c4]; rfl) (tgt := 120) rfl ?_
          refine a_aload_n C dX12_count_120 (i := 0) rfl rfl ?_
          refine a_get C fl_RX12_110 (i := 236) kd_236 (hid 236 (by decide)) (v := .ref (ad 267)) rfl dX12_count_121 ?_
          refine a_bipush C dX12_count_124 (v := 22) rfl ?_
          refine p_ialdc C (i := 267) 22 (show rowOK 267 from ⟨kd_267, by decide⟩) hid (by decide) (by rw [al_267]; decide) dX12_count_126 ?_
          exact a_iret Rt dX12_count_127 rfl (ret_eq (h.trans (congrArg some hR.symm)))
        ·
          refine ite_k h (fun c5 h => ?_) (fun c5 h => ?_)
          ·
            refine a_tableIn C dX12_count_5 (by omega) (by omega) (by rw [c5]; rfl) (tgt := 128) rfl ?_
            refine a_aload_n C dX12_count_128 (i := 0) rfl rfl ?_
            refine a_iconst C dX12_count_129 (v := 0) rfl ?_
            refine p_callVi C (As := [.int 0]) (i := 236) kd_236 (hid 236 (by decide)) ⟨_, _, rfl⟩ (by decide) h (fun _ _ e => Z_X12_thingsSo hid e) mi_X12_thingsSo ml_RX12_350 rfl rfl (Nat.le_of_ble_eq_true rfl) (Nat.le_of_ble_eq_true rfl) (Nat.le_of_ble_eq_true rfl) dX12_count_130 (fun r4 σ3 h => ?_)
            exact a_iret Rt dX12_count_133 rfl (ret_eq (h.trans (congrArg some hR.symm)))
          ·
            refine ite_k h (fun c6 h => ?_) (fun c6 h => ?_)
            ·
              refine a_tableIn C dX12_count_5 (by omega) (by omega) (by rw [c6]; rfl) (tgt := 134) rfl ?_
              refine a_aload_n C dX12_count_134 (i := 0) rfl rfl ?_
              refine a_iconst C dX12_count_135 (v := 2) rfl ?_
              refine p_callVi C (As := [.int 2]) (i := 236) kd_236 (hid 236 (by decide)) ⟨_, _, rfl⟩ (by decide) h (fun _ _ e => Z_X12_thingsSo hid e) mi_X12_thingsSo ml_RX12_350 rfl rfl (Nat.le_of_ble_eq_true rfl) (Nat.le_of_ble_eq_true rfl) (Nat.le_of_ble_eq_true rfl) dX12_count_136 (fun r6 σ5 h => ?_)
              exact a_iret Rt dX12_count_139 rfl (ret_eq (h.trans (congrArg some hR.symm)))
            ·
              refine ite_k h (fun c7 h => ?_) (fun c7 h => ?_)
              ·
                refine a_tableIn C dX12_count_5 (by omega) (by omega) (by rw [c7]; rfl) (tgt := 140) rfl ?_
                refine a_aload_n C dX12_count_140 (i := 0) rfl rfl ?_
                refine a_get C fl_RX12_110 (i := 236) kd_236 (hid 236 (by decide)) (v := .ref (ad 267)) rfl dX12_count_141 ?_
                refine a_bipush C dX12_count_144 (v := 17) rfl ?_
                refine a_iload_n C dX12_count_146 (i := 1) rfl rfl ?_
                refine a_iadd C dX12_count_147 ?_
                refine p_iald C (i := 267) (show rowOK 267 from ⟨kd_267, by decide⟩) hid (by rw [al_267]; rfl) dX12_count_148 h (fun h => ?_)
                exact a_iret Rt dX12_count_149 rfl (ret_eq (h.trans (congrArg some hR.symm)))
              ·
                refine ite_k h (fun c8 h => ?_) (fun c8 h => ?_)
                ·
                  refine a_tableIn C dX12_count_5 (by omega) (by omega) (by rw [c8]; rfl) (tgt := 140) rfl ?_
                  refine a_aload_n C dX12_count_140 (i := 0) rfl rfl ?_
                  refine a_get C fl_RX12_110 (i := 236) kd_236 (hid 236 (by decide)) (v := .ref (ad 267)) rfl dX12_count_141 ?_
                  refine a_bipush C dX12_count_144 (v := 17) rfl ?_
                  refine a_iload_n C dX12_count_146 (i := 1) rfl rfl ?_
                  refine a_iadd C dX12_count_147 ?_
                  refine p_iald C (i := 267) (show rowOK 267 from ⟨kd_267, by decide⟩) hid (by rw [al_267]; rfl) dX12_count_148 h (fun h => ?_)
                  exact a_iret Rt dX12_count_149 rfl (ret_eq (h.trans (congrArg some hR.symm)))
                ·
                  refine ite_k h (fun c9 h => ?_) (fun c9 h => ?_)
                  ·
                    refine a_tableIn C dX12_count_5 (by omega) (by omega) (by rw [c9]; rfl) (tgt := 140) rfl ?_
                    refine a_aload_n C dX12_count_140 (i := 0) rfl rfl ?_
                    refine a_get C fl_RX12_110 (i := 236) kd_236 (hid 236 (by decide)) (v := .ref (ad 267)) rfl dX12_count_141 ?_
                    refine a_bipush C dX12_count_144 (v := 17) rfl ?_
                    refine a_iload_n C dX12_count_146 (i := 1) rfl rfl ?_
                    refine a_iadd C dX12_count_147 ?_
                    refine p_iald C (i := 267) (show rowOK 267 from ⟨kd_267, by decide⟩) hid (by rw [al_267]; rfl) dX12_count_148 h (fun h => ?_)
                    exact a_iret Rt dX12_count_149 rfl (ret_eq (h.trans (congrArg some hR.symm)))
                  ·
                    refine ite_k h (fun c10 h => ?_) (fun c10 h => ?_)
                    ·
                      refine a_tableIn C dX12_count_5 (by omega) (by omega) (by rw [c10]; rfl) (tgt := 150) rfl ?_
                      refine a_aload_n C dX12_count_150 (i := 0) rfl rfl ?_
                      refine a_get C fl_RX12_110 (i := 236) kd_236 (hid 236 (by decide)) (v := .ref (ad 267)) rfl dX12_count_151 ?_
                      refine a_bipush C dX12_count_154 (v := 26) rfl ?_
                      refine p_ialdc C (i := 267) 26 (show rowOK 267 from ⟨kd_267, by decide⟩) hid (by decide) (by rw [al_267]; decide) dX12_count_156 ?_
                      exact a_iret Rt dX12_count_157 rfl (ret_eq (h.trans (congrArg some hR.symm)))
                    ·
                      refine ite_k h (fun c11 h => ?_) (fun c11 h => ?_)
                      ·
                        refine a_tableIn C dX12_count_5 (by omega) (by omega) (by rw [c11]; rfl) (tgt := 158) rfl ?_
                        refine a_aload_n C dX12_count_158 (i := 0) rfl rfl ?_
                        refine p_callVi C (As := []) (i := 236) kd_236 (hid 236 (by decide)) ⟨_, _, rfl⟩ (by decide) h (fun _ _ e => Z_X12_heightNow hid e) mi_X12_heightNow ml_RX12_347 rfl rfl (Nat.le_of_ble_eq_true rfl) (Nat.le_of_ble_eq_true rfl) (Nat.le_of_ble_eq_true rfl) dX12_count_159 (fun r8 σ7 h => ?_)
                        exact a_iret Rt dX12_count_162 rfl (ret_eq (h.trans (congrArg some hR.symm)))
                      ·
                        refine ite_k h (fun c12 h => ?_) (fun c12 h => ?_)
                        ·
                          refine a_tableIn C dX12_count_5 (by omega) (by omega) (by rw [c12]; rfl) (tgt := 163) rfl ?_
                          refine a_aload_n C dX12_count_163 (i := 0) rfl rfl ?_
                          refine a_get C fl_RX12_154 (i := 236) kd_236 (hid 236 (by decide)) (v := .int (σ1.1 236 2)) rfl dX12_count_164 ?_
                          exact a_iret Rt dX12_count_167 rfl (ret_eq (h.trans (congrArg some hR.symm)))
                        ·
                          refine ite_k h (fun c13 h => ?_) (fun c13 h => ?_)
                          ·
                            refine a_tableIn C dX12_count_5 (by omega) (by omega) (by rw [c13]; rfl) (tgt := 168) rfl ?_
                            refine a_aload_n C dX12_count_168 (i := 0) rfl rfl ?_
                            refine a_get C fl_RX12_239 (i := 236) kd_236 (hid 236 (by decide)) (v := .int (σ1.1 236 54)) rfl dX12_count_169 ?_
                            exact a_iret Rt dX12_count_172 rfl (ret_eq (h.trans (congrArg some hR.symm)))
                          ·
                            refine ite_k h (fun c14 h => ?_) (fun c14 h => ?_)
                            ·
                              refine a_tableIn C dX12_count_5 (by omega) (by omega) (by rw [c14]; rfl) (tgt := 173) rfl ?_
                              refine a_aload_n C dX12_count_173 (i := 0) rfl rfl ?_
                              refine a_get C fl_RX12_242 (i := 236) kd_236 (hid 236 (by decide)) (v := .int (σ1.1 236 60)) rfl dX12_count_174 ?_
                              exact a_iret Rt dX12_count_177 rfl (ret_eq (h.trans (congrArg some hR.symm)))
                            ·
                              refine ite_k h (fun c15 h => ?_) (fun c15 h => ?_)
                              ·
                                refine a_tableIn C dX12_count_5 (by omega) (by omega) (by rw [c15]; rfl) (tgt := 178) rfl ?_
                                refine a_aload_n C dX12_count_178 (i := 0) rfl rfl ?_
                                refine a_get C fl_RX12_134 (i := 236) kd_236 (hid 236 (by decide)) (v := .ref (ad 275)) rfl dX12_count_179 ?_
                                refine a_iconst C dX12_count_182 (v := 0) rfl ?_
                                refine p_zaldc C (i := 275) 0 kd_275 (hid 275 (by decide)) (by decide) (by rw [al_275]; decide) dX12_count_183 ?_
                                refine p_if_eq C (X := (σ1.1 275 0).toInt) rfl dX12_count_184 (tgt := 191) rfl h (fun h => ?_) (fun h => ?_)
                                ·
                                  refine a_iconst C dX12_count_191 (v := 0) rfl ?_
                                  refine AW.sub (vs' := [some (.ref (ad 236)), none]) (lsub_of (by simp [lsubB])) ?_
                                  exact j192 _ _ h
                                ·
                                  refine a_iconst C dX12_count_187 (v := 1) rfl ?_
                                  refine a_goto C dX12_count_188 (tgt := 192) rfl ?_
                                  refine AW.sub (vs' := [some (.ref (ad 236)), none]) (lsub_of (by simp [lsubB])) ?_
                                  exact j192 _ _ h
                              ·
                                refine ite_k h (fun c16 h => ?_) (fun c16 h => ?_)
                                ·
                                  refine a_tableIn C dX12_count_5 (by omega) (by omega) (by rw [c16]; rfl) (tgt := 223) rfl ?_
                                  refine a_aload_n C dX12_count_223 (i := 0) rfl rfl ?_
                                  refine a_aload_n C dX12_count_224 (i := 0) rfl rfl ?_
                                  refine a_iconst C dX12_count_225 (v := 0) rfl ?_
                                  refine p_callVi C (As := [.int 0]) (i := 236) kd_236 (hid 236 (by decide)) ⟨_, _, rfl⟩ (by decide) h (fun _ _ e => Z_X12_thingsSo hid e) mi_X12_thingsSo ml_RX12_350 rfl rfl (Nat.le_of_ble_eq_true rfl) (Nat.le_of_ble_eq_true rfl) (Nat.le_of_ble_eq_true rfl) dX12_count_226 (fun r10 σ9 h => ?_)
                                  refine p_callVi C (As := [.int r10]) (i := 236) kd_236 (hid 236 (by decide)) ⟨_, _, rfl⟩ (by decide) h (fun _ _ e => Z_X12_weightsOf hid e) mi_X12_weightsOf ml_RX12_461 rfl rfl (Nat.le_of_ble_eq_true rfl) (Nat.le_of_ble_eq_true rfl) (Nat.le_of_ble_eq_true rfl) dX12_count_229 (fun r12 σ11 h => ?_)
                                  exact a_iret Rt dX12_count_232 rfl (ret_eq (h.trans (congrArg some hR.symm)))
                                ·
                                  refine ite_k h (fun c17 h => ?_) (fun c17 h => ?_)
                                  ·
                                    refine a_tableIn C dX12_count_5 (by omega) (by omega) (by rw [c17]; rfl) (tgt := 233) rfl ?_
                                    refine a_aload_n C dX12_count_233 (i := 0) rfl rfl ?_
                                    refine a_aload_n C dX12_count_234 (i := 0) rfl rfl ?_
                                    refine a_iconst C dX12_count_235 (v := 2) rfl ?_
                                    refine p_callVi C (As := [.int 2]) (i := 236) kd_236 (hid 236 (by decide)) ⟨_, _, rfl⟩ (by decide) h (fun _ _ e => Z_X12_thingsSo hid e) mi_X12_thingsSo ml_RX12_350 rfl rfl (Nat.le_of_ble_eq_true rfl) (Nat.le_of_ble_eq_true rfl) (Nat.le_of_ble_eq_true rfl) dX12_count_236 (fun r14 σ13 h => ?_)
                                    refine p_callVi C (As := [.int r14]) (i := 236) kd_236 (hid 236 (by decide)) ⟨_, _, rfl⟩ (by decide) h (fun _ _ e => Z_X12_weightsOf hid e) mi_X12_weightsOf ml_RX12_461 rfl rfl (Nat.le_of_ble_eq_true rfl) (Nat.le_of_ble_eq_true rfl) (Nat.le_of_ble_eq_true rfl) dX12_count_239 (fun r16 σ15 h => ?_)
                                    exact a_iret Rt dX12_count_242 rfl (ret_eq (h.trans (congrArg some hR.symm)))
                                  ·
                                    refine ite_k h (fun c18 h => ?_) (fun c18 h => ?_)
                                    ·
                                      refine a_tableIn C dX12_count_5 (by omega) (by omega) (by rw [c18]; rfl) (tgt := 243) rfl ?_
                                      refine a_aload_n C dX12_count_243 (i := 0) rfl rfl ?_
                                      refine a_iconst C dX12_count_244 (v := 1) rfl ?_
                                      refine p_callVi C (As := [.int 1]) (i := 236) kd_236 (hid 236 (by decide)) ⟨_, _, rfl⟩ (by decide) h (fun _ _ e => Z_X12_thingsSo hid e) mi_X12_thingsSo ml_RX12_350 rfl rfl (Nat.le_of_ble_eq_true rfl) (Nat.le_of_ble_eq_true rfl) (Nat.le_of_ble_eq_true rfl) dX12_count_245 (fun r18 σ17 h => ?_)
                                      exact a_iret Rt dX12_count_248 rfl (ret_eq (h.trans (congrArg some hR.symm)))
                                    ·
                                      refine a_tableOut C dX12_count_5 (by omega) (tgt := 249) rfl ?_
                                      refine a_iconst C dX12_count_249 (v := (-1)) rfl ?_
                                      exact a_iret Rt dX12_count_250 rfl (ret_eq (h.trans (congrArg some hR.symm)))

/-! the tapes' bytes -/
theorem t255 {i : Nat} (h : ¬ i < 8) : (255#32).getLsbD i = false := by
  rw [BitVec.getLsbD_ofNat]
  have : Nat.testBit 255 i = false := Nat.testBit_lt_two_pow (Nat.lt_of_lt_of_le (by decide : 255 < 2 ^ 8) (Nat.pow_le_pow_right (by decide) (by omega)))
  rw [this]
  simp
theorem nb_255 (x : Int32) : (x.toInt8.toInt32) &&& 255 = x &&& 255 := Int32.toBitVec_inj.mp (by
  show (x.toInt8.toInt32).toBitVec &&& 255#32 = x.toBitVec &&& 255#32
  rw [Int8.toBitVec_toInt32, Int32.toBitVec_toInt8]
  apply BitVec.eq_of_getLsbD_eq
  intro i hi
  rw [BitVec.getLsbD_and, BitVec.getLsbD_and]
  by_cases h : i < 8
  · rw [BitVec.getLsbD_signExtend, BitVec.getLsbD_signExtend, if_pos h, if_pos hi, decide_eq_true hi, decide_eq_true h]
    rfl
  · rw [t255 h]; simp)
theorem nar_255 (x : Int32) : (vp_nar .byte x) &&& 255 = x &&& 255 := nb_255 x
def gC1 (x y : Int32) : Int32 := ((x.toUInt32 >>> (y.toUInt32 &&& Int32.toUInt32 31)).toInt32) &&& 255
def gR1 (x y : Int32) : Int32 := vp_nar .byte ((x >>> (y &&& 31)).toInt8.toInt32)
theorem sh_b2 (x : BitVec 32) (s : Nat) (hs : s ≤ 24) : (x >>> s) &&& 255#32 = (x.sshiftRight s) &&& 255#32 := by
  apply BitVec.eq_of_getLsbD_eq
  intro i hi
  rw [BitVec.getLsbD_and, BitVec.getLsbD_and]
  by_cases h : i < 8
  · rw [BitVec.getLsbD_ushiftRight, BitVec.getLsbD_sshiftRight]
    simp [show s + i < 32 by omega, show ¬ 32 ≤ i by omega]
  · rw [t255 h]; simp
theorem g_alike (x y : Int32) (h : y = 24 ∨ y = 16 ∨ y = 8 ∨ y = 0) : gC1 x y = (vp_nar .byte (gR1 x y)) &&& 255 := by
  unfold gC1 gR1
  rw [nar_255, nar_255, nb_255]
  rcases h with rfl | rfl | rfl | rfl
  · exact Int32.toBitVec_inj.mp (sh_b2 x.toBitVec 24 (by decide))
  · exact Int32.toBitVec_inj.mp (sh_b2 x.toBitVec 16 (by decide))
  · exact Int32.toBitVec_inj.mp (sh_b2 x.toBitVec 8 (by decide))
  · exact Int32.toBitVec_inj.mp (sh_b2 x.toBitVec 0 (by decide))
section BYS
variable {σ s : HS}
def yq (q : Nat) : Int32 := if q = 0 then 24 else if q = 1 then 16 else if q = 2 then 8 else 0
theorem ap_c {N m : Nat} {x y : Int32} (h : σ.1 2 1 = nI m) (hm : m < 2000) (hy : ¬ y.toInt < 0) : f_X9_append_3 (N + 1) x y σ = f_X9_append_3 N x (y + -8) (hI (hI σ 3 m (gC1 x y)) 2 1 (nI (m + 1))) := by
  show b_X9_append_3 (f_X9_append_3 N) x y σ = _
  unfold b_X9_append_3 f_X9_append_43
  rw [if_neg hy, h, nIt (by omega), if_pos (by omega), if_pos (by omega), Int.toNat_natCast]
  simp only [Bd]
  rw [rI_i (show (2 : Nat) ≠ 3 by decide), h, nI_1]; rfl
theorem ap_m {N m : Nat} {x y : Int32} (h : σ.1 236 2 = nI m) (hm : m < 2000) (hy : ¬ y.toInt < 0) : f_X12_put_3 (N + 1) x y σ = f_X12_put_3 N x (y + -8) (hI (hI σ 237 m (gR1 x y)) 236 2 (nI (m + 1))) := by
  show b_X12_put_3 (f_X12_put_3 N) x y σ = _
  unfold b_X12_put_3
  rw [if_neg hy, h, nIt (by omega), if_pos (by omega), Int.toNat_natCast]
  simp only [Bd]
  rw [rI_i (show (236 : Nat) ≠ 237 by decide), h, nI_1]; rfl
/-- the array i with the word's four bytes from m on, the size at z k -/
def put4 (g : Int32 → Int32 → Int32) (i z k m : Nat) (x : Int32) (σ : HS) : HS := hI (hI (hI (hI (hI (hI (hI (hI σ i m (g x 24)) z k (nI (m + 1))) i (m + 1) (g x 16)) z k (nI (m + 1 + 1))) i (m + 1 + 1) (g x 8)) z k (nI (m + 1 + 1 + 1))) i (m + 1 + 1 + 1) (g x 0)) z k (nI (m + 1 + 1 + 1 + 1))
theorem e_append {m : Nat} {x : Int32} (h : σ.1 2 1 = nI m) (hm : m + 4 ≤ 2000) : f_X9_append x σ = some (put4 gC1 3 2 1 m x σ) := by
  show f_X9_append_3 (4999 + 1) x 24 σ = _
  rw [ap_c h (by omega) (by decide), show (24 : Int32) + -8 = 16 from rfl]
  show f_X9_append_3 (4998 + 1) x 16 _ = _
  rw [ap_c (m := m + 1) rI_s (by omega) (by decide), show (16 : Int32) + -8 = 8 from rfl]
  show f_X9_append_3 (4997 + 1) x 8 _ = _
  rw [ap_c (m := m + 1 + 1) rI_s (by omega) (by decide), show (8 : Int32) + -8 = 0 from rfl]
  show f_X9_append_3 (4996 + 1) x 0 _ = _
  rw [ap_c (m := m + 1 + 1 + 1) rI_s (by omega) (by decide)]
  show b_X9_append_3 (f_X9_append_3 4995) x (0 + -8) _ = _
  unfold b_X9_append_3
  rw [if_pos (by decide)]; rfl
theorem e_put {m : Nat} {x : Int32} (h : σ.1 236 2 = nI m) (hm : m + 4 ≤ 2000) : f_X12_put x σ = some (put4 gR1 237 236 2 m x σ) := by
  show f_X12_put_3 (4999 + 1) x 24 σ = _
  rw [ap_m h (by omega) (by decide), show (24 : Int32) + -8 = 16 from rfl]
  show f_X12_put_3 (4998 + 1) x 16 _ = _
  rw [ap_m (m := m + 1) rI_s (by omega) (by decide), show (16 : Int32) + -8 = 8 from rfl]
  show f_X12_put_3 (4997 + 1) x 8 _ = _
  rw [ap_m (m := m + 1 + 1) rI_s (by omega) (by decide), show (8 : Int32) + -8 = 0 from rfl]
  show f_X12_put_3 (4996 + 1) x 0 _ = _
  rw [ap_m (m := m + 1 + 1 + 1) rI_s (by omega) (by decide)]
  show b_X12_put_3 (f_X12_put_3 4995) x (0 + -8) _ = _
  unfold b_X12_put_3
  rw [if_pos (by decide)]; rfl
/-- the tapes alike -/
def BYT (σ : HS) : Prop := ∃ m : Nat, m ≤ 2000 ∧ σ.1 2 1 = nI m ∧ σ.1 236 2 = nI m ∧ ∀ i, i < m → σ.1 3 i = (vp_nar .byte (σ.1 237 i)) &&& 255
def wFdC (a k : Nat) : Bool := a == 3 || (a == 2 && k == 1)
def wFdM (a k : Nat) : Bool := a == 237 || (a == 236 && k == 2)
theorem put4_at {g : Int32 → Int32 → Int32} {i z k m q : Nat} {x : Int32} (hi : i ≠ z) (hq : q < 4) : (put4 g i z k m x σ).1 i (m + q) = g x (yq q) := by
  unfold put4
  rw [rI_i hi]
  rcases (show q = 0 ∨ q = 1 ∨ q = 2 ∨ q = 3 by omega) with rfl | rfl | rfl | rfl
  · rw [rI_k (by omega), rI_i hi, rI_k (by omega), rI_i hi, rI_k (by omega), rI_i hi, Nat.add_zero, rI_s]; rfl
  · rw [rI_k (by omega), rI_i hi, rI_k (by omega), rI_i hi, rI_s]; rfl
  · rw [rI_k (by omega), rI_i hi, show m + 2 = m + 1 + 1 from rfl, rI_s]; rfl
  · rw [show m + 3 = m + 1 + 1 + 1 from rfl, rI_s]; rfl
theorem put4_lo {g : Int32 → Int32 → Int32} {i z k m q : Nat} {x : Int32} (hi : i ≠ z) (hq : q < m) : (put4 g i z k m x σ).1 i q = σ.1 i q := by
  unfold put4
  rw [rI_i hi, rI_k (by omega), rI_i hi, rI_k (by omega), rI_i hi, rI_k (by omega), rI_i hi, rI_k (by omega)]
theorem put4_z {g : Int32 → Int32 → Int32} {i z k m : Nat} {x : Int32} : (put4 g i z k m x σ).1 z k = nI (m + 4) := rI_s
theorem put4_fr {g : Int32 → Int32 → Int32} {i z k m : Nat} {x : Int32} {w : Nat → Nat → Bool} (h1 : ∀ j, w i j = true) (h2 : w z k = true) : frm w wl0 σ (put4 g i z k m x σ) := (((((((frm.rf.I (h1 _)).I h2).I (h1 _)).I h2).I (h1 _)).I h2).I (h1 _)).I h2
/-- five words behind one another -/
def put20 (g : Int32 → Int32 → Int32) (i z k m : Nat) (x1 x2 x3 x4 x5 : Int32) (σ : HS) : HS := put4 g i z k (m + 4 + 4 + 4 + 4) x5 (put4 g i z k (m + 4 + 4 + 4) x4 (put4 g i z k (m + 4 + 4) x3 (put4 g i z k (m + 4) x2 (put4 g i z k m x1 σ))))
theorem put20_fr {g : Int32 → Int32 → Int32} {i z k m : Nat} {x1 x2 x3 x4 x5 : Int32} {w : Nat → Nat → Bool} (h1 : ∀ j, w i j = true) (h2 : w z k = true) : frm w wl0 σ (put20 g i z k m x1 x2 x3 x4 x5 σ) := ((((put4_fr h1 h2).tr (put4_fr h1 h2)).tr (put4_fr h1 h2)).tr (put4_fr h1 h2)).tr (put4_fr h1 h2)
theorem put20_z {g : Int32 → Int32 → Int32} {i z k m : Nat} {x1 x2 x3 x4 x5 : Int32} : (put20 g i z k m x1 x2 x3 x4 x5 σ).1 z k = nI (m + 20) := rI_s
def xw (x1 x2 x3 x4 x5 : Int32) (q : Nat) : Int32 := if q < 4 then x1 else if q < 8 then x2 else if q < 12 then x3 else if q < 16 then x4 else x5
theorem put20_at {g : Int32 → Int32 → Int32} {i z k m q : Nat} {x1 x2 x3 x4 x5 : Int32} (hi : i ≠ z) (hq : q < 20) : (put20 g i z k m x1 x2 x3 x4 x5 σ).1 i (m + q) = g (xw x1 x2 x3 x4 x5 q) (yq (q % 4)) := by
  unfold put20 xw
  by_cases c1 : q < 4
  · rw [if_pos c1, put4_lo hi (by omega), put4_lo hi (by omega), put4_lo hi (by omega), put4_lo hi (by omega), put4_at hi c1, Nat.mod_eq_of_lt c1]
  rw [if_neg c1]
  by_cases c2 : q < 8
  · rw [if_pos c2, put4_lo hi (by omega), put4_lo hi (by omega), put4_lo hi (by omega), show m + q = m + 4 + (q - 4) by omega, put4_at hi (by omega), show q % 4 = q - 4 by omega]
  rw [if_neg c2]
  by_cases c3 : q < 12
  · rw [if_pos c3, put4_lo hi (by omega), put4_lo hi (by omega), show m + q = m + 4 + 4 + (q - 8) by omega, put4_at hi (by omega), show q % 4 = q - 8 by omega]
  rw [if_neg c3]
  by_cases c4 : q < 16
  · rw [if_pos c4, put4_lo hi (by omega), show m + q = m + 4 + 4 + 4 + (q - 12) by omega, put4_at hi (by omega), show q % 4 = q - 12 by omega]
  · rw [if_neg c4, show m + q = m + 4 + 4 + 4 + 4 + (q - 16) by omega, put4_at hi (by omega), show q % 4 = q - 16 by omega]
theorem put20_lo {g : Int32 → Int32 → Int32} {i z k m q : Nat} {x1 x2 x3 x4 x5 : Int32} (hi : i ≠ z) (hq : q < m) : (put20 g i z k m x1 x2 x3 x4 x5 σ).1 i q = σ.1 i q := by
  unfold put20
  rw [put4_lo hi (by omega), put4_lo hi (by omega), put4_lo hi (by omega), put4_lo hi (by omega), put4_lo hi (by omega)]
theorem e_feed_c {m : Nat} {x1 x2 x3 x4 x5 : Int32} (h : σ.1 2 1 = nI m) (hm : m ≤ 2000) : f_X11_feed x1 x2 x3 x4 x5 σ = if 2000 < m + 20 then some (-1, σ) else some (nI (m + 20), put20 gC1 3 2 1 m x1 x2 x3 x4 x5 σ) := by
  unfold f_X11_feed
  rw [h, show (20 : Int32) = nI 20 from rfl, nI_add, nIt (by omega)]
  by_cases c : 2000 < m + 20
  · rw [if_pos (by omega), if_pos c]
  · rw [if_neg (by omega), if_neg c, e_append h (by omega)]
    simp only [Cv]
    rw [e_append (m := m + 4) put4_z (by omega)]
    simp only
    rw [e_append (m := m + 4 + 4) put4_z (by omega)]
    simp only
    rw [e_append (m := m + 4 + 4 + 4) put4_z (by omega)]
    simp only
    rw [e_append (m := m + 4 + 4 + 4 + 4) put4_z (by omega)]
    simp only
    rw [put4_z]; rfl
theorem e_feed_m {m : Nat} {x1 x2 x3 x4 x5 : Int32} (h : σ.1 236 2 = nI m) (hm : m ≤ 2000) : f_X12_feed x1 x2 x3 x4 x5 σ = if 2000 < m + 20 then some (-1, σ) else some (nI (m + 20), put20 gR1 237 236 2 m x1 x2 x3 x4 x5 σ) := by
  unfold f_X12_feed
  rw [h, show (20 : Int32) = nI 20 from rfl, nI_add, nIt (by omega)]
  by_cases c : 2000 < m + 20
  · rw [if_pos (by omega), if_pos c]
  · rw [if_neg (by omega), if_neg c, e_put h (by omega)]
    simp only [Cv]
    rw [e_put (m := m + 4) put4_z (by omega)]
    simp only
    rw [e_put (m := m + 4 + 4) put4_z (by omega)]
    simp only
    rw [e_put (m := m + 4 + 4 + 4) put4_z (by omega)]
    simp only
    rw [e_put (m := m + 4 + 4 + 4 + 4) put4_z (by omega)]
    simp only
    rw [put4_z]; rfl
/-- the class's feed, then the reference's: the answers are alike, and the tapes -/
theorem BYT.feed {x1 x2 x3 x4 x5 : Int32} (h : BYT σ) : ∃ r s s2, f_X11_feed x1 x2 x3 x4 x5 σ = some (r, s) ∧ f_X12_feed x1 x2 x3 x4 x5 s = some (r, s2) ∧ BYT s2 ∧ frm wFdC wl0 σ s ∧ frm wFdM wl0 s s2 := by
  obtain ⟨m, hm, h1, h2, hb⟩ := h
  by_cases c : 2000 < m + 20
  · refine ⟨-1, σ, σ, ?_, ?_, ⟨m, hm, h1, h2, hb⟩, frm.rf, frm.rf⟩
    · rw [e_feed_c h1 hm, if_pos c]
    · rw [e_feed_m h2 hm, if_pos c]
  · have f1 : frm wFdC wl0 σ (put20 gC1 3 2 1 m x1 x2 x3 x4 x5 σ) := put20_fr (fun _ => rfl) rfl
    have e2 : (put20 gC1 3 2 1 m x1 x2 x3 x4 x5 σ).1 236 2 = nI m := by rw [f1.1 236 2 rfl]; exact h2
    have f2 : frm wFdM wl0 (put20 gC1 3 2 1 m x1 x2 x3 x4 x5 σ) (put20 gR1 237 236 2 m x1 x2 x3 x4 x5 (put20 gC1 3 2 1 m x1 x2 x3 x4 x5 σ)) := put20_fr (fun _ => rfl) rfl
    refine ⟨nI (m + 20), _, _, by rw [e_feed_c h1 hm, if_neg c], by rw [e_feed_m e2 hm, if_neg c], ⟨m + 20, by omega, ?_, put20_z, fun i hi => ?_⟩, f1, f2⟩
    · rw [f2.1 2 1 rfl]; exact put20_z
    · rw [f2.1 3 i rfl]
      by_cases c2 : i < m
      · rw [put20_lo (by decide) c2, put20_lo (by decide) c2, f1.1 237 i rfl]; exact hb i c2
      · obtain ⟨q, rfl⟩ : ∃ q, i = m + q := ⟨i - m, by omega⟩
        rw [put20_at (by decide) (by omega), put20_at (by decide) (by omega)]
        refine g_alike _ _ ?_
        rcases (show q % 4 = 0 ∨ q % 4 = 1 ∨ q % 4 = 2 ∨ q % 4 = 3 by omega) with e | e | e | e <;> rw [e] <;> decide
theorem BYT.fr {w : Nat → Nat → Bool} {wl : Nat → Bool} (h : BYT σ) (hf : frm w wl σ s) (h1 : w 2 1 = false) (h2 : w 236 2 = false) (h3 : ∀ i, w 3 i = false) (h4 : ∀ i, w 237 i = false) : BYT s := by
  obtain ⟨m, hm, a1, a2, hb⟩ := h
  exact ⟨m, hm, by rw [hf.1 _ _ h1]; exact a1, by rw [hf.1 _ _ h2]; exact a2, fun i hi => by rw [hf.1 _ _ (h3 i), hf.1 _ _ (h4 i)]; exact hb i hi⟩
theorem BYT.back {x : Int32} (h : BYT σ) : ∃ r s s2, f_X11_back x σ = some (r, s) ∧ f_X12_back x s = some (r, s2) ∧ BYT s2 ∧ frm wFdC wl0 σ s ∧ frm wFdM wl0 s s2 := by
  have h0 := h
  obtain ⟨m, hm, h1, h2, hb⟩ := h
  unfold f_X11_back f_X12_back
  rw [h1, nIt (by omega)]
  by_cases c1 : x.toInt < 0
  · exact ⟨-1, σ, σ, by rw [if_pos c1], by rw [if_pos c1], h0, frm.rf, frm.rf⟩
  · by_cases c2 : (m : Int) < x.toInt
    · exact ⟨-1, σ, σ, by rw [if_neg c1, if_pos c2], by rw [if_neg c1, h2, nIt (by omega), if_pos c2], h0, frm.rf, frm.rf⟩
    · obtain ⟨k, rfl, hk⟩ : ∃ k : Nat, x = nI k ∧ k ≤ m := ⟨x.toInt.toNat, Int32.toInt_inj.mp (by rw [nIt (by omega)]; omega), by omega⟩
      refine ⟨nI (m - k), hI σ 2 1 (nI (m - k)), hI (hI σ 2 1 (nI (m - k))) 236 2 (nI (m - k)), ?_, ?_, ⟨m - k, by omega, ?_, rI_s, fun i hi => ?_⟩, frm.rf.I rfl, frm.rf.I rfl⟩
      · rw [if_neg c1, if_neg c2]
        simp only [Bd]
        rw [rI_s, nI_sub hk (by omega)]
      · rw [if_neg c1, rI_i (show (236 : Nat) ≠ 2 by decide), h2, nIt (by omega), if_neg c2]
        simp only [Bd]
        rw [rI_s, nI_sub hk (by omega)]
      · rw [rI_i (by decide), rI_s]
      · rw [rI_i (by decide), rI_i (by decide), rI_i (by decide), rI_i (by decide)]; exact hb i (by omega)
end BYS
/-! the class begins anew -/
section CBG
variable {σ s : HS}
theorem w_fill {p N : Nat} {v : Int32} (hN : (Int32.ofNat (al p)).toInt = N) (hN2 : (al p : Int) = N) (h1 : N ≤ 1000) : Okv (f_J7_fill_53178 p v σ) (fun s => frm (fun a _ => a == p) wl0 σ s ∧ ∀ i, i < N → s.1 p i = v) := by
  unfold f_J7_fill_53178
  refine Okv.bd ?_
  have loop : ∀ (d k M : Nat) (s : HS), k + d = N → d < M → frm (fun a _ => a == p) wl0 σ s → (∀ i, i < k → s.1 p i = v) → Okv (f_J7_fill_53178_5 p M v (nI k) (Int32.ofNat (al p)) s) (fun s => frm (fun a _ => a == p) wl0 σ s ∧ ∀ i, i < N → s.1 p i = v) := by
    intro d
    induction d with
    | zero =>
      intro k M s hk hM hf hz
      obtain ⟨M, rfl⟩ : ∃ q, M = q + 1 := ⟨M - 1, by omega⟩
      show Okv (b_J7_fill_53178_5 p (f_J7_fill_53178_5 p M) v (nI k) (Int32.ofNat (al p)) s) _
      unfold b_J7_fill_53178_5
      rw [nIt (by omega), hN]
      exact Okv.f (by omega) (Okv.ret ⟨hf, fun i hi => hz i (by omega)⟩)
    | succ d ih =>
      intro k M s hk hM hf hz
      obtain ⟨M, rfl⟩ : ∃ q, M = q + 1 := ⟨M - 1, by omega⟩
      show Okv (b_J7_fill_53178_5 p (f_J7_fill_53178_5 p M) v (nI k) (Int32.ofNat (al p)) s) _
      unfold b_J7_fill_53178_5
      rw [nIt (by omega), hN, hN2, Int.toNat_natCast]
      refine Okv.t (by omega) (Okv.t (by omega) (Okv.bd (Okv.bd ?_)))
      rw [nI_1]
      refine ih (k + 1) M _ (by omega) (by omega) (hf.I (by simp)) (fun i hi => ?_)
      by_cases c : i = k
      · rw [c, rI_s]
      · rw [rI_k c]; exact hz i (by omega)
  rw [nI0]
  exact loop N 0 5000 σ (by omega) (by omega) frm.rf (fun i hi => absurd hi (by omega))
def wAir (a _k : Nat) : Bool := a == 56 || a == 57 || a == 58 || a == 59
/-- the row that the class begins a text with -/
def ARc (tx : Nat) (s : HS) : Prop := s.1 56 0 = s.1 tx 0 ∧ (∀ i, i < 7 → s.1 57 i = 0 ∧ s.1 58 i = s.1 (tx + 3) i ∧ s.1 59 i = 0) ∧ (∀ k, 4 ≤ k → k ≤ 8 → s.1 56 k = 0) ∧ s.1 56 9 = (if 0 < (s.1 tx 4).toInt then 0 else -1) ∧ s.1 56 10 = 0 ∧ s.1 56 11 = -1
theorem w_airBegin {tx : Nat} (htx : txk tx) : Okv (f_X0_begin 56 tx σ) (fun s => frm wAir wl0 σ s ∧ ARc tx s) := by
  have lo := htx.lo
  have hi : tx + 12 < 56 := by rcases htx with rfl | rfl <;> decide
  unfold f_X0_begin
  refine Okv.bd ?_
  generalize hs1 : hI σ 56 0 (σ.1 tx 0) = s1
  have f1 : frm wAir wl0 σ s1 := by rw [← hs1]; exact frm.rf.I rfl
  refine Okv.cv (w_fill (p := 57) (N := 7) (v := 0) rfl rfl (by decide)) (fun s2 h2 => ?_)
  obtain ⟨f2, z2⟩ := h2
  refine Okv.cv (w_fill (p := 59) (N := 7) (v := 0) rfl rfl (by decide)) (fun s4 h4 => ?_)
  obtain ⟨f4, z4⟩ := h4
  have F4 : frm wAir wl0 σ s4 := (f1.tr (f2.mono (fun a k e => by unfold wAir at e; simp only [Bool.or_eq_false_iff] at e; exact e.1.1.2) (fun _ e => e))).tr (f4.mono (fun a k e => by unfold wAir at e; simp only [Bool.or_eq_false_iff] at e; exact e.2) (fun _ e => e))
  refine Okv.t (by decide) (Okv.bd (Okv.bd (Okv.bd (Okv.bd (Okv.bd (Okv.bd ?_))))))
  generalize hs6 : hA s4 (56 + 2) (va_cpy (s4.1 (tx + 3)) (s4.1 (56 + 2)) (0 : Int).toNat (0 : Int).toNat (7 : Int).toNat) = s6
  have F6 : frm wAir wl0 σ s6 := by rw [← hs6]; exact F4.A (fun _ => rfl)
  generalize hs11 : hI (hI (hI (hI (hI s6 56 4 0) 56 5 0) 56 6 0) 56 7 0) 56 8 0 = s11
  have F11 : frm wAir wl0 σ s11 := by rw [← hs11]; exact ((((F6.I rfl).I rfl).I rfl).I rfl).I rfl
  have o11 : ∀ a k, a ≠ 56 → s11.1 a k = s6.1 a k := fun a k ha => by rw [← hs11, rI_i ha, rI_i ha, rI_i ha, rI_i ha, rI_i ha]
  have wt : ∀ k j, k ≤ 12 → wAir (tx + k) j = false := fun k j hk => by unfold wAir; simp; omega
  have et : ∀ {s' : HS} (k j : Nat), k ≤ 12 → frm wAir wl0 σ s' → s'.1 (tx + k) j = σ.1 (tx + k) j := fun k j hk hf => hf.1 _ _ (wt k j hk)
  have fin : ∀ v : Int32, v = (if 0 < (s11.1 tx 4).toInt then 0 else -1) → Okv (f_X0_begin_77 56 tx v s11) (fun s => frm wAir wl0 σ s ∧ ARc tx s) := by
    intro v hv
    unfold f_X0_begin_77
    refine Okv.bd (Okv.bd (Okv.bd (Okv.ret ⟨((F11.I rfl).I rfl).I rfl, ?_, fun i hi => ⟨?_, ?_, ?_⟩, fun k h4 h8 => ?_, ?_, ?_, ?_⟩)))
    · rw [rI_k (by decide), rI_k (by decide), rI_k (by decide), rI_i (by omega), rI_i (by omega), rI_i (by omega), ← hs11, rI_k (by decide), rI_k (by decide), rI_k (by decide), rI_k (by decide), rI_k (by decide), rI_i (a := tx) (by omega), rI_i (a := tx) (by omega), rI_i (a := tx) (by omega), rI_i (a := tx) (by omega), rI_i (a := tx) (by omega), F6.1 tx 0 (wt 0 0 (by omega)), ← hs6, rA_i (by decide), f4.1 56 0 rfl, f2.1 56 0 rfl, ← hs1, rI_s]
    · rw [rI_i (by decide), rI_i (by decide), rI_i (by decide), o11 _ _ (by decide), ← hs6, rA_i (by decide), f4.1 57 i rfl, z2 i hi]
    · rw [rI_i (by decide), rI_i (by decide), rI_i (by decide), o11 _ _ (by decide), rI_i (by omega), rI_i (by omega), rI_i (by omega), o11 _ _ (by omega), ← hs6, rA_i (a := tx + 3) (by omega)]
      refine (rA_s (i := 58)).trans ?_
      show (if 0 ≤ i ∧ i < 0 + 7 then s4.1 (tx + 3) (0 + (i - 0)) else _) = _
      rw [if_pos (by omega), show 0 + (i - 0) = i by omega]
    · rw [rI_i (by decide), rI_i (by decide), rI_i (by decide), o11 _ _ (by decide), ← hs6, rA_i (by decide), z4 i hi]
    · rw [rI_k (by omega), rI_k (by omega), rI_k (by omega), ← hs11]
      rcases (show k = 4 ∨ k = 5 ∨ k = 6 ∨ k = 7 ∨ k = 8 by omega) with rfl | rfl | rfl | rfl | rfl
      · rw [rI_k (by decide), rI_k (by decide), rI_k (by decide), rI_k (by decide), rI_s]
      · rw [rI_k (by decide), rI_k (by decide), rI_k (by decide), rI_s]
      · rw [rI_k (by decide), rI_k (by decide), rI_s]
      · rw [rI_k (by decide), rI_s]
      · rw [rI_s]
    · rw [rI_k (by decide), rI_k (by decide), rI_s, rI_i (by omega), rI_i (by omega), rI_i (by omega)]; exact hv
    · rw [rI_k (by decide), rI_s]
    · rw [rI_s]
  exact Okv.i (fun c => fin 0 (by rw [if_pos c])) (fun c => fin (-1) (by rw [if_neg c]))
def wBA (a k : Nat) : Bool := wAir a k || (a == 12 && k == 2) || (a == 14 && k == 2) || a == 26
/-- the class has begun anew -/
def ACc (tx : Nat) (s : HS) : Prop := ARc tx s ∧ s.1 12 2 = 0 ∧ s.1 14 2 = 0 ∧ ∀ i, i < 3 → s.1 26 i = 0
theorem w_r26 : ∀ (d k N : Nat) (s : HS), k + d = 3 → d < N → frm (fun a _ => a == 26) wl0 σ s → (∀ i, i < k → s.1 26 i = 0) → Okv (f_X11_beginAnew_46 N (nI k) s) (fun s1 => frm (fun a _ => a == 26) wl0 σ s1 ∧ ∀ i, i < 3 → s1.1 26 i = 0) := by
  intro d
  induction d with
  | zero =>
    intro k N s hk hN hf hz
    obtain ⟨N, rfl⟩ : ∃ q, N = q + 1 := ⟨N - 1, by omega⟩
    show Okv (b_X11_beginAnew_46 (f_X11_beginAnew_46 N) (nI k) s) _
    unfold b_X11_beginAnew_46
    rw [nIt (by omega)]
    exact Okv.f (by omega) (Okv.ret ⟨hf, fun i hi => hz i (by omega)⟩)
  | succ d ih =>
    intro k N s hk hN hf hz
    obtain ⟨N, rfl⟩ : ∃ q, N = q + 1 := ⟨N - 1, by omega⟩
    show Okv (b_X11_beginAnew_46 (f_X11_beginAnew_46 N) (nI k) s) _
    unfold b_X11_beginAnew_46
    rw [nIt (by omega), Int.toNat_natCast]
    refine Okv.t (by omega) (Okv.t (by omega) (Okv.bd (Okv.bd ?_)))
    rw [nI_1]
    refine ih (k + 1) N _ (by omega) (by omega) (hf.I rfl) (fun i hi => ?_)
    by_cases c : i = k
    · rw [c, rI_s]
    · rw [rI_k c]; exact hz i (by omega)
/-- which text is in force (t), which is spare (u) -/
def TXr (t u : Nat) (s : HS) : Prop := s.2.2 0 = t ∧ s.2.2 1 = u
theorem w_beginAnew {t u : Nat} (ht : txk t) (hu : txk u) (h : TXr t u σ) : Okv (f_X11_beginAnew σ) (fun s => TXr u t s ∧ (∀ j, j ≠ 0 → j ≠ 1 → s.2.2 j = σ.2.2 j) ∧ s.2.1 = σ.2.1 ∧ (∀ a k, wBA a k = false → s.1 a k = σ.1 a k) ∧ ACc u s) := by
  have hi : u + 12 < 56 := by rcases hu with rfl | rfl <;> decide
  have lo := hu.lo
  unfold f_X11_beginAnew
  rw [h.1, h.2]
  refine Okv.t hu (Okv.t ht (Okv.bd (Okv.bd ?_)))
  generalize hs4 : hR (hR σ 1 t) 0 u = s4
  have e0 : s4.2.2 0 = u := by rw [← hs4, rR_s]
  have e1 : s4.2.2 1 = t := by rw [← hs4, rR_k (by decide), rR_s]
  have ej : ∀ j, j ≠ 0 → j ≠ 1 → s4.2.2 j = σ.2.2 j := fun j h0 h1 => by rw [← hs4, rR_k h0, rR_k h1]
  have ei : s4.1 = σ.1 := by rw [← hs4]; rfl
  have el : s4.2.1 = σ.2.1 := by rw [← hs4]; rfl
  rw [e0]
  refine Okv.t hu (Okv.cv (w_airBegin (σ := s4) hu) (fun s6 h6 => ?_))
  obtain ⟨f6, a6⟩ := h6
  unfold f_X5_clear
  refine Okv.cv (P := fun s => s = hI s6 12 2 0) (Okv.bd (Okv.ret rfl)) (fun s8 h8 => ?_)
  subst h8
  refine Okv.bd ?_
  generalize hs10 : hI (hI s6 12 2 0) 14 2 0 = s10
  rw [nI0]
  refine (w_r26 (σ := s10) 3 0 5000 s10 (by omega) (by omega) frm.rf (fun i hi => absurd hi (by omega))).mono (fun s hs => ?_)
  obtain ⟨f, z⟩ := hs
  have all : ∀ a k, a ≠ 26 → (a ≠ 12 ∨ k ≠ 2) → (a ≠ 14 ∨ k ≠ 2) → s.1 a k = s6.1 a k := fun a k h1 h2 h3 => by
    rw [f.1 a k (by simpa using h1), ← hs10]
    have x1 : (hI (hI s6 12 2 0) 14 2 0).1 a k = (hI s6 12 2 0).1 a k := by
      by_cases c : a = 14
      · subst c; rw [rI_k (by omega)]
      · rw [rI_i c]
    rw [x1]
    by_cases c : a = 12
    · subst c; rw [rI_k (by omega)]
    · rw [rI_i c]
  have r2 : s.2.2 = s4.2.2 := by rw [f.2.2, ← hs10]; show s6.2.2 = _; exact f6.2.2
  refine ⟨⟨by rw [r2]; exact e0, by rw [r2]; exact e1⟩, fun j h0 h1 => by rw [r2]; exact ej j h0 h1, ?_, fun a k e => ?_, ?_, ?_, ?_, z⟩
  · rw [← el]
    refine funext fun a => ?_
    rw [f.2.1 a rfl, ← hs10]
    show s6.2.1 a = _
    exact f6.2.1 a rfl
  · unfold wBA at e
    simp only [Bool.or_eq_false_iff, Bool.and_eq_false_iff, beq_eq_false_iff_ne, ne_eq] at e
    rw [all a k e.2 e.1.1.2 e.1.2, f6.1 a k e.1.1.1, ei]
  · obtain ⟨b1, b2, b3, b4, b5, b6⟩ := a6
    unfold ARc
    rw [all 56 0 (by decide) (by decide) (by decide), all u 0 (by omega) (by omega) (by omega), all u 4 (by omega) (by omega) (by omega), all 56 9 (by decide) (by decide) (by decide), all 56 10 (by decide) (by decide) (by decide), all 56 11 (by decide) (by decide) (by decide)]
    refine ⟨b1, fun i hi => ?_, fun k h4 h8 => ?_, b4, b5, b6⟩
    · rw [all 57 i (by decide) (Or.inl (by decide)) (Or.inl (by decide)), all 58 i (by decide) (Or.inl (by decide)) (Or.inl (by decide)), all 59 i (by decide) (Or.inl (by decide)) (Or.inl (by decide)), all (u + 3) i (by omega) (by omega) (by omega)]; exact b2 i hi
    · rw [all 56 k (by decide) (Or.inl (by decide)) (Or.inl (by decide))]; exact b3 k h4 h8
  · rw [f.1 12 2 rfl, ← hs10, rI_i (by decide), rI_s]
  · rw [f.1 14 2 rfl, ← hs10, rI_s]
end CBG
/-! both sides' read -/
section BRD
variable {σ s : HS}
def wRc (u a k : Nat) : Bool := wP u a k || wCut a k || (a == 2 && k == 1)
def wlRc (a : Nat) : Bool := wlP a || wlCut a
/-- what the class's read leaves -/
def CRD (t u : Nat) (σ0 : HS) (x : Except FA PST) (r : Int32) (s : HS) : Prop := s.1 2 1 = 0 ∧ r.toInt = (resS x).1 ∧ (s.1 1 1).toInt = (resS x).2 ∧ (∀ a, wlRc a = false → s.2.1 a = σ0.2.1 a) ∧ (∀ a k, (wRc u a k || wBA a k) = false → s.1 a k = σ0.1 a k) ∧ (r.toInt ≠ 0 → frm (wRc u) wlRc σ0 s) ∧ (r.toInt = 0 → TXr u t s ∧ ACc u s ∧ ∃ S : PST, x = .ok S ∧ S.2.2.1.1 = 0 ∧ DTc u s S.2.2.2.1.1 ∧ DPc u s S.2.2.2.1.2 ∧ DRc u s S.2.2.2.2.1 ∧ ∃ p, p ≤ 408 ∧ DLc u s p S.2.2.2.2.2)
theorem w_read {t u : Nat} (ht : txk t) (hu : txk u) (hT : TXr t u σ) (hC : CC σ) : Ok (f_X11_read σ) (CRD t u σ (readS (kdT (bC σ) (nC σ)) (vlT (bC σ) (nC σ)) (plI (bC σ) (nC σ)) (nmT (bC σ) (nC σ)))) := by
  have lo := hu.lo
  have hi : u + 12 < 56 := by rcases hu with rfl | rfl <;> decide
  generalize hx : readS (kdT (bC σ) (nC σ)) (vlT (bC σ) (nC σ)) (plI (bC σ) (nC σ)) (nmT (bC σ) (nC σ)) = x
  have w0 := w_readInto hu hC
  rw [hx] at w0
  unfold f_X11_read
  rw [hT.2]
  refine Ok.t hu (Ok.cl w0 (fun r s2 h2 => ?_))
  obtain ⟨f2, r1, r2, r3⟩ := h2
  refine Ok.bd ?_
  generalize hs4 : hI s2 2 1 0 = s4
  have o4 : ∀ a k, a ≠ 2 → s4.1 a k = s2.1 a k := fun a k ha => by rw [← hs4, rI_i ha]
  have e4 : s4.1 2 1 = 0 := by rw [← hs4, rI_s]
  have F4 : frm (wRc u) wlRc σ s4 := by
    rw [← hs4]
    refine (f2.mono (fun a k e => ?_) (fun a e => e)).I (by unfold wRc; simp)
    unfold wRc at e
    simp only [Bool.or_eq_false_iff] at e ⊢
    exact e.1
  by_cases c : r.toInt = 0
  · have hT4 : TXr t u s4 := by
      unfold TXr
      rw [F4.2.2]; exact hT
    refine Ok.t c (Ok.cv (w_beginAnew ht hu hT4) (fun s5 h5 => Ok.ret ?_))
    obtain ⟨b1, b2, b3, b4, b5⟩ := h5
    obtain ⟨S, e1, e2, e3, e4', e5, p, e6, e7⟩ := r3 c
    have wt : ∀ a k, u ≤ a → a ≤ u + 12 → wBA a k = false := fun a k h1 h2 => by unfold wBA wAir; simp; omega
    have tx5 : ∀ a k, u ≤ a → a ≤ u + 12 → s5.1 a k = s2.1 a k := fun a k h1 h2 => by rw [b4 a k (wt a k h1 h2), o4 a k (by omega)]
    refine ⟨?_, r1, ?_, fun a e => ?_, fun a k e => ?_, fun h => absurd c h, fun _ => ⟨b1, b5, S, e1, e2, ⟨?_, e3.2.1, fun e he => ?_⟩, ⟨?_, e4'.2.1, fun p hp => ⟨?_, (e4'.2.2 p hp).2.1, fun i hi => ?_⟩⟩, ⟨?_, ?_⟩, p, e6, fun k hk => ?_⟩⟩
    · rw [b4 2 1 rfl]; exact e4
    · rw [b4 1 1 rfl, o4 _ _ (by decide)]; exact r2
    · rw [b3]; exact F4.2.1 a e
    · simp only [Bool.or_eq_false_iff] at e
      rw [b4 a k e.2]; exact F4.1 a k e.1
    · rw [tx5 u 0 (by omega) (by omega)]; exact e3.1
    · rw [tx5 _ _ (by omega) (by omega), tx5 _ _ (by omega) (by omega), tx5 _ _ (by omega) (by omega)]; exact e3.2.2 e he
    · rw [tx5 u 4 (by omega) (by omega)]; exact e4'.1
    · rw [tx5 _ _ (by omega) (by omega)]; exact (e4'.2.2 p hp).1
    · rw [tx5 _ _ (by omega) (by have := e4'.2.1; omega)]; exact (e4'.2.2 p hp).2.2 i hi
    · rw [tx5 _ _ (by omega) (by omega)]; exact e5.1
    · rw [tx5 _ _ (by omega) (by omega)]; exact e5.2
    · obtain ⟨q, q1, q2, q3⟩ := e7 k hk
      exact ⟨q, by rw [tx5 _ _ (by omega) (by omega)]; exact q1, q2, q3.same (fun z _ _ => tx5 _ _ (by omega) (by omega))⟩
  · refine Ok.f c (Ok.ret ⟨e4, r1, ?_, F4.2.1, fun a k e => ?_, fun _ => F4, fun h => absurd h c⟩)
    · rw [o4 _ _ (by decide)]; exact r2
    · simp only [Bool.or_eq_false_iff] at e
      exact F4.1 a k e.1
theorem wRM_lo {sd a k : Nat} (h : a < 236) : wRM sd a k = false := by
  unfold wRM wRd1 wPm wr LC
  rw [if_neg (by omega), if_neg (by omega)]
  simp
  omega
theorem wRc_hi {u a k : Nat} (hu : txk u) (h : 236 ≤ a) : (wRc u a k || wBA a k) = false := by
  have hi : u + 12 < 56 := by rcases hu with rfl | rfl <;> decide
  unfold wRc wP wCut wBA wAir
  simp
  omega
end BRD
