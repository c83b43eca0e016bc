set_option maxHeartbeats 4000000 in
set_option maxRecDepth 100000 in
theorem Z_X12_into {l : Launch} {D : va_G} {ids : List Nat} {ad : Nat → Nat} {ca : Nat → ClassId} {σ : HS} {x1 : Int32} {x2 : Int32} {r0 : Int32} {s0 : HS} (hid : ∀ i, i < 277 → i ∈ ids) (h : f_X12_into x1 x2 σ = some (r0, s0)) : Ki l D ids ad ca yX12_into cX12_into 5 .int 4 87 [.ref (ad 236), .int x1, .int x2] σ (fun r σ1 => r = r0 ∧ σ1 = s0) := by
  obtain ⟨R, hR⟩ : ∃ R, (r0, s0) = R := ⟨_, rfl⟩
  replace h := h.trans (congrArg some hR)
  refine Ki.of (by decide) (Nat.le_of_ble_eq_true rfl) 2 (fun Γ C Rt => ?_)
  show AW ids ad ca Γ 0 [some (.ref (ad 236)), some (.int x1), some (.int x2), none, none] [] σ
  unfold f_X12_into at h
  have j55 : ∀ (y2 : Int32) (σ : HS), f_X12_into_55 y2 σ = some R → AW ids ad ca Γ 55 [none, none, some (.int y2), none, none] [] σ := by
    intro y2 σ h
    unfold f_X12_into_55 at h
    refine a_iload_n C dX12_into_55 (i := 2) rfl rfl ?_
    refine a_iconst C dX12_into_56 (v := (-1)) rfl ?_
    refine p_ic_ne C (X := y2.toInt) (Y := (-1)) rfl (by decide) dX12_into_57 (tgt := 65) rfl h (fun h => ?_) (fun h => ?_)
    ·
      refine a_bipush C dX12_into_65 (v := (-3)) rfl ?_
      exact a_iret Rt dX12_into_67 rfl (ret_eq (h.trans (congrArg some hR.symm)))
    ·
      refine a_bipush C dX12_into_60 (v := (-2)) rfl ?_
      refine a_goto C dX12_into_62 (tgt := 67) rfl ?_
      exact a_iret Rt dX12_into_67 rfl (ret_eq (h.trans (congrArg some hR.symm)))
  have j95 : ∀ (n : Nat) (y2 : Int32) (y3 : Int32) (y4 : Int32) (σ : HS), f_X12_into_95 n y2 y3 y4 σ = some R → AW ids ad ca Γ 95 [some (.ref (ad 236)), none, some (.int y2), some (.int y3), some (.int y4)] [] σ := by
    intro n
    induction n with
    | zero => intro y2 y3 y4 σ h; exact nn h
    | succ n ih =>
      intro y2 y3 y4 σ h
      have h : b_X12_into_95 (f_X12_into_95 n) y2 y3 y4 σ = some R := h
      unfold b_X12_into_95 at h
      refine a_iload C dX12_into_95 rfl ?_
      refine a_iload_n C dX12_into_97 (i := 2) rfl rfl ?_
      refine p_ic_ge C (X := y4.toInt) (Y := y2.toInt) rfl rfl dX12_into_98 (tgt := 117) rfl h (fun h => ?_) (fun h => ?_)
      ·
        refine a_aload_n C dX12_into_117 (i := 0) rfl rfl ?_
        refine a_iload_n C dX12_into_118 (i := 3) rfl rfl ?_
        refine p_callVi C (As := [.int y3]) (i := 236) kd_236 (hid 236 (by decide)) ⟨_, _, rfl⟩ (by decide) h (fun _ _ e => Z_X12_firstOf hid e) mi_X12_firstOf ml_RX12_448 rfl rfl (Nat.le_of_ble_eq_true rfl) (Nat.le_of_ble_eq_true rfl) (Nat.le_of_ble_eq_true rfl) dX12_into_119 (fun r2 σ1 h => ?_)
        exact a_iret Rt dX12_into_122 rfl (ret_eq (h.trans (congrArg some hR.symm)))
      ·
        refine a_iload_n C dX12_into_101 (i := 3) rfl rfl ?_
        refine a_aload_n C dX12_into_102 (i := 0) rfl rfl ?_
        refine a_iload_n C dX12_into_103 (i := 3) rfl rfl ?_
        refine p_callVi C (As := [.int y3]) (i := 236) kd_236 (hid 236 (by decide)) ⟨_, _, rfl⟩ (by decide) h (fun _ _ e => Z_X12_firstOf hid e) mi_X12_firstOf ml_RX12_448 rfl rfl (Nat.le_of_ble_eq_true rfl) (Nat.le_of_ble_eq_true rfl) (Nat.le_of_ble_eq_true rfl) dX12_into_104 (fun r4 σ3 h => ?_)
        refine p_callSi C (As := [.int y3, .int r4]) h (fun _ _ e => Z_X12_nextOf hid e) ms_X12_nextOf ml_RX12_432 rfl rfl (Nat.le_of_ble_eq_true rfl) (Nat.le_of_ble_eq_true rfl) (Nat.le_of_ble_eq_true rfl) dX12_into_107 (fun r6 σ5 h => ?_)
        refine a_istore_n C dX12_into_110 (i := 3) rfl (by decide) rfl (vs1 := [some (.ref (ad 236)), none, some (.int y2), some (.int r6), some (.int y4)]) rfl ?_
        refine p_iinc C (y := (y4 + 1)) (fun z7 => [some (.ref (ad 236)), none, some (.int y2), some (.int r6), some (.int z7)]) dX12_into_111 rfl rfl (by decide) rfl (fun _ => rfl) h (fun z7 h => ?_)
        refine a_goto C dX12_into_114 (tgt := 95) rfl ?_
        exact ih _ _ _ _ h
  refine a_aload_n C dX12_into_0 (i := 0) rfl rfl ?_
  refine a_iload_n C dX12_into_1 (i := 1) rfl rfl ?_
  refine p_callVi C (As := [.int x1]) (i := 236) kd_236 (hid 236 (by decide)) ⟨_, _, rfl⟩ (by decide) h (fun _ _ e => Z_X12_isPattern hid e) mi_X12_isPattern ml_RX12_393 rfl rfl (Nat.le_of_ble_eq_true rfl) (Nat.le_of_ble_eq_true rfl) (Nat.le_of_ble_eq_true rfl) dX12_into_2 (fun r2 σ1 h => ?_)
  refine p_if_eq C (X := r2.toInt) rfl dX12_into_5 (tgt := 21) rfl h (fun h => ?_) (fun h => ?_)
  ·
    refine a_iconst C dX12_into_21 (v := (-1)) rfl ?_
    exact a_iret Rt dX12_into_22 rfl (ret_eq (h.trans (congrArg some hR.symm)))
  ·
    refine a_aload_n C dX12_into_8 (i := 0) rfl rfl ?_
    refine a_iload_n C dX12_into_9 (i := 1) rfl rfl ?_
    refine p_callVi C (As := [.int x1]) (i := 236) kd_236 (hid 236 (by decide)) ⟨_, _, rfl⟩ (by decide) h (fun _ _ e => Z_X12_keepsOf hid e) mi_X12_keepsOf ml_RX12_417 rfl rfl (Nat.le_of_ble_eq_true rfl) (Nat.le_of_ble_eq_true rfl) (Nat.le_of_ble_eq_true rfl) dX12_into_10 (fun r4 σ3 h => ?_)
    refine p_if_lt C (X := r4.toInt) rfl dX12_into_13 (tgt := 21) rfl h (fun h => ?_) (fun h => ?_)
    ·
      refine a_iconst C dX12_into_21 (v := (-1)) rfl ?_
      exact a_iret Rt dX12_into_22 rfl (ret_eq (h.trans (congrArg some hR.symm)))
    ·
      refine a_iload_n C dX12_into_16 (i := 2) rfl rfl ?_
      refine a_iconst C dX12_into_17 (v := (-1)) rfl ?_
      refine p_ic_ge C (X := x2.toInt) (Y := (-1)) rfl (by decide) dX12_into_18 (tgt := 23) rfl h (fun h => ?_) (fun h => ?_)
      ·
        refine a_aload_n C dX12_into_23 (i := 0) rfl rfl ?_
        refine p_callVi C (As := []) (i := 236) kd_236 (hid 236 (by decide)) ⟨_, _, rfl⟩ (by decide) h (fun _ _ e => Z_X12_lands hid e) mi_X12_lands ml_RX12_435 rfl rfl (Nat.le_of_ble_eq_true rfl) (Nat.le_of_ble_eq_true rfl) (Nat.le_of_ble_eq_true rfl) dX12_into_24 (fun r6 σ5 h => ?_)
        refine a_istore_n C dX12_into_27 (i := 3) rfl (by decide) rfl (vs1 := [some (.ref (ad 236)), some (.int x1), some (.int x2), some (.int r6), none]) rfl ?_
        refine a_aload_n C dX12_into_28 (i := 0) rfl rfl ?_
        refine a_aload_n C dX12_into_29 (i := 0) rfl rfl ?_
        refine a_iload_n C dX12_into_30 (i := 1) rfl rfl ?_
        refine p_callVi C (As := [.int x1]) (i := 236) kd_236 (hid 236 (by decide)) ⟨_, _, rfl⟩ (by decide) h (fun _ _ e => Z_X12_aimOf hid e) mi_X12_aimOf ml_RX12_438 rfl rfl (Nat.le_of_ble_eq_true rfl) (Nat.le_of_ble_eq_true rfl) (Nat.le_of_ble_eq_true rfl) dX12_into_31 (fun r8 σ7 h => ?_)
        refine p_callVv C (As := [.int r8]) (i := 236) kd_236 (hid 236 (by decide)) ⟨_, _, rfl⟩ (by decide) h (fun _ e => Z_X12_fillsFar hid e) mi_X12_fillsFar ml_RX12_441 rfl rfl (Nat.le_of_ble_eq_true rfl) (Nat.le_of_ble_eq_true rfl) (Nat.le_of_ble_eq_true rfl) dX12_into_34 (fun σ9 h => ?_)
        refine a_aload_n C dX12_into_37 (i := 0) rfl rfl ?_
        refine p_callVi C (As := []) (i := 236) kd_236 (hid 236 (by decide)) ⟨_, _, rfl⟩ (by decide) h (fun _ _ e => Z_X12_areTwoSoon hid e) mi_X12_areTwoSoon ml_RX12_444 rfl rfl (Nat.le_of_ble_eq_true rfl) (Nat.le_of_ble_eq_true rfl) (Nat.le_of_ble_eq_true rfl) dX12_into_38 (fun r12 σ11 h => ?_)
        refine p_if_ne C (X := r12.toInt) rfl dX12_into_41 (tgt := 55) rfl h (fun h => ?_) (fun h => ?_)
        ·
          refine AW.sub (vs' := [none, none, some (.int x2), none, none]) (lsub_of (by simp [lsubB])) ?_
          exact j55 _ _ h
        ·
          refine a_aload_n C dX12_into_44 (i := 0) rfl rfl ?_
          refine a_get C fl_RX12_119 (i := 236) kd_236 (hid 236 (by decide)) (v := .ref (ad 270)) rfl dX12_into_45 ?_
          refine a_iload_n C dX12_into_48 (i := 3) rfl rfl ?_
          refine p_iald C (i := 270) (show rowOK 270 from ⟨kd_270, by decide⟩) hid (by rw [al_270]; rfl) dX12_into_49 h (fun h => ?_)
          refine a_bipush C dX12_into_50 (v := 99) rfl ?_
          refine p_ic_ne C (X := (σ11.1 270 r6.toInt.toNat).toInt) (Y := 99) rfl (by decide) dX12_into_52 (tgt := 68) rfl h (fun h => ?_) (fun h => ?_)
          ·
            refine a_iload_n C dX12_into_68 (i := 2) rfl rfl ?_
            refine a_iconst C dX12_into_69 (v := (-1)) rfl ?_
            refine p_ic_ne C (X := x2.toInt) (Y := (-1)) rfl (by decide) dX12_into_70 (tgt := 80) rfl h (fun h => ?_) (fun h => ?_)
            ·
              refine a_iload_n C dX12_into_80 (i := 2) rfl rfl ?_
              refine a_aload_n C dX12_into_81 (i := 0) rfl rfl ?_
              refine a_get C fl_RX12_119 (i := 236) kd_236 (hid 236 (by decide)) (v := .ref (ad 270)) rfl dX12_into_82 ?_
              refine a_iload_n C dX12_into_85 (i := 3) rfl rfl ?_
              refine p_iald C (i := 270) (show rowOK 270 from ⟨kd_270, by decide⟩) hid (by rw [al_270]; rfl) dX12_into_86 h (fun h => ?_)
              refine p_ic_lt C (X := x2.toInt) (Y := (σ11.1 270 r6.toInt.toNat).toInt) rfl rfl dX12_into_87 (tgt := 92) rfl h (fun h => ?_) (fun h => ?_)
              ·
                refine a_iconst C dX12_into_92 (v := 0) rfl ?_
                refine a_istore C dX12_into_93 (by decide) rfl (vs1 := [some (.ref (ad 236)), some (.int x1), some (.int x2), some (.int r6), some (.int 0)]) rfl ?_
                refine AW.sub (vs' := [some (.ref (ad 236)), none, some (.int x2), some (.int r6), some (.int 0)]) (lsub_of (by simp [lsubB])) ?_
                exact j95 _ _ _ _ _ h
              ·
                refine a_iconst C dX12_into_90 (v := (-1)) rfl ?_
                exact a_iret Rt dX12_into_91 rfl (ret_eq (h.trans (congrArg some hR.symm)))
            ·
              refine a_aload_n C dX12_into_73 (i := 0) rfl rfl ?_
              refine a_get C fl_RX12_119 (i := 236) kd_236 (hid 236 (by decide)) (v := .ref (ad 270)) rfl dX12_into_74 ?_
              refine a_iload_n C dX12_into_77 (i := 3) rfl rfl ?_
              refine p_iald C (i := 270) (show rowOK 270 from ⟨kd_270, by decide⟩) hid (by rw [al_270]; rfl) dX12_into_78 h (fun h => ?_)
              exact a_iret Rt dX12_into_79 rfl (ret_eq (h.trans (congrArg some hR.symm)))
          ·
            refine AW.sub (vs' := [none, none, some (.int x2), none, none]) (lsub_of (by simp [lsubB])) ?_
            exact j55 _ _ h
      ·
        refine a_iconst C dX12_into_21 (v := (-1)) rfl ?_
        exact a_iret Rt dX12_into_22 rfl (ret_eq (h.trans (congrArg some hR.symm)))
set_option maxHeartbeats 4000000 in
set_option maxRecDepth 100000 in
theorem Z_X12_hasRoom {l : Launch} {D : va_G} {ids : List Nat} {ad : Nat → Nat} {ca : Nat → ClassId} {σ : HS} {x1 : Int32} {x2 : Int32} {r0 : Int32} {s0 : HS} (hid : ∀ i, i < 277 → i ∈ ids) (h : f_X12_hasRoom x1 x2 σ = some (r0, s0)) : Ki l D ids ad ca yX12_hasRoom cX12_hasRoom 4 .boolean 5 122 [.ref (ad 236), .int x1, .int x2] σ (fun r σ1 => r = r0 ∧ σ1 = s0) := by
  obtain ⟨R, hR⟩ : ∃ R, (r0, s0) = R := ⟨_, rfl⟩
  replace h := h.trans (congrArg some hR)
  refine Ki.of (by decide) (Nat.le_of_ble_eq_true rfl) 1 (fun Γ C Rt => ?_)
  show AW ids ad ca Γ 0 [some (.ref (ad 236)), some (.int x1), some (.int x2), none] [] σ
  unfold f_X12_hasRoom at h
  have j23 : ∀ (n : Nat) (y3 : Int32) (σ : HS), f_X12_hasRoom_23 n y3 σ = some R → AW ids ad ca Γ 23 [some (.ref (ad 236)), none, none, some (.int y3)] [] σ := by
    intro n
    induction n with
    | zero => intro y3 σ h; exact nn h
    | succ n ih =>
      intro y3 σ h
      have h : b_X12_hasRoom_23 (f_X12_hasRoom_23 n) y3 σ = some R := h
      unfold b_X12_hasRoom_23 at h
      refine a_iload_n C dX12_hasRoom_23 (i := 3) rfl rfl ?_
      refine a_bipush C dX12_hasRoom_24 (v := 60) rfl ?_
      refine p_ic_ge C (X := y3.toInt) (Y := 60) rfl (by decide) dX12_hasRoom_26 (tgt := 48) rfl h (fun h => ?_) (fun h => ?_)
      ·
        refine a_iconst C dX12_hasRoom_48 (v := 1) rfl ?_
        exact a_iret Rt dX12_hasRoom_49 (nar_z (by decide)).1 (ret_eq (h.trans (congrArg some hR.symm)))
      ·
        refine a_aload_n C dX12_hasRoom_29 (i := 0) rfl rfl ?_
        refine p_callVv C (As := []) (i := 236) kd_236 (hid 236 (by decide)) ⟨_, _, rfl⟩ (by decide) h (fun _ e => Z_X12_beatGoes hid e) mi_X12_beatGoes ml_RX12_387 rfl rfl (Nat.le_of_ble_eq_true rfl) (Nat.le_of_ble_eq_true rfl) (Nat.le_of_ble_eq_true rfl) dX12_hasRoom_30 (fun σ1 h => ?_)
        refine a_aload_n C dX12_hasRoom_33 (i := 0) rfl rfl ?_
        refine a_get C fl_RX12_344 (i := 236) kd_236 (hid 236 (by decide)) (v := .int (σ1.1 236 52)) rfl dX12_hasRoom_34 ?_
        refine p_if_eq C (X := (σ1.1 236 52).toInt) rfl dX12_hasRoom_37 (tgt := 42) rfl h (fun h => ?_) (fun h => ?_)
        ·
          refine p_iinc C (y := (y3 + 1)) (fun z3 => [some (.ref (ad 236)), none, none, some (.int z3)]) dX12_hasRoom_42 rfl rfl (by decide) rfl (fun _ => rfl) h (fun z3 h => ?_)
          refine a_goto C dX12_hasRoom_45 (tgt := 23) rfl ?_
          exact ih _ _ h
        ·
          refine a_iconst C dX12_hasRoom_40 (v := 0) rfl ?_
          exact a_iret Rt dX12_hasRoom_41 (nar_z (by decide)).1 (ret_eq (h.trans (congrArg some hR.symm)))
  refine a_aload_n C dX12_hasRoom_0 (i := 0) rfl rfl ?_
  refine p_callVv C (As := []) (i := 236) kd_236 (hid 236 (by decide)) ⟨_, _, rfl⟩ (by decide) h (fun _ e => Z_X12_copiesStill hid e) mi_X12_copiesStill ml_RX12_429 rfl rfl (Nat.le_of_ble_eq_true rfl) (Nat.le_of_ble_eq_true rfl) (Nat.le_of_ble_eq_true rfl) dX12_hasRoom_1 (fun σ1 h => ?_)
  refine a_aload_n C dX12_hasRoom_4 (i := 0) rfl rfl ?_
  refine a_get C fl_RX12_110 (i := 236) kd_236 (hid 236 (by decide)) (v := .ref (ad 267)) rfl dX12_hasRoom_5 ?_
  refine a_iload_n C dX12_hasRoom_8 (i := 1) rfl rfl ?_
  refine a_iconst C dX12_hasRoom_9 (v := 0) rfl ?_
  refine p_iast C (i := 267) (show rowOK 267 from ⟨kd_267, by decide⟩) hid (by rw [al_267]; rfl) dX12_hasRoom_10 h (fun σ3 h => ?_)
  refine a_aload_n C dX12_hasRoom_11 (i := 0) rfl rfl ?_
  refine a_get C fl_RX12_110 (i := 236) kd_236 (hid 236 (by decide)) (v := .ref (ad 267)) rfl dX12_hasRoom_12 ?_
  refine a_bipush C dX12_hasRoom_15 (v := 7) rfl ?_
  refine a_iload_n C dX12_hasRoom_17 (i := 1) rfl rfl ?_
  refine a_iadd C dX12_hasRoom_18 ?_
  refine a_iload_n C dX12_hasRoom_19 (i := 2) rfl rfl ?_
  refine p_iast C (i := 267) (show rowOK 267 from ⟨kd_267, by decide⟩) hid (by rw [al_267]; rfl) dX12_hasRoom_20 h (fun σ4 h => ?_)
  refine a_iconst C dX12_hasRoom_21 (v := 0) rfl ?_
  refine a_istore_n C dX12_hasRoom_22 (i := 3) rfl (by decide) rfl (vs1 := [some (.ref (ad 236)), some (.int x1), some (.int x2), some (.int 0)]) rfl ?_
  refine AW.sub (vs' := [some (.ref (ad 236)), none, none, some (.int 0)]) (lsub_of (by simp [lsubB])) ?_
  exact j23 _ _ _ h
set_option maxHeartbeats 4000000 in
set_option maxRecDepth 100000 in
theorem Z_X12_room {l : Launch} {D : va_G} {ids : List Nat} {ad : Nat → Nat} {ca : Nat → ClassId} {σ : HS} {x1 : Int32} {r0 : Int32} {s0 : HS} (hid : ∀ i, i < 277 → i ∈ ids) (h : f_X12_room x1 σ = some (r0, s0)) : Ki l D ids ad ca yX12_room cX12_room 3 .int 6 145 [.ref (ad 236), .int x1] σ (fun r σ1 => r = r0 ∧ σ1 = s0) := by
  obtain ⟨R, hR⟩ : ∃ R, (r0, s0) = R := ⟨_, rfl⟩
  replace h := h.trans (congrArg some hR)
  refine Ki.of (by decide) (Nat.le_of_ble_eq_true rfl) 1 (fun Γ C Rt => ?_)
  show AW ids ad ca Γ 0 [some (.ref (ad 236)), some (.int x1), none] [] σ
  unfold f_X12_room at h
  have j21 : ∀ (n : Nat) (y1 : Int32) (y2 : Int32) (σ : HS), f_X12_room_21 n y1 y2 σ = some R → AW ids ad ca Γ 21 [some (.ref (ad 236)), some (.int y1), some (.int y2)] [] σ := by
    intro n
    induction n with
    | zero => intro y1 y2 σ h; exact nn h
    | succ n ih =>
      intro y1 y2 σ h
      have h : b_X12_room_21 (f_X12_room_21 n) y1 y2 σ = some R := h
      unfold b_X12_room_21 at h
      refine a_iload_n C dX12_room_21 (i := 2) rfl rfl ?_
      refine a_bipush C dX12_room_22 (v := 10) rfl ?_
      refine p_ic_ge C (X := y2.toInt) (Y := 10) rfl (by decide) dX12_room_24 (tgt := 44) rfl h (fun h => ?_) (fun h => ?_)
      ·
        refine a_bipush C dX12_room_44 (v := (-2)) rfl ?_
        exact a_iret Rt dX12_room_46 rfl (ret_eq (h.trans (congrArg some hR.symm)))
      ·
        refine a_aload_n C dX12_room_27 (i := 0) rfl rfl ?_
        refine a_iload_n C dX12_room_28 (i := 1) rfl rfl ?_
        refine a_iload_n C dX12_room_29 (i := 2) rfl rfl ?_
        refine p_callVi C (As := [.int y1, .int y2]) (i := 236) kd_236 (hid 236 (by decide)) ⟨_, _, rfl⟩ (by decide) h (fun _ _ e => Z_X12_hasRoom hid e) mi_X12_hasRoom ml_RX12_451 rfl rfl (Nat.le_of_ble_eq_true rfl) (Nat.le_of_ble_eq_true rfl) (Nat.le_of_ble_eq_true rfl) dX12_room_30 (fun r2 σ1 h => ?_)
        refine p_if_eq C (X := r2.toInt) rfl dX12_room_33 (tgt := 38) rfl h (fun h => ?_) (fun h => ?_)
        ·
          refine p_iinc C (y := (y2 + 1)) (fun z3 => [some (.ref (ad 236)), some (.int y1), some (.int z3)]) dX12_room_38 rfl rfl (by decide) rfl (fun _ => rfl) h (fun z3 h => ?_)
          refine a_goto C dX12_room_41 (tgt := 21) rfl ?_
          exact ih _ _ _ h
        ·
          refine a_iload_n C dX12_room_36 (i := 2) rfl rfl ?_
          exact a_iret Rt dX12_room_37 rfl (ret_eq (h.trans (congrArg some hR.symm)))
  refine a_aload_n C dX12_room_0 (i := 0) rfl rfl ?_
  refine a_iload_n C dX12_room_1 (i := 1) rfl rfl ?_
  refine p_callVi C (As := [.int x1]) (i := 236) kd_236 (hid 236 (by decide)) ⟨_, _, rfl⟩ (by decide) h (fun _ _ e => Z_X12_isThing hid e) mi_X12_isThing ml_RX12_390 rfl rfl (Nat.le_of_ble_eq_true rfl) (Nat.le_of_ble_eq_true rfl) (Nat.le_of_ble_eq_true rfl) dX12_room_2 (fun r2 σ1 h => ?_)
  refine p_if_eq C (X := r2.toInt) rfl dX12_room_5 (tgt := 17) rfl h (fun h => ?_) (fun h => ?_)
  ·
    refine a_iconst C dX12_room_17 (v := (-1)) rfl ?_
    exact a_iret Rt dX12_room_18 rfl (ret_eq (h.trans (congrArg some hR.symm)))
  ·
    refine a_aload_n C dX12_room_8 (i := 0) rfl rfl ?_
    refine a_get C fl_RX12_107 (i := 236) kd_236 (hid 236 (by decide)) (v := .ref (ad 266)) rfl dX12_room_9 ?_
    refine a_iload_n C dX12_room_12 (i := 1) rfl rfl ?_
    refine p_iald C (i := 266) (show rowOK 266 from ⟨kd_266, by decide⟩) hid (by rw [al_266]; rfl) dX12_room_13 h (fun h => ?_)
    refine p_if_ne C (X := (σ1.1 266 x1.toInt.toNat).toInt) rfl dX12_room_14 (tgt := 19) rfl h (fun h => ?_) (fun h => ?_)
    ·
      refine a_iconst C dX12_room_19 (v := 0) rfl ?_
      refine a_istore_n C dX12_room_20 (i := 2) rfl (by decide) rfl (vs1 := [some (.ref (ad 236)), some (.int x1), some (.int 0)]) rfl ?_
      exact j21 _ _ _ _ h
    ·
      refine a_iconst C dX12_room_17 (v := (-1)) rfl ?_
      exact a_iret Rt dX12_room_18 rfl (ret_eq (h.trans (congrArg some hR.symm)))
set_option maxHeartbeats 4000000 in
set_option maxRecDepth 100000 in
theorem Z_X12_handover {l : Launch} {D : va_G} {ids : List Nat} {ad : Nat → Nat} {ca : Nat → ClassId} {σ : HS} {r0 : Int32} {s0 : HS} (hid : ∀ i, i < 277 → i ∈ ids) (h : f_X12_handover σ = some (r0, s0)) : Ki l D ids ad ca yX12_handover cX12_handover 3 .int 5 122 [.ref (ad 236)] σ (fun r σ1 => r = r0 ∧ σ1 = s0) := by
  obtain ⟨R, hR⟩ : ∃ R, (r0, s0) = R := ⟨_, rfl⟩
  replace h := h.trans (congrArg some hR)
  refine Ki.of (by decide) (Nat.le_of_ble_eq_true rfl) 2 (fun Γ C Rt => ?_)
  show AW ids ad ca Γ 0 [some (.ref (ad 236)), none, none] [] σ
  unfold f_X12_handover at h
  have j46 : ∀ (k12 : Int32 → Int32 → HS → Option (Int32 × HS)) (hk12 : ∀ (y1 : Int32) (y2 : Int32) (σ : HS), k12 y1 y2 σ = some R → AW ids ad ca Γ 12 [some (.ref (ad 236)), some (.int y1), some (.int y2)] [] σ) (y1 : Int32) (y2 : Int32) (σ : HS), f_X12_handover_46 k12 y1 y2 σ = some R → AW ids ad ca Γ 46 [some (.ref (ad 236)), some (.int y1), some (.int y2)] [] σ := by
    intro k12 hk12 y1 y2 σ h
    unfold f_X12_handover_46 at h
    refine a_iload_n C dX12_handover_46 (i := 1) rfl rfl ?_
    refine a_aload_n C dX12_handover_47 (i := 0) rfl rfl ?_
    refine a_iconst C dX12_handover_48 (v := 2) rfl ?_
    refine p_callVi C (As := [.int 2]) (i := 236) kd_236 (hid 236 (by decide)) ⟨_, _, rfl⟩ (by decide) h (fun _ _ e => Z_X12_thingsSo hid e) mi_X12_thingsSo ml_RX12_350 rfl rfl (Nat.le_of_ble_eq_true rfl) (Nat.le_of_ble_eq_true rfl) (Nat.le_of_ble_eq_true rfl) dX12_handover_49 (fun r2 σ1 h => ?_)
    refine a_iand C dX12_handover_52 ?_
    refine p_if_eq C (X := (y1 &&& r2).toInt) rfl dX12_handover_53 (tgt := 59) rfl h (fun h => ?_) (fun h => ?_)
    ·
      refine p_iinc C (y := (y2 + 1)) (fun z3 => [some (.ref (ad 236)), some (.int y1), some (.int z3)]) dX12_handover_59 rfl rfl (by decide) rfl (fun _ => rfl) h (fun z3 h => ?_)
      refine a_goto C dX12_handover_62 (tgt := 12) rfl ?_
      exact hk12 _ _ _ h
    ·
      refine a_bipush C dX12_handover_56 (v := (-2)) rfl ?_
      exact a_iret Rt dX12_handover_58 rfl (ret_eq (h.trans (congrArg some hR.symm)))
  have j12 : ∀ (n : Nat) (y1 : Int32) (y2 : Int32) (σ : HS), f_X12_handover_12 n y1 y2 σ = some R → AW ids ad ca Γ 12 [some (.ref (ad 236)), some (.int y1), some (.int y2)] [] σ := by
    intro n
    induction n with
    | zero => intro y1 y2 σ h; exact nn h
    | succ n ih =>
      intro y1 y2 σ h
      have h : b_X12_handover_12 (f_X12_handover_12 n) y1 y2 σ = some R := h
      unfold b_X12_handover_12 at h
      refine a_iload_n C dX12_handover_12 (i := 2) rfl rfl ?_
      refine a_bipush C dX12_handover_13 (v := 60) rfl ?_
      refine p_ic_gt C (X := y2.toInt) (Y := 60) rfl (by decide) dX12_handover_15 (tgt := 65) rfl h (fun h => ?_) (fun h => ?_)
      ·
        refine a_bipush C dX12_handover_65 (v := (-2)) rfl ?_
        exact a_iret Rt dX12_handover_67 rfl (ret_eq (h.trans (congrArg some hR.symm)))
      ·
        refine a_iload_n C dX12_handover_18 (i := 1) rfl rfl ?_
        refine p_if_ne C (X := y1.toInt) rfl dX12_handover_19 (tgt := 24) rfl h (fun h => ?_) (fun h => ?_)
        ·
          refine a_aload_n C dX12_handover_24 (i := 0) rfl rfl ?_
          refine p_callVv C (As := []) (i := 236) kd_236 (hid 236 (by decide)) ⟨_, _, rfl⟩ (by decide) h (fun _ e => Z_X12_beatGoes hid e) mi_X12_beatGoes ml_RX12_387 rfl rfl (Nat.le_of_ble_eq_true rfl) (Nat.le_of_ble_eq_true rfl) (Nat.le_of_ble_eq_true rfl) dX12_handover_25 (fun σ1 h => ?_)
          refine a_aload_n C dX12_handover_28 (i := 0) rfl rfl ?_
          refine a_get C fl_RX12_341 (i := 236) kd_236 (hid 236 (by decide)) (v := .int (σ1.1 236 51)) rfl dX12_handover_29 ?_
          refine p_if_lt C (X := (σ1.1 236 51).toInt) rfl dX12_handover_32 (tgt := 46) rfl h (fun h => ?_) (fun h => ?_)
          ·
            exact j46 (f_X12_handover_12 n) (fun y1 y2 σ h => ih y1 y2 σ h) _ _ _ h
          ·
            refine a_iload_n C dX12_handover_35 (i := 1) rfl rfl ?_
            refine a_iconst C dX12_handover_36 (v := 1) rfl ?_
            refine a_aload_n C dX12_handover_37 (i := 0) rfl rfl ?_
            refine a_get C fl_RX12_341 (i := 236) kd_236 (hid 236 (by decide)) (v := .int (σ1.1 236 51)) rfl dX12_handover_38 ?_
            refine a_ishl C dX12_handover_41 ?_
            refine a_iconst C dX12_handover_42 (v := (-1)) rfl ?_
            refine a_ixor C dX12_handover_43 ?_
            refine a_iand C dX12_handover_44 ?_
            refine p_istore_n C (fun z3 => [some (.ref (ad 236)), some (.int z3), some (.int y2)]) dX12_handover_45 (i := 1) rfl (by decide) rfl (fun _ => rfl) h (fun z3 h => ?_)
            exact j46 (f_X12_handover_12 n) (fun y1 y2 σ h => ih y1 y2 σ h) _ _ _ h
        ·
          refine a_iload_n C dX12_handover_22 (i := 2) rfl rfl ?_
          exact a_iret Rt dX12_handover_23 rfl (ret_eq (h.trans (congrArg some hR.symm)))
  refine a_aload_n C dX12_handover_0 (i := 0) rfl rfl ?_
  refine p_callVv C (As := []) (i := 236) kd_236 (hid 236 (by decide)) ⟨_, _, rfl⟩ (by decide) h (fun _ e => Z_X12_copiesStill hid e) mi_X12_copiesStill ml_RX12_429 rfl rfl (Nat.le_of_ble_eq_true rfl) (Nat.le_of_ble_eq_true rfl) (Nat.le_of_ble_eq_true rfl) dX12_handover_1 (fun σ1 h => ?_)
  refine a_aload_n C dX12_handover_4 (i := 0) rfl rfl ?_
  refine a_iconst C dX12_handover_5 (v := 0) rfl ?_
  refine p_callVi C (As := [.int 0]) (i := 236) kd_236 (hid 236 (by decide)) ⟨_, _, rfl⟩ (by decide) h (fun _ _ e => Z_X12_thingsSo hid e) mi_X12_thingsSo ml_RX12_350 rfl rfl (Nat.le_of_ble_eq_true rfl) (Nat.le_of_ble_eq_true rfl) (Nat.le_of_ble_eq_true rfl) dX12_handover_6 (fun r4 σ3 h => ?_)
  refine a_istore_n C dX12_handover_9 (i := 1) rfl (by decide) rfl (vs1 := [some (.ref (ad 236)), some (.int r4), none]) rfl ?_
  refine a_iconst C dX12_handover_10 (v := 0) rfl ?_
  refine a_istore_n C dX12_handover_11 (i := 2) rfl (by decide) rfl (vs1 := [some (.ref (ad 236)), some (.int r4), some (.int 0)]) rfl ?_
  exact j12 _ _ _ _ h
set_option maxHeartbeats 4000000 in
set_option maxRecDepth 100000 in
theorem Z_X12_limit {l : Launch} {D : va_G} {ids : List Nat} {ad : Nat → Nat} {ca : Nat → ClassId} {σ : HS} {x1 : Int32} {r0 : Int32} {s0 : HS} (hid : ∀ i, i < 277 → i ∈ ids) (h : f_X12_limit x1 σ = some (r0, s0)) : Ki l D ids ad ca yX12_limit cX12_limit 3 .int 5 122 [.ref (ad 236), .int x1] σ (fun r σ1 => r = r0 ∧ σ1 = s0) := by
  obtain ⟨R, hR⟩ : ∃ R, (r0, s0) = R := ⟨_, rfl⟩
  replace h := h.trans (congrArg some hR)
  refine Ki.of (by decide) (Nat.le_of_ble_eq_true rfl) 1 (fun Γ C Rt => ?_)
  show AW ids ad ca Γ 0 [some (.ref (ad 236)), some (.int x1), none] [] σ
  unfold f_X12_limit at h
  have j19 : ∀ (n : Nat) (y1 : Int32) (y2 : Int32) (σ : HS), f_X12_limit_19 n y1 y2 σ = some R → AW ids ad ca Γ 19 [some (.ref (ad 236)), some (.int y1), some (.int y2)] [] σ := by
    intro n
    induction n with
    | zero => intro y1 y2 σ h; exact nn h
    | succ n ih =>
      intro y1 y2 σ h
      have h : b_X12_limit_19 (f_X12_limit_19 n) y1 y2 σ = some R := h
      unfold b_X12_limit_19 at h
      refine a_iload_n C dX12_limit_19 (i := 2) rfl rfl ?_
      refine a_sipush C dX12_limit_20 (v := 200) rfl ?_
      refine p_ic_gt C (X := y2.toInt) (Y := 200) rfl (by decide) dX12_limit_23 (tgt := 49) rfl h (fun h => ?_) (fun h => ?_)
      ·
        refine a_bipush C dX12_limit_49 (v := (-2)) rfl ?_
        exact a_iret Rt dX12_limit_51 rfl (ret_eq (h.trans (congrArg some hR.symm)))
      ·
        refine a_aload_n C dX12_limit_26 (i := 0) rfl rfl ?_
        refine a_get C fl_RX12_110 (i := 236) kd_236 (hid 236 (by decide)) (v := .ref (ad 267)) rfl dX12_limit_27 ?_
        refine a_bipush C dX12_limit_30 (v := 22) rfl ?_
        refine p_ialdc C (i := 267) 22 (show rowOK 267 from ⟨kd_267, by decide⟩) hid (by decide) (by rw [al_267]; decide) dX12_limit_32 ?_
        refine a_iload_n C dX12_limit_33 (i := 1) rfl rfl ?_
        refine p_ic_lt C (X := (σ.1 267 22).toInt) (Y := y1.toInt) rfl rfl dX12_limit_34 (tgt := 39) rfl h (fun h => ?_) (fun h => ?_)
        ·
          refine a_aload_n C dX12_limit_39 (i := 0) rfl rfl ?_
          refine p_callVv C (As := []) (i := 236) kd_236 (hid 236 (by decide)) ⟨_, _, rfl⟩ (by decide) h (fun _ e => Z_X12_beatGoes hid e) mi_X12_beatGoes ml_RX12_387 rfl rfl (Nat.le_of_ble_eq_true rfl) (Nat.le_of_ble_eq_true rfl) (Nat.le_of_ble_eq_true rfl) dX12_limit_40 (fun σ1 h => ?_)
          refine p_iinc C (y := (y2 + 1)) (fun z3 => [some (.ref (ad 236)), some (.int y1), some (.int z3)]) dX12_limit_43 rfl rfl (by decide) rfl (fun _ => rfl) h (fun z3 h => ?_)
          refine a_goto C dX12_limit_46 (tgt := 19) rfl ?_
          exact ih _ _ _ h
        ·
          refine a_iload_n C dX12_limit_37 (i := 2) rfl rfl ?_
          exact a_iret Rt dX12_limit_38 rfl (ret_eq (h.trans (congrArg some hR.symm)))
  refine a_iload_n C dX12_limit_0 (i := 1) rfl rfl ?_
  refine a_iconst C dX12_limit_1 (v := 0) rfl ?_
  refine a_sipush C dX12_limit_2 (v := 999) rfl ?_
  refine p_callSi C (As := [.int x1, .int 0, .int 999]) h (fun _ _ e => Z_X12_in hid e) ms_X12_in ml_RX12_301 rfl rfl (Nat.le_of_ble_eq_true rfl) (Nat.le_of_ble_eq_true rfl) (Nat.le_of_ble_eq_true rfl) dX12_limit_5 (fun r2 σ1 h => ?_)
  refine p_if_ne C (X := r2.toInt) rfl dX12_limit_8 (tgt := 13) rfl h (fun h => ?_) (fun h => ?_)
  ·
    refine a_aload_n C dX12_limit_13 (i := 0) rfl rfl ?_
    refine p_callVv C (As := []) (i := 236) kd_236 (hid 236 (by decide)) ⟨_, _, rfl⟩ (by decide) h (fun _ e => Z_X12_copiesStill hid e) mi_X12_copiesStill ml_RX12_429 rfl rfl (Nat.le_of_ble_eq_true rfl) (Nat.le_of_ble_eq_true rfl) (Nat.le_of_ble_eq_true rfl) dX12_limit_14 (fun σ3 h => ?_)
    refine a_iconst C dX12_limit_17 (v := 0) rfl ?_
    refine a_istore_n C dX12_limit_18 (i := 2) rfl (by decide) rfl (vs1 := [some (.ref (ad 236)), some (.int x1), some (.int 0)]) rfl ?_
    exact j19 _ _ _ _ h
  ·
    refine a_iconst C dX12_limit_11 (v := (-1)) rfl ?_
    exact a_iret Rt dX12_limit_12 rfl (ret_eq (h.trans (congrArg some hR.symm)))
set_option maxHeartbeats 4000000 in
set_option maxRecDepth 100000 in
theorem Z_X12_isSome {l : Launch} {D : va_G} {ids : List Nat} {ad : Nat → Nat} {ca : Nat → ClassId} {σ : HS} {x1 : Int32} {r0 : Int32} {s0 : HS} (hid : ∀ i, i < 277 → i ∈ ids) (h : f_X12_isSome x1 σ = some (r0, s0)) : Ki l D ids ad ca yX12_isSome cX12_isSome 1 .boolean 1 22 [.int x1] σ (fun r σ1 => r = r0 ∧ σ1 = s0) := by
  obtain ⟨R, hR⟩ : ∃ R, (r0, s0) = R := ⟨_, rfl⟩
  replace h := h.trans (congrArg some hR)
  refine Ki.of (by decide) (Nat.le_of_ble_eq_true rfl) 0 (fun Γ C Rt => ?_)
  show AW ids ad ca Γ 0 [some (.int x1)] [] σ
  unfold f_X12_isSome at h
  refine a_iload_n C dX12_isSome_0 (i := 0) rfl rfl ?_
  refine a_iconst C dX12_isSome_1 (v := 1) rfl ?_
  refine a_bipush C dX12_isSome_2 (v := 60) rfl ?_
  refine p_callSi C (As := [.int x1, .int 1, .int 60]) h (fun _ _ e => Z_X12_in hid e) ms_X12_in ml_RX12_301 rfl rfl (Nat.le_of_ble_eq_true rfl) (Nat.le_of_ble_eq_true rfl) (Nat.le_of_ble_eq_true rfl) dX12_isSome_4 (fun r2 σ1 h => ?_)
  refine ite_n h (fun c h => ?_)
  exact a_iret Rt dX12_isSome_7 (nar_z c).1 (ret_eq (h.trans (congrArg some hR.symm)))
set_option maxHeartbeats 4000000 in
set_option maxRecDepth 100000 in
theorem Z_X12_busiest {l : Launch} {D : va_G} {ids : List Nat} {ad : Nat → Nat} {ca : Nat → ClassId} {σ : HS} {x1 : Int32} {x2 : Int32} {r0 : Int32} {s0 : HS} (hid : ∀ i, i < 277 → i ∈ ids) (h : f_X12_busiest x1 x2 σ = some (r0, s0)) : Ki l D ids ad ca yX12_busiest cX12_busiest 5 .int 5 122 [.ref (ad 236), .int x1, .int x2] σ (fun r σ1 => r = r0 ∧ σ1 = s0) := by
  obtain ⟨R, hR⟩ : ∃ R, (r0, s0) = R := ⟨_, rfl⟩
  replace h := h.trans (congrArg some hR)
  refine Ki.of (by decide) (Nat.le_of_ble_eq_true rfl) 2 (fun Γ C Rt => ?_)
  show AW ids ad ca Γ 0 [some (.ref (ad 236)), some (.int x1), some (.int x2), none, none] [] σ
  unfold f_X12_busiest at h
  have j111 : ∀ (k85 : Int32 → Int32 → Int32 → HS → Option (Int32 × HS)) (hk85 : ∀ (y2 : Int32) (y3 : Int32) (y4 : Int32) (σ : HS), k85 y2 y3 y4 σ = some R → AW ids ad ca Γ 85 [some (.ref (ad 236)), none, some (.int y2), some (.int y3), some (.int y4)] [] σ) (y2 : Int32) (y3 : Int32) (y4 : Int32) (σ : HS), f_X12_busiest_111 k85 y2 y3 y4 σ = some R → AW ids ad ca Γ 111 [some (.ref (ad 236)), none, some (.int y2), some (.int y3), some (.int y4)] [] σ := by
    intro k85 hk85 y2 y3 y4 σ h
    unfold f_X12_busiest_111 at h
    refine p_iinc C (y := (y4 + 1)) (fun z1 => [some (.ref (ad 236)), none, some (.int y2), some (.int y3), some (.int z1)]) dX12_busiest_111 rfl rfl (by decide) rfl (fun _ => rfl) h (fun z1 h => ?_)
    refine a_goto C dX12_busiest_114 (tgt := 85) rfl ?_
    exact hk85 _ _ _ _ h
  have j85 : ∀ (n : Nat) (y2 : Int32) (y3 : Int32) (y4 : Int32) (σ : HS), f_X12_busiest_85 n y2 y3 y4 σ = some R → AW ids ad ca Γ 85 [some (.ref (ad 236)), none, some (.int y2), some (.int y3), some (.int y4)] [] σ := by
    intro n
    induction n with
    | zero => intro y2 y3 y4 σ h; exact nn h
    | succ n ih =>
      intro y2 y3 y4 σ h
      have h : b_X12_busiest_85 (f_X12_busiest_85 n) y2 y3 y4 σ = some R := h
      unfold b_X12_busiest_85 at h
      refine a_iload C dX12_busiest_85 rfl ?_
      refine a_bipush C dX12_busiest_87 (v := 7) rfl ?_
      refine p_ic_ge C (X := y4.toInt) (Y := 7) rfl (by decide) dX12_busiest_89 (tgt := 117) rfl h (fun h => ?_) (fun h => ?_)
      ·
        refine a_aload_n C dX12_busiest_117 (i := 0) rfl rfl ?_
        refine a_get C fl_RX12_122 (i := 236) kd_236 (hid 236 (by decide)) (v := .ref (ad 271)) rfl dX12_busiest_118 ?_
        refine a_iload_n C dX12_busiest_121 (i := 3) rfl rfl ?_
        refine p_iald C (i := 271) (show rowOK 271 from ⟨kd_271, by decide⟩) hid (by rw [al_271]; rfl) dX12_busiest_122 h (fun h => ?_)
        refine p_if_ne C (X := (σ.1 271 y3.toInt.toNat).toInt) rfl dX12_busiest_123 (tgt := 131) rfl h (fun h => ?_) (fun h => ?_)
        ·
          refine a_iload_n C dX12_busiest_131 (i := 2) rfl rfl ?_
          refine p_if_ne C (X := y2.toInt) rfl dX12_busiest_132 (tgt := 139) rfl h (fun h => ?_) (fun h => ?_)
          ·
            refine a_aload_n C dX12_busiest_139 (i := 0) rfl rfl ?_
            refine a_get C fl_RX12_122 (i := 236) kd_236 (hid 236 (by decide)) (v := .ref (ad 271)) rfl dX12_busiest_140 ?_
            refine a_iload_n C dX12_busiest_143 (i := 3) rfl rfl ?_
            refine p_iald C (i := 271) (show rowOK 271 from ⟨kd_271, by decide⟩) hid (by rw [al_271]; rfl) dX12_busiest_144 h (fun h => ?_)
            exact a_iret Rt dX12_busiest_145 rfl (ret_eq (h.trans (congrArg some hR.symm)))
          ·
            refine a_iload_n C dX12_busiest_135 (i := 3) rfl rfl ?_
            refine a_goto C dX12_busiest_136 (tgt := 145) rfl ?_
            exact a_iret Rt dX12_busiest_145 rfl (ret_eq (h.trans (congrArg some hR.symm)))
        ·
          refine a_bipush C dX12_busiest_126 (v := (-2)) rfl ?_
          refine a_goto C dX12_busiest_128 (tgt := 145) rfl ?_
          exact a_iret Rt dX12_busiest_145 rfl (ret_eq (h.trans (congrArg some hR.symm)))
      ·
        refine a_aload_n C dX12_busiest_92 (i := 0) rfl rfl ?_
        refine a_get C fl_RX12_122 (i := 236) kd_236 (hid 236 (by decide)) (v := .ref (ad 271)) rfl dX12_busiest_93 ?_
        refine a_iload C dX12_busiest_96 rfl ?_
        refine p_iald C (i := 271) (show rowOK 271 from ⟨kd_271, by decide⟩) hid (by rw [al_271]; rfl) dX12_busiest_98 h (fun h => ?_)
        refine a_aload_n C dX12_busiest_99 (i := 0) rfl rfl ?_
        refine a_get C fl_RX12_122 (i := 236) kd_236 (hid 236 (by decide)) (v := .ref (ad 271)) rfl dX12_busiest_100 ?_
        refine a_iload_n C dX12_busiest_103 (i := 3) rfl rfl ?_
        refine p_iald C (i := 271) (show rowOK 271 from ⟨kd_271, by decide⟩) hid (by rw [al_271]; rfl) dX12_busiest_104 h (fun h => ?_)
        refine p_ic_le C (X := (σ.1 271 y4.toInt.toNat).toInt) (Y := (σ.1 271 y3.toInt.toNat).toInt) rfl rfl dX12_busiest_105 (tgt := 111) rfl h (fun h => ?_) (fun h => ?_)
        ·
          exact j111 (f_X12_busiest_85 n) (fun y2 y3 y4 σ h => ih y2 y3 y4 σ h) _ _ _ _ h
        ·
          refine a_iload C dX12_busiest_108 rfl ?_
          refine a_istore_n C dX12_busiest_110 (i := 3) rfl (by decide) rfl (vs1 := [some (.ref (ad 236)), none, some (.int y2), some (.int y4), some (.int y4)]) rfl ?_
          exact j111 (f_X12_busiest_85 n) (fun y2 y3 y4 σ h => ih y2 y3 y4 σ h) _ _ _ _ h
  have j74 : ∀ (k45 : Int32 → Int32 → Int32 → HS → Option (Int32 × HS)) (hk45 : ∀ (y1 : Int32) (y2 : Int32) (y3 : Int32) (σ : HS), k45 y1 y2 y3 σ = some R → AW ids ad ca Γ 45 [some (.ref (ad 236)), some (.int y1), some (.int y2), some (.int y3), none] [] σ) (y1 : Int32) (y2 : Int32) (y3 : Int32) (σ : HS), f_X12_busiest_74 k45 y1 y2 y3 σ = some R → AW ids ad ca Γ 74 [some (.ref (ad 236)), some (.int y1), some (.int y2), some (.int y3), none] [] σ := by
    intro k45 hk45 y1 y2 y3 σ h
    unfold f_X12_busiest_74 at h
    refine p_iinc C (y := (y3 + 1)) (fun z1 => [some (.ref (ad 236)), some (.int y1), some (.int y2), some (.int z1), none]) dX12_busiest_74 rfl rfl (by decide) rfl (fun _ => rfl) h (fun z1 h => ?_)
    refine a_goto C dX12_busiest_77 (tgt := 45) rfl ?_
    exact hk45 _ _ _ _ h
  have j45 : ∀ (n : Nat) (y1 : Int32) (y2 : Int32) (y3 : Int32) (σ : HS), f_X12_busiest_45 n y1 y2 y3 σ = some R → AW ids ad ca Γ 45 [some (.ref (ad 236)), some (.int y1), some (.int y2), some (.int y3), none] [] σ := by
    intro n
    induction n with
    | zero => intro y1 y2 y3 σ h; exact nn h
    | succ n ih =>
      intro y1 y2 y3 σ h
      have h : b_X12_busiest_45 (f_X12_busiest_45 n) y1 y2 y3 σ = some R := h
      unfold b_X12_busiest_45 at h
      refine a_iload_n C dX12_busiest_45 (i := 3) rfl rfl ?_
      refine a_iload_n C dX12_busiest_46 (i := 1) rfl rfl ?_
      refine p_ic_ge C (X := y3.toInt) (Y := y1.toInt) rfl rfl dX12_busiest_47 (tgt := 80) rfl h (fun h => ?_) (fun h => ?_)
      ·
        refine a_iconst C dX12_busiest_80 (v := 0) rfl ?_
        refine a_istore_n C dX12_busiest_81 (i := 3) rfl (by decide) rfl (vs1 := [some (.ref (ad 236)), some (.int y1), some (.int y2), some (.int 0), none]) rfl ?_
        refine a_iconst C dX12_busiest_82 (v := 1) rfl ?_
        refine a_istore C dX12_busiest_83 (by decide) rfl (vs1 := [some (.ref (ad 236)), some (.int y1), some (.int y2), some (.int 0), some (.int 1)]) rfl ?_
        refine AW.sub (vs' := [some (.ref (ad 236)), none, some (.int y2), some (.int 0), some (.int 1)]) (lsub_of (by simp [lsubB])) ?_
        exact j85 _ _ _ _ _ h
      ·
        refine a_aload_n C dX12_busiest_50 (i := 0) rfl rfl ?_
        refine p_callVv C (As := []) (i := 236) kd_236 (hid 236 (by decide)) ⟨_, _, rfl⟩ (by decide) h (fun _ e => Z_X12_beatGoes hid e) mi_X12_beatGoes ml_RX12_387 rfl rfl (Nat.le_of_ble_eq_true rfl) (Nat.le_of_ble_eq_true rfl) (Nat.le_of_ble_eq_true rfl) dX12_busiest_51 (fun σ1 h => ?_)
        refine a_aload_n C dX12_busiest_54 (i := 0) rfl rfl ?_
        refine a_get C fl_RX12_341 (i := 236) kd_236 (hid 236 (by decide)) (v := .int (σ1.1 236 51)) rfl dX12_busiest_55 ?_
        refine p_if_lt C (X := (σ1.1 236 51).toInt) rfl dX12_busiest_58 (tgt := 74) rfl h (fun h => ?_) (fun h => ?_)
        ·
          exact j74 (f_X12_busiest_45 n) (fun y1 y2 y3 σ h => ih y1 y2 y3 σ h) _ _ _ _ h
        ·
          refine a_aload_n C dX12_busiest_61 (i := 0) rfl rfl ?_
          refine a_get C fl_RX12_122 (i := 236) kd_236 (hid 236 (by decide)) (v := .ref (ad 271)) rfl dX12_busiest_62 ?_
          refine a_aload_n C dX12_busiest_65 (i := 0) rfl rfl ?_
          refine a_get C fl_RX12_341 (i := 236) kd_236 (hid 236 (by decide)) (v := .int (σ1.1 236 51)) rfl dX12_busiest_66 ?_
          refine a_dup2 C dX12_busiest_69 rfl rfl ?_
          refine p_iald C (i := 271) (show rowOK 271 from ⟨kd_271, by decide⟩) hid (by rw [al_271]; rfl) dX12_busiest_70 h (fun h => ?_)
          refine a_iconst C dX12_busiest_71 (v := 1) rfl ?_
          refine a_iadd C dX12_busiest_72 ?_
          refine p_iast C (i := 271) (show rowOK 271 from ⟨kd_271, by decide⟩) hid (by rw [al_271]; rfl) dX12_busiest_73 h (fun σ3 h => ?_)
          exact j74 (f_X12_busiest_45 n) (fun y1 y2 y3 σ h => ih y1 y2 y3 σ h) _ _ _ _ h
  have j24 : ∀ (n : Nat) (y1 : Int32) (y2 : Int32) (y3 : Int32) (σ : HS), f_X12_busiest_24 n y1 y2 y3 σ = some R → AW ids ad ca Γ 24 [some (.ref (ad 236)), some (.int y1), some (.int y2), some (.int y3), none] [] σ := by
    intro n
    induction n with
    | zero => intro y1 y2 y3 σ h; exact nn h
    | succ n ih =>
      intro y1 y2 y3 σ h
      have h : b_X12_busiest_24 (f_X12_busiest_24 n) y1 y2 y3 σ = some R := h
      unfold b_X12_busiest_24 at h
      refine a_iload_n C dX12_busiest_24 (i := 3) rfl rfl ?_
      refine a_bipush C dX12_busiest_25 (v := 7) rfl ?_
      refine p_ic_ge C (X := y3.toInt) (Y := 7) rfl (by decide) dX12_busiest_27 (tgt := 43) rfl h (fun h => ?_) (fun h => ?_)
      ·
        refine a_iconst C dX12_busiest_43 (v := 0) rfl ?_
        refine a_istore_n C dX12_busiest_44 (i := 3) rfl (by decide) rfl (vs1 := [some (.ref (ad 236)), some (.int y1), some (.int y2), some (.int 0), none]) rfl ?_
        exact j45 _ _ _ _ _ h
      ·
        refine a_aload_n C dX12_busiest_30 (i := 0) rfl rfl ?_
        refine a_get C fl_RX12_122 (i := 236) kd_236 (hid 236 (by decide)) (v := .ref (ad 271)) rfl dX12_busiest_31 ?_
        refine a_iload_n C dX12_busiest_34 (i := 3) rfl rfl ?_
        refine a_iconst C dX12_busiest_35 (v := 0) rfl ?_
        refine p_iast C (i := 271) (show rowOK 271 from ⟨kd_271, by decide⟩) hid (by rw [al_271]; rfl) dX12_busiest_36 h (fun σ1 h => ?_)
        refine p_iinc C (y := (y3 + 1)) (fun z2 => [some (.ref (ad 236)), some (.int y1), some (.int y2), some (.int z2), none]) dX12_busiest_37 rfl rfl (by decide) rfl (fun _ => rfl) h (fun z2 h => ?_)
        refine a_goto C dX12_busiest_40 (tgt := 24) rfl ?_
        exact ih _ _ _ _ h
  refine a_iload_n C dX12_busiest_0 (i := 1) rfl rfl ?_
  refine p_callSi C (As := [.int x1]) h (fun _ _ e => Z_X12_isSome hid e) ms_X12_isSome ml_RX12_454 rfl rfl (Nat.le_of_ble_eq_true rfl) (Nat.le_of_ble_eq_true rfl) (Nat.le_of_ble_eq_true rfl) dX12_busiest_1 (fun r2 σ1 h => ?_)
  refine p_if_eq C (X := r2.toInt) rfl dX12_busiest_4 (tgt := 16) rfl h (fun h => ?_) (fun h => ?_)
  ·
    refine a_iconst C dX12_busiest_16 (v := (-1)) rfl ?_
    exact a_iret Rt dX12_busiest_17 rfl (ret_eq (h.trans (congrArg some hR.symm)))
  ·
    refine a_iload_n C dX12_busiest_7 (i := 2) rfl rfl ?_
    refine a_iconst C dX12_busiest_8 (v := 0) rfl ?_
    refine a_iconst C dX12_busiest_9 (v := 1) rfl ?_
    refine p_callSi C (As := [.int x2, .int 0, .int 1]) h (fun _ _ e => Z_X12_in hid e) ms_X12_in ml_RX12_301 rfl rfl (Nat.le_of_ble_eq_true rfl) (Nat.le_of_ble_eq_true rfl) (Nat.le_of_ble_eq_true rfl) dX12_busiest_10 (fun r4 σ3 h => ?_)
    refine p_if_ne C (X := r4.toInt) rfl dX12_busiest_13 (tgt := 18) rfl h (fun h => ?_) (fun h => ?_)
    ·
      refine a_aload_n C dX12_busiest_18 (i := 0) rfl rfl ?_
      refine p_callVv C (As := []) (i := 236) kd_236 (hid 236 (by decide)) ⟨_, _, rfl⟩ (by decide) h (fun _ e => Z_X12_copiesStill hid e) mi_X12_copiesStill ml_RX12_429 rfl rfl (Nat.le_of_ble_eq_true rfl) (Nat.le_of_ble_eq_true rfl) (Nat.le_of_ble_eq_true rfl) dX12_busiest_19 (fun σ5 h => ?_)
      refine a_iconst C dX12_busiest_22 (v := 0) rfl ?_
      refine a_istore_n C dX12_busiest_23 (i := 3) rfl (by decide) rfl (vs1 := [some (.ref (ad 236)), some (.int x1), some (.int x2), some (.int 0), none]) rfl ?_
      exact j24 _ _ _ _ _ h
    ·
      refine a_iconst C dX12_busiest_16 (v := (-1)) rfl ?_
      exact a_iret Rt dX12_busiest_17 rfl (ret_eq (h.trans (congrArg some hR.symm)))
set_option maxHeartbeats 4000000 in
set_option maxRecDepth 100000 in
theorem Z_X12_load {l : Launch} {D : va_G} {ids : List Nat} {ad : Nat → Nat} {ca : Nat → ClassId} {σ : HS} {x1 : Int32} {r0 : Int32} {s0 : HS} (hid : ∀ i, i < 277 → i ∈ ids) (h : f_X12_load x1 σ = some (r0, s0)) : Ki l D ids ad ca yX12_load cX12_load 4 .int 5 122 [.ref (ad 236), .int x1] σ (fun r σ1 => r = r0 ∧ σ1 = s0) := by
  obtain ⟨R, hR⟩ : ∃ R, (r0, s0) = R := ⟨_, rfl⟩
  replace h := h.trans (congrArg some hR)
  refine Ki.of (by decide) (Nat.le_of_ble_eq_true rfl) 2 (fun Γ C Rt => ?_)
  show AW ids ad ca Γ 0 [some (.ref (ad 236)), some (.int x1), none, none] [] σ
  unfold f_X12_load at h
  have j53 : ∀ (k17 : Int32 → Int32 → Int32 → HS → Option (Int32 × HS)) (hk17 : ∀ (y1 : Int32) (y2 : Int32) (y3 : Int32) (σ : HS), k17 y1 y2 y3 σ = some R → AW ids ad ca Γ 17 [some (.ref (ad 236)), some (.int y1), some (.int y2), some (.int y3)] [] σ) (y1 : Int32) (y2 : Int32) (y3 : Int32) (σ : HS), f_X12_load_53 k17 y1 y2 y3 σ = some R → AW ids ad ca Γ 53 [some (.ref (ad 236)), some (.int y1), some (.int y2), some (.int y3)] [] σ := by
    intro k17 hk17 y1 y2 y3 σ h
    unfold f_X12_load_53 at h
    refine p_iinc C (y := (y3 + 1)) (fun z1 => [some (.ref (ad 236)), some (.int y1), some (.int y2), some (.int z1)]) dX12_load_53 rfl rfl (by decide) rfl (fun _ => rfl) h (fun z1 h => ?_)
    refine a_goto C dX12_load_56 (tgt := 17) rfl ?_
    exact hk17 _ _ _ _ h
  have j17 : ∀ (n : Nat) (y1 : Int32) (y2 : Int32) (y3 : Int32) (σ : HS), f_X12_load_17 n y1 y2 y3 σ = some R → AW ids ad ca Γ 17 [some (.ref (ad 236)), some (.int y1), some (.int y2), some (.int y3)] [] σ := by
    intro n
    induction n with
    | zero => intro y1 y2 y3 σ h; exact nn h
    | succ n ih =>
      intro y1 y2 y3 σ h
      have h : b_X12_load_17 (f_X12_load_17 n) y1 y2 y3 σ = some R := h
      unfold b_X12_load_17 at h
      refine a_iload_n C dX12_load_17 (i := 3) rfl rfl ?_
      refine a_iload_n C dX12_load_18 (i := 1) rfl rfl ?_
      refine p_ic_ge C (X := y3.toInt) (Y := y1.toInt) rfl rfl dX12_load_19 (tgt := 59) rfl h (fun h => ?_) (fun h => ?_)
      ·
        refine a_iload_n C dX12_load_59 (i := 2) rfl rfl ?_
        exact a_iret Rt dX12_load_60 rfl (ret_eq (h.trans (congrArg some hR.symm)))
      ·
        refine a_aload_n C dX12_load_22 (i := 0) rfl rfl ?_
        refine p_callVv C (As := []) (i := 236) kd_236 (hid 236 (by decide)) ⟨_, _, rfl⟩ (by decide) h (fun _ e => Z_X12_beatGoes hid e) mi_X12_beatGoes ml_RX12_387 rfl rfl (Nat.le_of_ble_eq_true rfl) (Nat.le_of_ble_eq_true rfl) (Nat.le_of_ble_eq_true rfl) dX12_load_23 (fun σ1 h => ?_)
        refine a_aload_n C dX12_load_26 (i := 0) rfl rfl ?_
        refine a_get C fl_RX12_341 (i := 236) kd_236 (hid 236 (by decide)) (v := .int (σ1.1 236 51)) rfl dX12_load_27 ?_
        refine p_if_lt C (X := (σ1.1 236 51).toInt) rfl dX12_load_30 (tgt := 53) rfl h (fun h => ?_) (fun h => ?_)
        ·
          exact j53 (f_X12_load_17 n) (fun y1 y2 y3 σ h => ih y1 y2 y3 σ h) _ _ _ _ h
        ·
          refine a_iload_n C dX12_load_33 (i := 2) rfl rfl ?_
          refine a_aload_n C dX12_load_34 (i := 0) rfl rfl ?_
          refine a_get C fl_RX12_46 (i := 236) kd_236 (hid 236 (by decide)) (v := .ref (ad 246)) rfl dX12_load_35 ?_
          refine a_bipush C dX12_load_38 (v := 7) rfl ?_
          refine a_aload_n C dX12_load_40 (i := 0) rfl rfl ?_
          refine a_get C fl_RX12_221 (i := 236) kd_236 (hid 236 (by decide)) (v := .int (σ1.1 236 18)) rfl dX12_load_41 ?_
          refine a_imul C dX12_load_44 ?_
          refine a_aload_n C dX12_load_45 (i := 0) rfl rfl ?_
          refine a_get C fl_RX12_341 (i := 236) kd_236 (hid 236 (by decide)) (v := .int (σ1.1 236 51)) rfl dX12_load_46 ?_
          refine a_iadd C dX12_load_49 ?_
          refine p_iald C (i := 246) (show rowOK 246 from ⟨kd_246, by decide⟩) hid (by rw [al_246]; rfl) dX12_load_50 h (fun h => ?_)
          refine a_iadd C dX12_load_51 ?_
          refine p_istore_n C (fun z3 => [some (.ref (ad 236)), some (.int y1), some (.int z3), some (.int y3)]) dX12_load_52 (i := 2) rfl (by decide) rfl (fun _ => rfl) h (fun z3 h => ?_)
          exact j53 (f_X12_load_17 n) (fun y1 y2 y3 σ h => ih y1 y2 y3 σ h) _ _ _ _ h
  refine a_iload_n C dX12_load_0 (i := 1) rfl rfl ?_
  refine p_callSi C (As := [.int x1]) h (fun _ _ e => Z_X12_isSome hid e) ms_X12_isSome ml_RX12_454 rfl rfl (Nat.le_of_ble_eq_true rfl) (Nat.le_of_ble_eq_true rfl) (Nat.le_of_ble_eq_true rfl) dX12_load_1 (fun r2 σ1 h => ?_)
  refine p_if_ne C (X := r2.toInt) rfl dX12_load_4 (tgt := 9) rfl h (fun h => ?_) (fun h => ?_)
  ·
    refine a_aload_n C dX12_load_9 (i := 0) rfl rfl ?_
    refine p_callVv C (As := []) (i := 236) kd_236 (hid 236 (by decide)) ⟨_, _, rfl⟩ (by decide) h (fun _ e => Z_X12_copiesStill hid e) mi_X12_copiesStill ml_RX12_429 rfl rfl (Nat.le_of_ble_eq_true rfl) (Nat.le_of_ble_eq_true rfl) (Nat.le_of_ble_eq_true rfl) dX12_load_10 (fun σ3 h => ?_)
    refine a_iconst C dX12_load_13 (v := 0) rfl ?_
    refine a_istore_n C dX12_load_14 (i := 2) rfl (by decide) rfl (vs1 := [some (.ref (ad 236)), some (.int x1), some (.int 0), none]) rfl ?_
    refine a_iconst C dX12_load_15 (v := 0) rfl ?_
    refine a_istore_n C dX12_load_16 (i := 3) rfl (by decide) rfl (vs1 := [some (.ref (ad 236)), some (.int x1), some (.int 0), some (.int 0)]) rfl ?_
    exact j17 _ _ _ _ _ h
  ·
    refine a_iconst C dX12_load_7 (v := (-1)) rfl ?_
    exact a_iret Rt dX12_load_8 rfl (ret_eq (h.trans (congrArg some hR.symm)))
set_option maxHeartbeats 4000000 in
set_option maxRecDepth 100000 in
theorem Z_X12_gap {l : Launch} {D : va_G} {ids : List Nat} {ad : Nat → Nat} {ca : Nat → ClassId} {σ : HS} {r0 : Int32} {s0 : HS} (hid : ∀ i, i < 277 → i ∈ ids) (h : f_X12_gap σ = some (r0, s0)) : Ki l D ids ad ca yX12_gap cX12_gap 2 .int 5 122 [.ref (ad 236)] σ (fun r σ1 => r = r0 ∧ σ1 = s0) := by
  obtain ⟨R, hR⟩ : ∃ R, (r0, s0) = R := ⟨_, rfl⟩
  replace h := h.trans (congrArg some hR)
  refine Ki.of (by decide) (Nat.le_of_ble_eq_true rfl) 1 (fun Γ C Rt => ?_)
  show AW ids ad ca Γ 0 [some (.ref (ad 236)), none] [] σ
  unfold f_X12_gap at h
  have j6 : ∀ (n : Nat) (y1 : Int32) (σ : HS), f_X12_gap_6 n y1 σ = some R → AW ids ad ca Γ 6 [some (.ref (ad 236)), some (.int y1)] [] σ := by
    intro n
    induction n with
    | zero => intro y1 σ h; exact nn h
    | succ n ih =>
      intro y1 σ h
      have h : b_X12_gap_6 (f_X12_gap_6 n) y1 σ = some R := h
      unfold b_X12_gap_6 at h
      refine a_iload_n C dX12_gap_6 (i := 1) rfl rfl ?_
      refine a_bipush C dX12_gap_7 (v := 60) rfl ?_
      refine p_ic_gt C (X := y1.toInt) (Y := 60) rfl (by decide) dX12_gap_9 (tgt := 31) rfl h (fun h => ?_) (fun h => ?_)
      ·
        refine a_bipush C dX12_gap_31 (v := (-2)) rfl ?_
        exact a_iret Rt dX12_gap_33 rfl (ret_eq (h.trans (congrArg some hR.symm)))
      ·
        refine a_aload_n C dX12_gap_12 (i := 0) rfl rfl ?_
        refine p_callVv C (As := []) (i := 236) kd_236 (hid 236 (by decide)) ⟨_, _, rfl⟩ (by decide) h (fun _ e => Z_X12_beatGoes hid e) mi_X12_beatGoes ml_RX12_387 rfl rfl (Nat.le_of_ble_eq_true rfl) (Nat.le_of_ble_eq_true rfl) (Nat.le_of_ble_eq_true rfl) dX12_gap_13 (fun σ1 h => ?_)
        refine a_aload_n C dX12_gap_16 (i := 0) rfl rfl ?_
        refine a_get C fl_RX12_341 (i := 236) kd_236 (hid 236 (by decide)) (v := .int (σ1.1 236 51)) rfl dX12_gap_17 ?_
        refine p_if_ge C (X := (σ1.1 236 51).toInt) rfl dX12_gap_20 (tgt := 25) rfl h (fun h => ?_) (fun h => ?_)
        ·
          refine p_iinc C (y := (y1 + 1)) (fun z3 => [some (.ref (ad 236)), some (.int z3)]) dX12_gap_25 rfl rfl (by decide) rfl (fun _ => rfl) h (fun z3 h => ?_)
          refine a_goto C dX12_gap_28 (tgt := 6) rfl ?_
          exact ih _ _ h
        ·
          refine a_iload_n C dX12_gap_23 (i := 1) rfl rfl ?_
          exact a_iret Rt dX12_gap_24 rfl (ret_eq (h.trans (congrArg some hR.symm)))
  refine a_aload_n C dX12_gap_0 (i := 0) rfl rfl ?_
  refine p_callVv C (As := []) (i := 236) kd_236 (hid 236 (by decide)) ⟨_, _, rfl⟩ (by decide) h (fun _ e => Z_X12_copiesStill hid e) mi_X12_copiesStill ml_RX12_429 rfl rfl (Nat.le_of_ble_eq_true rfl) (Nat.le_of_ble_eq_true rfl) (Nat.le_of_ble_eq_true rfl) dX12_gap_1 (fun σ1 h => ?_)
  refine a_iconst C dX12_gap_4 (v := 0) rfl ?_
  refine a_istore_n C dX12_gap_5 (i := 1) rfl (by decide) rfl (vs1 := [some (.ref (ad 236)), some (.int 0)]) rfl ?_
  exact j6 _ _ _ h
set_option maxHeartbeats 4000000 in
set_option maxRecDepth 100000 in
theorem Z_X12_order {l : Launch} {D : va_G} {ids : List Nat} {ad : Nat → Nat} {ca : Nat → ClassId} {σ : HS} {x1 : Int32} {r0 : Int32} {s0 : HS} (hid : ∀ i, i < 277 → i ∈ ids) (h : f_X12_order x1 σ = some (r0, s0)) : Ki l D ids ad ca yX12_order cX12_order 4 .int 2 43 [.ref (ad 236), .int x1] σ (fun r σ1 => r = r0 ∧ σ1 = s0) := by
  obtain ⟨R, hR⟩ : ∃ R, (r0, s0) = R := ⟨_, rfl⟩
  replace h := h.trans (congrArg some hR)
  refine Ki.of (by decide) (Nat.le_of_ble_eq_true rfl) 2 (fun Γ C Rt => ?_)
  show AW ids ad ca Γ 0 [some (.ref (ad 236)), some (.int x1), none, none] [] σ
  unfold f_X12_order at h
  have j68 : ∀ (k20 : Int32 → Int32 → Int32 → HS → Option (Int32 × HS)) (hk20 : ∀ (y1 : Int32) (y2 : Int32) (y3 : Int32) (σ : HS), k20 y1 y2 y3 σ = some R → AW ids ad ca Γ 20 [some (.ref (ad 236)), some (.int y1), some (.int y2), some (.int y3)] [] σ) (y1 : Int32) (y2 : Int32) (y3 : Int32) (σ : HS), f_X12_order_68 k20 y1 y2 y3 σ = some R → AW ids ad ca Γ 68 [some (.ref (ad 236)), some (.int y1), some (.int y2), some (.int y3)] [] σ := by
    intro k20 hk20 y1 y2 y3 σ h
    unfold f_X12_order_68 at h
    refine p_iinc C (y := (y3 + 1)) (fun z1 => [some (.ref (ad 236)), some (.int y1), some (.int y2), some (.int z1)]) dX12_order_68 rfl rfl (by decide) rfl (fun _ => rfl) h (fun z1 h => ?_)
    refine a_goto C dX12_order_71 (tgt := 20) rfl ?_
    exact hk20 _ _ _ _ h
  have j20 : ∀ (n : Nat) (y1 : Int32) (y2 : Int32) (y3 : Int32) (σ : HS), f_X12_order_20 n y1 y2 y3 σ = some R → AW ids ad ca Γ 20 [some (.ref (ad 236)), some (.int y1), some (.int y2), some (.int y3)] [] σ := by
    intro n
    induction n with
    | zero => intro y1 y2 y3 σ h; exact nn h
    | succ n ih =>
      intro y1 y2 y3 σ h
      have h : b_X12_order_20 (f_X12_order_20 n) y1 y2 y3 σ = some R := h
      unfold b_X12_order_20 at h
      refine a_iload_n C dX12_order_20 (i := 3) rfl rfl ?_
      refine a_bipush C dX12_order_21 (v := 70) rfl ?_
      refine p_ic_ge C (X := y3.toInt) (Y := 70) rfl (by decide) dX12_order_23 (tgt := 74) rfl h (fun h => ?_) (fun h => ?_)
      ·
        refine a_iconst C dX12_order_74 (v := (-1)) rfl ?_
        exact a_iret Rt dX12_order_75 rfl (ret_eq (h.trans (congrArg some hR.symm)))
      ·
        refine a_aload_n C dX12_order_26 (i := 0) rfl rfl ?_
        refine a_iload_n C dX12_order_27 (i := 3) rfl rfl ?_
        refine a_bipush C dX12_order_28 (v := 7) rfl ?_
        refine a_irem C dX12_order_30 (by decide) ?_
        refine p_callVi C (As := [.int (y3 - y3 / (7 : Int32) * (7 : Int32))]) (i := 236) kd_236 (hid 236 (by decide)) ⟨_, _, rfl⟩ (by decide) h (fun _ _ e => Z_X12_isThing hid e) mi_X12_isThing ml_RX12_390 rfl rfl (Nat.le_of_ble_eq_true rfl) (Nat.le_of_ble_eq_true rfl) (Nat.le_of_ble_eq_true rfl) dX12_order_31 (fun r2 σ1 h => ?_)
        refine p_if_eq C (X := r2.toInt) rfl dX12_order_34 (tgt := 68) rfl h (fun h => ?_) (fun h => ?_)
        ·
          exact j68 (f_X12_order_20 n) (fun y1 y2 y3 σ h => ih y1 y2 y3 σ h) _ _ _ _ h
        ·
          refine a_aload_n C dX12_order_37 (i := 0) rfl rfl ?_
          refine a_iload_n C dX12_order_38 (i := 3) rfl rfl ?_
          refine a_bipush C dX12_order_39 (v := 7) rfl ?_
          refine a_irem C dX12_order_41 (by decide) ?_
          refine a_iload_n C dX12_order_42 (i := 3) rfl rfl ?_
          refine a_bipush C dX12_order_43 (v := 7) rfl ?_
          refine a_idiv C dX12_order_45 (by decide) ?_
          refine p_callVi C (As := [.int (y3 - y3 / (7 : Int32) * (7 : Int32)), .int (y3 / (7 : Int32))]) (i := 236) kd_236 (hid 236 (by decide)) ⟨_, _, rfl⟩ (by decide) h (fun _ _ e => Z_X12_doesLand hid e) mi_X12_doesLand ml_RX12_324 rfl rfl (Nat.le_of_ble_eq_true rfl) (Nat.le_of_ble_eq_true rfl) (Nat.le_of_ble_eq_true rfl) dX12_order_46 (fun r4 σ3 h => ?_)
          refine p_if_ne C (X := r4.toInt) rfl dX12_order_49 (tgt := 55) rfl h (fun h => ?_) (fun h => ?_)
          ·
            refine a_iload_n C dX12_order_55 (i := 2) rfl rfl ?_
            refine a_iload_n C dX12_order_56 (i := 1) rfl rfl ?_
            refine p_ic_ne C (X := y2.toInt) (Y := y1.toInt) rfl rfl dX12_order_57 (tgt := 65) rfl h (fun h => ?_) (fun h => ?_)
            ·
              refine p_iinc C (y := (y2 + 1)) (fun z5 => [some (.ref (ad 236)), some (.int y1), some (.int z5), some (.int y3)]) dX12_order_65 rfl rfl (by decide) rfl (fun _ => rfl) h (fun z5 h => ?_)
              exact j68 (f_X12_order_20 n) (fun y1 y2 y3 σ h => ih y1 y2 y3 σ h) _ _ _ _ h
            ·
              refine a_iload_n C dX12_order_60 (i := 3) rfl rfl ?_
              refine a_bipush C dX12_order_61 (v := 7) rfl ?_
              refine a_irem C dX12_order_63 (by decide) ?_
              exact a_iret Rt dX12_order_64 rfl (ret_eq (h.trans (congrArg some hR.symm)))
          ·
            refine a_goto C dX12_order_52 (tgt := 68) rfl ?_
            exact j68 (f_X12_order_20 n) (fun y1 y2 y3 σ h => ih y1 y2 y3 σ h) _ _ _ _ h
  refine a_iload_n C dX12_order_0 (i := 1) rfl rfl ?_
  refine a_iconst C dX12_order_1 (v := 0) rfl ?_
  refine a_bipush C dX12_order_2 (v := 6) rfl ?_
  refine p_callSi C (As := [.int x1, .int 0, .int 6]) h (fun _ _ e => Z_X12_in hid e) ms_X12_in ml_RX12_301 rfl rfl (Nat.le_of_ble_eq_true rfl) (Nat.le_of_ble_eq_true rfl) (Nat.le_of_ble_eq_true rfl) dX12_order_4 (fun r2 σ1 h => ?_)
  refine p_if_ne C (X := r2.toInt) rfl dX12_order_7 (tgt := 12) rfl h (fun h => ?_) (fun h => ?_)
  ·
    refine a_aload_n C dX12_order_12 (i := 0) rfl rfl ?_
    refine p_callVv C (As := []) (i := 236) kd_236 (hid 236 (by decide)) ⟨_, _, rfl⟩ (by decide) h (fun _ e => Z_X12_copies hid e) mi_X12_copies ml_RX12_311 rfl rfl (Nat.le_of_ble_eq_true rfl) (Nat.le_of_ble_eq_true rfl) (Nat.le_of_ble_eq_true rfl) dX12_order_13 (fun σ3 h => ?_)
    refine a_iconst C dX12_order_16 (v := 0) rfl ?_
    refine a_istore_n C dX12_order_17 (i := 2) rfl (by decide) rfl (vs1 := [some (.ref (ad 236)), some (.int x1), some (.int 0), none]) rfl ?_
    refine a_iconst C dX12_order_18 (v := 0) rfl ?_
    refine a_istore_n C dX12_order_19 (i := 3) rfl (by decide) rfl (vs1 := [some (.ref (ad 236)), some (.int x1), some (.int 0), some (.int 0)]) rfl ?_
    exact j20 _ _ _ _ _ h
  ·
    refine a_iconst C dX12_order_10 (v := (-1)) rfl ?_
    exact a_iret Rt dX12_order_11 rfl (ret_eq (h.trans (congrArg some hR.symm)))
set_option maxHeartbeats 4000000 in
set_option maxRecDepth 100000 in
theorem Z_X12_ways {l : Launch} {D : va_G} {ids : List Nat} {ad : Nat → Nat} {ca : Nat → ClassId} {σ : HS} {x1 : Int32} {x2 : Int32} {x3 : Int32} {x4 : Int32} {r0 : Int32} {s0 : HS} (hid : ∀ i, i < 277 → i ∈ ids) (h : f_X12_ways x1 x2 x3 x4 σ = some (r0, s0)) : Ki l D ids ad ca yX12_ways cX12_ways 10 .int 1 24 [.ref (ad 236), .int x1, .int x2, .int x3, .int x4] σ (fun r σ1 => r = r0 ∧ σ1 = s0) := by
  obtain ⟨R, hR⟩ : ∃ R, (r0, s0) = R := ⟨_, rfl⟩
  replace h := h.trans (congrArg some hR)
  refine Ki.of (by decide) (Nat.le_of_ble_eq_true rfl) 5 (fun Γ C Rt => ?_)
  show AW ids ad ca Γ 0 [some (.ref (ad 236)), some (.int x1), some (.int x2), some (.int x3), some (.int x4), none, none, none, none, none] [] σ
  unfold f_X12_ways at h
  have j155 : ∀ (k80 : Int32 → Int32 → Int32 → Int32 → Int32 → Int32 → Int32 → HS → Option (Int32 × HS)) (hk80 : ∀ (y1 : Int32) (y2 : Int32) (y3 : Int32) (y4 : Int32) (y5 : Int32) (y6 : Int32) (y7 : Int32) (σ : HS), k80 y1 y2 y3 y4 y5 y6 y7 σ = some R → AW ids ad ca Γ 80 [some (.ref (ad 236)), some (.int y1), some (.int y2), some (.int y3), some (.int y4), some (.int y5), some (.int y6), some (.int y7), none, none] [] σ) (y1 : Int32) (y2 : Int32) (y3 : Int32) (y4 : Int32) (y5 : Int32) (y6 : Int32) (y7 : Int32) (σ : HS), f_X12_ways_155 k80 y1 y2 y3 y4 y5 y6 y7 σ = some R → AW ids ad ca Γ 155 [some (.ref (ad 236)), some (.int y1), some (.int y2), some (.int y3), some (.int y4), some (.int y5), some (.int y6), some (.int y7), none, none] [] σ := by
    intro k80 hk80 y1 y2 y3 y4 y5 y6 y7 σ h
    unfold f_X12_ways_155 at h
    refine p_iinc C (y := (y7 + 1)) (fun z1 => [some (.ref (ad 236)), some (.int y1), some (.int y2), some (.int y3), some (.int y4), some (.int y5), some (.int y6), some (.int z1), none, none]) dX12_ways_155 rfl rfl (by decide) rfl (fun _ => rfl) h (fun z1 h => ?_)
    refine a_goto C dX12_ways_158 (tgt := 80) rfl ?_
    exact hk80 _ _ _ _ _ _ _ _ h
  have j96 : ∀ (k80 : Int32 → Int32 → Int32 → Int32 → Int32 → Int32 → Int32 → HS → Option (Int32 × HS)) (hk80 : ∀ (y1 : Int32) (y2 : Int32) (y3 : Int32) (y4 : Int32) (y5 : Int32) (y6 : Int32) (y7 : Int32) (σ : HS), k80 y1 y2 y3 y4 y5 y6 y7 σ = some R → AW ids ad ca Γ 80 [some (.ref (ad 236)), some (.int y1), some (.int y2), some (.int y3), some (.int y4), some (.int y5), some (.int y6), some (.int y7), none, none] [] σ) (n : Nat) (y1 : Int32) (y2 : Int32) (y3 : Int32) (y4 : Int32) (y5 : Int32) (y6 : Int32) (y7 : Int32) (y8 : Int32) (y9 : Int32) (σ : HS), f_X12_ways_96 k80 n y1 y2 y3 y4 y5 y6 y7 y8 y9 σ = some R → AW ids ad ca Γ 96 [some (.ref (ad 236)), some (.int y1), some (.int y2), some (.int y3), some (.int y4), some (.int y5), some (.int y6), some (.int y7), some (.int y8), some (.int y9)] [] σ := by
    intro k80 hk80 n
    induction n with
    | zero => intro y1 y2 y3 y4 y5 y6 y7 y8 y9 σ h; exact nn h
    | succ n ih =>
      intro y1 y2 y3 y4 y5 y6 y7 y8 y9 σ h
      have h : b_X12_ways_96 k80 (f_X12_ways_96 k80 n) y1 y2 y3 y4 y5 y6 y7 y8 y9 σ = some R := h
      unfold b_X12_ways_96 at h
      refine a_iload C dX12_ways_96 rfl ?_
      refine p_if_lt C (X := y9.toInt) rfl dX12_ways_98 (tgt := 128) rfl h (fun h => ?_) (fun h => ?_)
      ·
        refine a_aload_n C dX12_ways_128 (i := 0) rfl rfl ?_
        refine p_callVi C (As := []) (i := 236) kd_236 (hid 236 (by decide)) ⟨_, _, rfl⟩ (by decide) h (fun _ _ e => Z_X12_keeps hid e) mi_X12_keeps ml_RX12_414 rfl rfl (Nat.le_of_ble_eq_true rfl) (Nat.le_of_ble_eq_true rfl) (Nat.le_of_ble_eq_true rfl) dX12_ways_129 (fun r2 σ1 h => ?_)
        refine a_iload_n C dX12_ways_132 (i := 3) rfl rfl ?_
        refine p_ic_eq C (X := r2.toInt) (Y := y3.toInt) rfl rfl dX12_ways_133 (tgt := 139) rfl h (fun h => ?_) (fun h => ?_)
        ·
          refine a_iload C dX12_ways_139 rfl ?_
          refine p_if_lt C (X := y4.toInt) rfl dX12_ways_141 (tgt := 152) rfl h (fun h => ?_) (fun h => ?_)
          ·
            refine p_iinc C (y := (y6 + 1)) (fun z3 => [some (.ref (ad 236)), some (.int y1), some (.int y2), some (.int y3), some (.int y4), some (.int y5), some (.int z3), some (.int y7), some (.int y8), some (.int y9)]) dX12_ways_152 rfl rfl (by decide) rfl (fun _ => rfl) h (fun z3 h => ?_)
            refine AW.sub (vs' := [some (.ref (ad 236)), some (.int y1), some (.int y2), some (.int y3), some (.int y4), some (.int y5), some (.int z3), some (.int y7), none, none]) (lsub_of (by simp [lsubB])) ?_
            exact j155 k80 hk80 _ _ _ _ _ _ _ _ h
          ·
            refine a_aload_n C dX12_ways_144 (i := 0) rfl rfl ?_
            refine a_get C fl_RX12_116 (i := 236) kd_236 (hid 236 (by decide)) (v := .ref (ad 269)) rfl dX12_ways_145 ?_
            refine a_iload C dX12_ways_148 rfl ?_
            refine p_iald C (i := 269) (show rowOK 269 from ⟨kd_269, by decide⟩) hid (by rw [al_269]; rfl) dX12_ways_150 h (fun h => ?_)
            exact a_iret Rt dX12_ways_151 rfl (ret_eq (h.trans (congrArg some hR.symm)))
        ·
          refine a_goto C dX12_ways_136 (tgt := 155) rfl ?_
          refine AW.sub (vs' := [some (.ref (ad 236)), some (.int y1), some (.int y2), some (.int y3), some (.int y4), some (.int y5), some (.int y6), some (.int y7), none, none]) (lsub_of (by simp [lsubB])) ?_
          exact j155 k80 hk80 _ _ _ _ _ _ _ _ h
      ·
        refine a_aload_n C dX12_ways_101 (i := 0) rfl rfl ?_
        refine a_get C fl_RX12_116 (i := 236) kd_236 (hid 236 (by decide)) (v := .ref (ad 269)) rfl dX12_ways_102 ?_
        refine a_iload C dX12_ways_105 rfl ?_
        refine a_iload C dX12_ways_107 rfl ?_
        refine a_iload_n C dX12_ways_109 (i := 2) rfl rfl ?_
        refine a_iconst C dX12_ways_110 (v := 1) rfl ?_
        refine a_iadd C dX12_ways_111 ?_
        refine p_irem C rfl dX12_ways_112 h (fun h => ?_)
        refine p_iast C (i := 269) (show rowOK 269 from ⟨kd_269, by decide⟩) hid (by rw [al_269]; rfl) dX12_ways_113 h (fun σ4 h => ?_)
        refine a_iload C dX12_ways_114 rfl ?_
        refine a_iload_n C dX12_ways_116 (i := 2) rfl rfl ?_
        refine a_iconst C dX12_ways_117 (v := 1) rfl ?_
        refine a_iadd C dX12_ways_118 ?_
        refine p_idiv C rfl dX12_ways_119 h (fun h => ?_)
        refine p_istore C (fun z5 => [some (.ref (ad 236)), some (.int y1), some (.int y2), some (.int y3), some (.int y4), some (.int y5), some (.int y6), some (.int y7), some (.int z5), some (.int y9)]) dX12_ways_120 (by decide) rfl (fun _ => rfl) h (fun z5 h => ?_)
        refine p_iinc C (y := (y9 + (-1))) (fun z6 => [some (.ref (ad 236)), some (.int y1), some (.int y2), some (.int y3), some (.int y4), some (.int y5), some (.int y6), some (.int y7), some (.int z5), some (.int z6)]) dX12_ways_122 rfl rfl (by decide) rfl (fun _ => rfl) h (fun z6 h => ?_)
        refine a_goto C dX12_ways_125 (tgt := 96) rfl ?_
        exact ih _ _ _ _ _ _ _ _ _ _ h
  have j80 : ∀ (n : Nat) (y1 : Int32) (y2 : Int32) (y3 : Int32) (y4 : Int32) (y5 : Int32) (y6 : Int32) (y7 : Int32) (σ : HS), f_X12_ways_80 n y1 y2 y3 y4 y5 y6 y7 σ = some R → AW ids ad ca Γ 80 [some (.ref (ad 236)), some (.int y1), some (.int y2), some (.int y3), some (.int y4), some (.int y5), some (.int y6), some (.int y7), none, none] [] σ := by
    intro n
    induction n with
    | zero => intro y1 y2 y3 y4 y5 y6 y7 σ h; exact nn h
    | succ n ih =>
      intro y1 y2 y3 y4 y5 y6 y7 σ h
      have h : b_X12_ways_80 (f_X12_ways_80 n) y1 y2 y3 y4 y5 y6 y7 σ = some R := h
      unfold b_X12_ways_80 at h
      refine a_iload C dX12_ways_80 rfl ?_
      refine a_iload C dX12_ways_82 rfl ?_
      refine p_ic_ge C (X := y7.toInt) (Y := y5.toInt) rfl rfl dX12_ways_84 (tgt := 161) rfl h (fun h => ?_) (fun h => ?_)
      ·
        refine a_iload C dX12_ways_161 rfl ?_
        refine a_iconst C dX12_ways_163 (v := (-1)) rfl ?_
        refine p_ic_ne C (X := y4.toInt) (Y := (-1)) rfl (by decide) dX12_ways_164 (tgt := 172) rfl h (fun h => ?_) (fun h => ?_)
        ·
          refine a_bipush C dX12_ways_172 (v := (-2)) rfl ?_
          exact a_iret Rt dX12_ways_174 rfl (ret_eq (h.trans (congrArg some hR.symm)))
        ·
          refine a_iload C dX12_ways_167 rfl ?_
          refine a_goto C dX12_ways_169 (tgt := 174) rfl ?_
          exact a_iret Rt dX12_ways_174 rfl (ret_eq (h.trans (congrArg some hR.symm)))
      ·
        refine a_iload C dX12_ways_87 rfl ?_
        refine a_istore C dX12_ways_89 (by decide) rfl (vs1 := [some (.ref (ad 236)), some (.int y1), some (.int y2), some (.int y3), some (.int y4), some (.int y5), some (.int y6), some (.int y7), some (.int y7), none]) rfl ?_
        refine a_iload_n C dX12_ways_91 (i := 1) rfl rfl ?_
        refine a_iconst C dX12_ways_92 (v := 1) rfl ?_
        refine a_isub C dX12_ways_93 ?_
        refine p_istore C (fun z1 => [some (.ref (ad 236)), some (.int y1), some (.int y2), some (.int y3), some (.int y4), some (.int y5), some (.int y6), some (.int y7), some (.int y7), some (.int z1)]) dX12_ways_94 (by decide) rfl (fun _ => rfl) h (fun z1 h => ?_)
        exact j96 (f_X12_ways_80 n) (fun y1 y2 y3 y4 y5 y6 y7 σ h => ih y1 y2 y3 y4 y5 y6 y7 σ h) _ _ _ _ _ _ _ _ _ _ _ h
  have j49 : ∀ (n : Nat) (y1 : Int32) (y2 : Int32) (y3 : Int32) (y4 : Int32) (y5 : Int32) (y6 : Int32) (σ : HS), f_X12_ways_49 n y1 y2 y3 y4 y5 y6 σ = some R → AW ids ad ca Γ 49 [some (.ref (ad 236)), some (.int y1), some (.int y2), some (.int y3), some (.int y4), some (.int y5), some (.int y6), none, none, none] [] σ := by
    intro n
    induction n with
    | zero => intro y1 y2 y3 y4 y5 y6 σ h; exact nn h
    | succ n ih =>
      intro y1 y2 y3 y4 y5 y6 σ h
      have h : b_X12_ways_49 (f_X12_ways_49 n) y1 y2 y3 y4 y5 y6 σ = some R := h
      unfold b_X12_ways_49 at h
      refine a_iload C dX12_ways_49 rfl ?_
      refine a_iload_n C dX12_ways_51 (i := 1) rfl rfl ?_
      refine p_ic_ge C (X := y6.toInt) (Y := y1.toInt) rfl rfl dX12_ways_52 (tgt := 69) rfl h (fun h => ?_) (fun h => ?_)
      ·
        refine a_aload_n C dX12_ways_69 (i := 0) rfl rfl ?_
        refine a_iload_n C dX12_ways_70 (i := 1) rfl rfl ?_
        refine p_put C fp_RX12_408 (i := 236) kd_236 (hid 236 (by decide)) rfl rfl dX12_ways_71 h (fun σ1 h => ?_)
        refine a_iconst C dX12_ways_74 (v := 0) rfl ?_
        refine a_istore C dX12_ways_75 (by decide) rfl (vs1 := [some (.ref (ad 236)), some (.int y1), some (.int y2), some (.int y3), some (.int y4), some (.int y5), some (.int 0), none, none, none]) rfl ?_
        refine a_iconst C dX12_ways_77 (v := 0) rfl ?_
        refine a_istore C dX12_ways_78 (by decide) rfl (vs1 := [some (.ref (ad 236)), some (.int y1), some (.int y2), some (.int y3), some (.int y4), some (.int y5), some (.int 0), some (.int 0), none, none]) rfl ?_
        exact j80 _ _ _ _ _ _ _ _ _ h
      ·
        refine a_iload C dX12_ways_55 rfl ?_
        refine a_iload_n C dX12_ways_57 (i := 2) rfl rfl ?_
        refine a_iconst C dX12_ways_58 (v := 1) rfl ?_
        refine a_iadd C dX12_ways_59 ?_
        refine a_imul C dX12_ways_60 ?_
        refine p_istore C (fun z2 => [some (.ref (ad 236)), some (.int y1), some (.int y2), some (.int y3), some (.int y4), some (.int z2), some (.int y6), none, none, none]) dX12_ways_61 (by decide) rfl (fun _ => rfl) h (fun z2 h => ?_)
        refine p_iinc C (y := (y6 + 1)) (fun z3 => [some (.ref (ad 236)), some (.int y1), some (.int y2), some (.int y3), some (.int y4), some (.int z2), some (.int z3), none, none, none]) dX12_ways_63 rfl rfl (by decide) rfl (fun _ => rfl) h (fun z3 h => ?_)
        refine a_goto C dX12_ways_66 (tgt := 49) rfl ?_
        exact ih _ _ _ _ _ _ _ h
  refine a_iload_n C dX12_ways_0 (i := 1) rfl rfl ?_
  refine a_iconst C dX12_ways_1 (v := 1) rfl ?_
  refine a_iconst C dX12_ways_2 (v := 5) rfl ?_
  refine p_callSi C (As := [.int x1, .int 1, .int 5]) h (fun _ _ e => Z_X12_in hid e) ms_X12_in ml_RX12_301 rfl rfl (Nat.le_of_ble_eq_true rfl) (Nat.le_of_ble_eq_true rfl) (Nat.le_of_ble_eq_true rfl) dX12_ways_3 (fun r2 σ1 h => ?_)
  refine p_if_eq C (X := r2.toInt) rfl dX12_ways_6 (tgt := 41) rfl h (fun h => ?_) (fun h => ?_)
  ·
    refine a_iconst C dX12_ways_41 (v := (-1)) rfl ?_
    exact a_iret Rt dX12_ways_42 rfl (ret_eq (h.trans (congrArg some hR.symm)))
  ·
    refine a_iload_n C dX12_ways_9 (i := 2) rfl rfl ?_
    refine a_iconst C dX12_ways_10 (v := 1) rfl ?_
    refine a_bipush C dX12_ways_11 (v := 7) rfl ?_
    refine p_callSi C (As := [.int x2, .int 1, .int 7]) h (fun _ _ e => Z_X12_in hid e) ms_X12_in ml_RX12_301 rfl rfl (Nat.le_of_ble_eq_true rfl) (Nat.le_of_ble_eq_true rfl) (Nat.le_of_ble_eq_true rfl) dX12_ways_13 (fun r4 σ3 h => ?_)
    refine p_if_eq C (X := r4.toInt) rfl dX12_ways_16 (tgt := 41) rfl h (fun h => ?_) (fun h => ?_)
    ·
      refine a_iconst C dX12_ways_41 (v := (-1)) rfl ?_
      exact a_iret Rt dX12_ways_42 rfl (ret_eq (h.trans (congrArg some hR.symm)))
    ·
      refine a_iload_n C dX12_ways_19 (i := 3) rfl rfl ?_
      refine a_iconst C dX12_ways_20 (v := 0) rfl ?_
      refine a_bipush C dX12_ways_21 (v := 7) rfl ?_
      refine p_callSi C (As := [.int x3, .int 0, .int 7]) h (fun _ _ e => Z_X12_in hid e) ms_X12_in ml_RX12_301 rfl rfl (Nat.le_of_ble_eq_true rfl) (Nat.le_of_ble_eq_true rfl) (Nat.le_of_ble_eq_true rfl) dX12_ways_23 (fun r6 σ5 h => ?_)
      refine p_if_eq C (X := r6.toInt) rfl dX12_ways_26 (tgt := 41) rfl h (fun h => ?_) (fun h => ?_)
      ·
        refine a_iconst C dX12_ways_41 (v := (-1)) rfl ?_
        exact a_iret Rt dX12_ways_42 rfl (ret_eq (h.trans (congrArg some hR.symm)))
      ·
        refine a_iload C dX12_ways_29 rfl ?_
        refine a_iconst C dX12_ways_31 (v := (-1)) rfl ?_
        refine a_iload_n C dX12_ways_32 (i := 1) rfl rfl ?_
        refine a_iconst C dX12_ways_33 (v := 1) rfl ?_
        refine a_isub C dX12_ways_34 ?_
        refine p_callSi C (As := [.int x4, .int (-1), .int (x1 - (1 : Int32))]) h (fun _ _ e => Z_X12_in hid e) ms_X12_in ml_RX12_301 rfl rfl (Nat.le_of_ble_eq_true rfl) (Nat.le_of_ble_eq_true rfl) (Nat.le_of_ble_eq_true rfl) dX12_ways_35 (fun r8 σ7 h => ?_)
        refine p_if_ne C (X := r8.toInt) rfl dX12_ways_38 (tgt := 43) rfl h (fun h => ?_) (fun h => ?_)
        ·
          refine a_iconst C dX12_ways_43 (v := 1) rfl ?_
          refine a_istore C dX12_ways_44 (by decide) rfl (vs1 := [some (.ref (ad 236)), some (.int x1), some (.int x2), some (.int x3), some (.int x4), some (.int 1), none, none, none, none]) rfl ?_
          refine a_iconst C dX12_ways_46 (v := 0) rfl ?_
          refine a_istore C dX12_ways_47 (by decide) rfl (vs1 := [some (.ref (ad 236)), some (.int x1), some (.int x2), some (.int x3), some (.int x4), some (.int 1), some (.int 0), none, none, none]) rfl ?_
          exact j49 _ _ _ _ _ _ _ _ h
        ·
          refine a_iconst C dX12_ways_41 (v := (-1)) rfl ?_
          exact a_iret Rt dX12_ways_42 rfl (ret_eq (h.trans (congrArg some hR.symm)))
set_option maxHeartbeats 4000000 in
set_option maxRecDepth 100000 in
theorem Z_X12_light {l : Launch} {D : va_G} {ids : List Nat} {ad : Nat → Nat} {ca : Nat → ClassId} {σ : HS} {x1 : Int32} {x2 : Int32} {r0 : Int32} {s0 : HS} (hid : ∀ i, i < 277 → i ∈ ids) (h : f_X12_light x1 x2 σ = some (r0, s0)) : Ki l D ids ad ca yX12_light cX12_light 6 .int 6 144 [.ref (ad 236), .int x1, .int x2] σ (fun r σ1 => r = r0 ∧ σ1 = s0) := by
  obtain ⟨R, hR⟩ : ∃ R, (r0, s0) = R := ⟨_, rfl⟩
  replace h := h.trans (congrArg some hR)
  refine Ki.of (by decide) (Nat.le_of_ble_eq_true rfl) 3 (fun Γ C Rt => ?_)
  show AW ids ad ca Γ 0 [some (.ref (ad 236)), some (.int x1), some (.int x2), none, none, none] [] σ
  unfold f_X12_light at h
  have j108 : ∀ (k28 : Int32 → Int32 → Int32 → Int32 → Int32 → HS → Option (Int32 × HS)) (hk28 : ∀ (y1 : Int32) (y2 : Int32) (y3 : Int32) (y4 : Int32) (y5 : Int32) (σ : HS), k28 y1 y2 y3 y4 y5 σ = some R → AW ids ad ca Γ 28 [some (.ref (ad 236)), some (.int y1), some (.int y2), some (.int y3), some (.int y4), some (.int y5)] [] σ) (y1 : Int32) (y2 : Int32) (y3 : Int32) (y4 : Int32) (y5 : Int32) (σ : HS), f_X12_light_108 k28 y1 y2 y3 y4 y5 σ = some R → AW ids ad ca Γ 108 [some (.ref (ad 236)), some (.int y1), some (.int y2), some (.int y3), some (.int y4), some (.int y5)] [] σ := by
    intro k28 hk28 y1 y2 y3 y4 y5 σ h
    unfold f_X12_light_108 at h
    refine p_iinc C (y := (y5 + 1)) (fun z1 => [some (.ref (ad 236)), some (.int y1), some (.int y2), some (.int y3), some (.int y4), some (.int z1)]) dX12_light_108 rfl rfl (by decide) rfl (fun _ => rfl) h (fun z1 h => ?_)
    refine a_goto C dX12_light_111 (tgt := 28) rfl ?_
    exact hk28 _ _ _ _ _ _ h
  have j96 : ∀ (k28 : Int32 → Int32 → Int32 → Int32 → Int32 → HS → Option (Int32 × HS)) (hk28 : ∀ (y1 : Int32) (y2 : Int32) (y3 : Int32) (y4 : Int32) (y5 : Int32) (σ : HS), k28 y1 y2 y3 y4 y5 σ = some R → AW ids ad ca Γ 28 [some (.ref (ad 236)), some (.int y1), some (.int y2), some (.int y3), some (.int y4), some (.int y5)] [] σ) (y1 : Int32) (y2 : Int32) (y5 : Int32) (σ : HS), f_X12_light_96 k28 y1 y2 y5 σ = some R → AW ids ad ca Γ 96 [some (.ref (ad 236)), some (.int y1), some (.int y2), none, none, some (.int y5)] [] σ := by
    intro k28 hk28 y1 y2 y5 σ h
    unfold f_X12_light_96 at h
    refine a_iload C dX12_light_96 rfl ?_
    refine a_istore_n C dX12_light_98 (i := 3) rfl (by decide) rfl (vs1 := [some (.ref (ad 236)), some (.int y1), some (.int y2), some (.int y5), none, some (.int y5)]) rfl ?_
    refine a_aload_n C dX12_light_99 (i := 0) rfl rfl ?_
    refine a_get C fl_RX12_110 (i := 236) kd_236 (hid 236 (by decide)) (v := .ref (ad 267)) rfl dX12_light_100 ?_
    refine a_bipush C dX12_light_103 (v := 22) rfl ?_
    refine p_ialdc C (i := 267) 22 (show rowOK 267 from ⟨kd_267, by decide⟩) hid (by decide) (by rw [al_267]; decide) dX12_light_105 ?_
    refine p_istore C (fun z1 => [some (.ref (ad 236)), some (.int y1), some (.int y2), some (.int y5), some (.int z1), some (.int y5)]) dX12_light_106 (by decide) rfl (fun _ => rfl) h (fun z1 h => ?_)
    exact j108 k28 hk28 _ _ _ _ _ _ h
  have j28 : ∀ (n : Nat) (y1 : Int32) (y2 : Int32) (y3 : Int32) (y4 : Int32) (y5 : Int32) (σ : HS), f_X12_light_28 n y1 y2 y3 y4 y5 σ = some R → AW ids ad ca Γ 28 [some (.ref (ad 236)), some (.int y1), some (.int y2), some (.int y3), some (.int y4), some (.int y5)] [] σ := by
    intro n
    induction n with
    | zero => intro y1 y2 y3 y4 y5 σ h; exact nn h
    | succ n ih =>
      intro y1 y2 y3 y4 y5 σ h
      have h : b_X12_light_28 (f_X12_light_28 n) y1 y2 y3 y4 y5 σ = some R := h
      unfold b_X12_light_28 at h
      refine a_iload C dX12_light_28 rfl ?_
      refine a_aload_n C dX12_light_30 (i := 0) rfl rfl ?_
      refine a_get C fl_RX12_55 (i := 236) kd_236 (hid 236 (by decide)) (v := .ref (ad 249)) rfl dX12_light_31 ?_
      refine a_aload_n C dX12_light_34 (i := 0) rfl rfl ?_
      refine a_get C fl_RX12_221 (i := 236) kd_236 (hid 236 (by decide)) (v := .int (σ.1 236 18)) rfl dX12_light_35 ?_
      refine p_iald C (i := 249) (show rowOK 249 from ⟨kd_249, by decide⟩) hid (by rw [al_249]; rfl) dX12_light_38 h (fun h => ?_)
      refine p_ic_ge C (X := y5.toInt) (Y := (σ.1 249 (σ.1 236 18).toInt.toNat).toInt) rfl rfl dX12_light_39 (tgt := 114) rfl h (fun h => ?_) (fun h => ?_)
      ·
        refine a_iload_n C dX12_light_114 (i := 2) rfl rfl ?_
        refine p_if_ne C (X := y2.toInt) rfl dX12_light_115 (tgt := 122) rfl h (fun h => ?_) (fun h => ?_)
        ·
          refine a_iload C dX12_light_122 rfl ?_
          exact a_iret Rt dX12_light_124 rfl (ret_eq (h.trans (congrArg some hR.symm)))
        ·
          refine a_iload_n C dX12_light_118 (i := 3) rfl rfl ?_
          refine a_goto C dX12_light_119 (tgt := 124) rfl ?_
          exact a_iret Rt dX12_light_124 rfl (ret_eq (h.trans (congrArg some hR.symm)))
      ·
        refine a_aload_n C dX12_light_42 (i := 0) rfl rfl ?_
        refine p_callVv C (As := []) (i := 236) kd_236 (hid 236 (by decide)) ⟨_, _, rfl⟩ (by decide) h (fun _ e => Z_X12_copiesStill hid e) mi_X12_copiesStill ml_RX12_429 rfl rfl (Nat.le_of_ble_eq_true rfl) (Nat.le_of_ble_eq_true rfl) (Nat.le_of_ble_eq_true rfl) dX12_light_43 (fun σ1 h => ?_)
        refine a_aload_n C dX12_light_46 (i := 0) rfl rfl ?_
        refine a_iload C dX12_light_47 rfl ?_
        refine p_callVi C (As := [.int y5]) (i := 236) kd_236 (hid 236 (by decide)) ⟨_, _, rfl⟩ (by decide) h (fun _ _ e => Z_X12_keepsOf hid e) mi_X12_keepsOf ml_RX12_417 rfl rfl (Nat.le_of_ble_eq_true rfl) (Nat.le_of_ble_eq_true rfl) (Nat.le_of_ble_eq_true rfl) dX12_light_49 (fun r4 σ3 h => ?_)
        refine a_aload_n C dX12_light_52 (i := 0) rfl rfl ?_
        refine a_iconst C dX12_light_53 (v := 0) rfl ?_
        refine p_callVi C (As := [.int 0]) (i := 236) kd_236 (hid 236 (by decide)) ⟨_, _, rfl⟩ (by decide) h (fun _ _ e => Z_X12_thingsSo hid e) mi_X12_thingsSo ml_RX12_350 rfl rfl (Nat.le_of_ble_eq_true rfl) (Nat.le_of_ble_eq_true rfl) (Nat.le_of_ble_eq_true rfl) dX12_light_54 (fun r6 σ5 h => ?_)
        refine p_callSi C (As := [.int r6]) h (fun _ _ e => Z_X12_bits hid e) ms_X12_bits ml_RX12_353 rfl rfl (Nat.le_of_ble_eq_true rfl) (Nat.le_of_ble_eq_true rfl) (Nat.le_of_ble_eq_true rfl) dX12_light_57 (fun r8 σ7 h => ?_)
        refine p_ic_eq C (X := r4.toInt) (Y := r8.toInt) rfl rfl dX12_light_60 (tgt := 66) rfl h (fun h => ?_) (fun h => ?_)
        ·
          refine a_aload_n C dX12_light_66 (i := 0) rfl rfl ?_
          refine a_iload C dX12_light_67 rfl ?_
          refine p_callVv C (As := [.int y5]) (i := 236) kd_236 (hid 236 (by decide)) ⟨_, _, rfl⟩ (by decide) h (fun _ e => Z_X12_uses hid e) mi_X12_uses ml_RX12_399 rfl rfl (Nat.le_of_ble_eq_true rfl) (Nat.le_of_ble_eq_true rfl) (Nat.le_of_ble_eq_true rfl) dX12_light_69 (fun σ9 h => ?_)
          refine a_aload_n C dX12_light_72 (i := 0) rfl rfl ?_
          refine a_iload_n C dX12_light_73 (i := 1) rfl rfl ?_
          refine p_callVv C (As := [.int y1]) (i := 236) kd_236 (hid 236 (by decide)) ⟨_, _, rfl⟩ (by decide) h (fun _ e => Z_X12_goes hid e) mi_X12_goes ml_RX12_405 rfl rfl (Nat.le_of_ble_eq_true rfl) (Nat.le_of_ble_eq_true rfl) (Nat.le_of_ble_eq_true rfl) dX12_light_74 (fun σ11 h => ?_)
          refine a_iload_n C dX12_light_77 (i := 3) rfl rfl ?_
          refine p_if_lt C (X := y3.toInt) rfl dX12_light_78 (tgt := 96) rfl h (fun h => ?_) (fun h => ?_)
          ·
            refine AW.sub (vs' := [some (.ref (ad 236)), some (.int y1), some (.int y2), none, none, some (.int y5)]) (lsub_of (by simp [lsubB])) ?_
            exact j96 (f_X12_light_28 n) (fun y1 y2 y3 y4 y5 σ h => ih y1 y2 y3 y4 y5 σ h) _ _ _ _ h
          ·
            refine a_aload_n C dX12_light_81 (i := 0) rfl rfl ?_
            refine a_get C fl_RX12_110 (i := 236) kd_236 (hid 236 (by decide)) (v := .ref (ad 267)) rfl dX12_light_82 ?_
            refine a_bipush C dX12_light_85 (v := 22) rfl ?_
            refine p_ialdc C (i := 267) 22 (show rowOK 267 from ⟨kd_267, by decide⟩) hid (by decide) (by rw [al_267]; decide) dX12_light_87 ?_
            refine a_iload C dX12_light_88 rfl ?_
            refine p_ic_lt C (X := (σ11.1 267 22).toInt) (Y := y4.toInt) rfl rfl dX12_light_90 (tgt := 96) rfl h (fun h => ?_) (fun h => ?_)
            ·
              refine AW.sub (vs' := [some (.ref (ad 236)), some (.int y1), some (.int y2), none, none, some (.int y5)]) (lsub_of (by simp [lsubB])) ?_
              exact j96 (f_X12_light_28 n) (fun y1 y2 y3 y4 y5 σ h => ih y1 y2 y3 y4 y5 σ h) _ _ _ _ h
            ·
              refine a_goto C dX12_light_93 (tgt := 108) rfl ?_
              exact j108 (f_X12_light_28 n) (fun y1 y2 y3 y4 y5 σ h => ih y1 y2 y3 y4 y5 σ h) _ _ _ _ _ _ h
        ·
          refine a_goto C dX12_light_63 (tgt := 108) rfl ?_
          exact j108 (f_X12_light_28 n) (fun y1 y2 y3 y4 y5 σ h => ih y1 y2 y3 y4 y5 σ h) _ _ _ _ _ _ h
  refine a_iload_n C dX12_light_0 (i := 1) rfl rfl ?_
  refine p_callSi C (As := [.int x1]) h (fun _ _ e => Z_X12_isSome hid e) ms_X12_isSome ml_RX12_454 rfl rfl (Nat.le_of_ble_eq_true rfl) (Nat.le_of_ble_eq_true rfl) (Nat.le_of_ble_eq_true rfl) dX12_light_1 (fun r2 σ1 h => ?_)
  refine p_if_eq C (X := r2.toInt) rfl dX12_light_4 (tgt := 16) rfl h (fun h => ?_) (fun h => ?_)
  ·
    refine a_iconst C dX12_light_16 (v := (-1)) rfl ?_
    exact a_iret Rt dX12_light_17 rfl (ret_eq (h.trans (congrArg some hR.symm)))
  ·
    refine a_iload_n C dX12_light_7 (i := 2) rfl rfl ?_
    refine a_iconst C dX12_light_8 (v := 0) rfl ?_
    refine a_iconst C dX12_light_9 (v := 1) rfl ?_
    refine p_callSi C (As := [.int x2, .int 0, .int 1]) h (fun _ _ e => Z_X12_in hid e) ms_X12_in ml_RX12_301 rfl rfl (Nat.le_of_ble_eq_true rfl) (Nat.le_of_ble_eq_true rfl) (Nat.le_of_ble_eq_true rfl) dX12_light_10 (fun r4 σ3 h => ?_)
    refine p_if_ne C (X := r4.toInt) rfl dX12_light_13 (tgt := 18) rfl h (fun h => ?_) (fun h => ?_)
    ·
      refine a_bipush C dX12_light_18 (v := (-2)) rfl ?_
      refine a_istore_n C dX12_light_20 (i := 3) rfl (by decide) rfl (vs1 := [some (.ref (ad 236)), some (.int x1), some (.int x2), some (.int (-2)), none, none]) rfl ?_
      refine a_bipush C dX12_light_21 (v := (-2)) rfl ?_
      refine a_istore C dX12_light_23 (by decide) rfl (vs1 := [some (.ref (ad 236)), some (.int x1), some (.int x2), some (.int (-2)), some (.int (-2)), none]) rfl ?_
      refine a_iconst C dX12_light_25 (v := 0) rfl ?_
      refine a_istore C dX12_light_26 (by decide) rfl (vs1 := [some (.ref (ad 236)), some (.int x1), some (.int x2), some (.int (-2)), some (.int (-2)), some (.int 0)]) rfl ?_
      exact j28 _ _ _ _ _ _ _ h
    ·
      refine a_iconst C dX12_light_16 (v := (-1)) rfl ?_
      exact a_iret Rt dX12_light_17 rfl (ret_eq (h.trans (congrArg some hR.symm)))
set_option maxHeartbeats 4000000 in
set_option maxRecDepth 100000 in
theorem Z_X12_rule {l : Launch} {D : va_G} {ids : List Nat} {ad : Nat → Nat} {ca : Nat → ClassId} {σ : HS} {x1 : Int32} {r0 : Int32} {s0 : HS} (hid : ∀ i, i < 277 → i ∈ ids) (h : f_X12_rule x1 σ = some (r0, s0)) : Ki l D ids ad ca yX12_rule cX12_rule 4 .int 5 122 [.ref (ad 236), .int x1] σ (fun r σ1 => r = r0 ∧ σ1 = s0) := by
  obtain ⟨R, hR⟩ : ∃ R, (r0, s0) = R := ⟨_, rfl⟩
  replace h := h.trans (congrArg some hR)
  refine Ki.of (by decide) (Nat.le_of_ble_eq_true rfl) 2 (fun Γ C Rt => ?_)
  show AW ids ad ca Γ 0 [some (.ref (ad 236)), some (.int x1), none, none] [] σ
  unfold f_X12_rule at h
  have j19 : ∀ (n : Nat) (y1 : Int32) (y2 : Int32) (y3 : Int32) (σ : HS), f_X12_rule_19 n y1 y2 y3 σ = some R → AW ids ad ca Γ 19 [some (.ref (ad 236)), some (.int y1), some (.int y2), some (.int y3)] [] σ := by
    intro n
    induction n with
    | zero => intro y1 y2 y3 σ h; exact nn h
    | succ n ih =>
      intro y1 y2 y3 σ h
      have h : b_X12_rule_19 (f_X12_rule_19 n) y1 y2 y3 σ = some R := h
      unfold b_X12_rule_19 at h
      refine a_iload_n C dX12_rule_19 (i := 3) rfl rfl ?_
      refine a_iload_n C dX12_rule_20 (i := 1) rfl rfl ?_
      refine p_ic_ge C (X := y3.toInt) (Y := y1.toInt) rfl rfl dX12_rule_21 (tgt := 41) rfl h (fun h => ?_) (fun h => ?_)
      ·
        refine a_iload_n C dX12_rule_41 (i := 2) rfl rfl ?_
        exact a_iret Rt dX12_rule_42 rfl (ret_eq (h.trans (congrArg some hR.symm)))
      ·
        refine a_aload_n C dX12_rule_24 (i := 0) rfl rfl ?_
        refine p_callVv C (As := []) (i := 236) kd_236 (hid 236 (by decide)) ⟨_, _, rfl⟩ (by decide) h (fun _ e => Z_X12_beatGoes hid e) mi_X12_beatGoes ml_RX12_387 rfl rfl (Nat.le_of_ble_eq_true rfl) (Nat.le_of_ble_eq_true rfl) (Nat.le_of_ble_eq_true rfl) dX12_rule_25 (fun σ1 h => ?_)
        refine a_iload_n C dX12_rule_28 (i := 2) rfl rfl ?_
        refine a_aload_n C dX12_rule_29 (i := 0) rfl rfl ?_
        refine a_get C fl_RX12_365 (i := 236) kd_236 (hid 236 (by decide)) (v := .int (σ1.1 236 53)) rfl dX12_rule_30 ?_
        refine a_iadd C dX12_rule_33 ?_
        refine p_istore_n C (fun z3 => [some (.ref (ad 236)), some (.int y1), some (.int z3), some (.int y3)]) dX12_rule_34 (i := 2) rfl (by decide) rfl (fun _ => rfl) h (fun z3 h => ?_)
        refine p_iinc C (y := (y3 + 1)) (fun z4 => [some (.ref (ad 236)), some (.int y1), some (.int z3), some (.int z4)]) dX12_rule_35 rfl rfl (by decide) rfl (fun _ => rfl) h (fun z4 h => ?_)
        refine a_goto C dX12_rule_38 (tgt := 19) rfl ?_
        exact ih _ _ _ _ h
  refine a_iload_n C dX12_rule_0 (i := 1) rfl rfl ?_
  refine p_callSi C (As := [.int x1]) h (fun _ _ e => Z_X12_isSome hid e) ms_X12_isSome ml_RX12_454 rfl rfl (Nat.le_of_ble_eq_true rfl) (Nat.le_of_ble_eq_true rfl) (Nat.le_of_ble_eq_true rfl) dX12_rule_1 (fun r2 σ1 h => ?_)
  refine p_if_ne C (X := r2.toInt) rfl dX12_rule_4 (tgt := 11) rfl h (fun h => ?_) (fun h => ?_)
  ·
    refine a_aload_n C dX12_rule_11 (i := 0) rfl rfl ?_
    refine p_callVv C (As := []) (i := 236) kd_236 (hid 236 (by decide)) ⟨_, _, rfl⟩ (by decide) h (fun _ e => Z_X12_copiesStill hid e) mi_X12_copiesStill ml_RX12_429 rfl rfl (Nat.le_of_ble_eq_true rfl) (Nat.le_of_ble_eq_true rfl) (Nat.le_of_ble_eq_true rfl) dX12_rule_12 (fun σ3 h => ?_)
    refine a_iconst C dX12_rule_15 (v := 0) rfl ?_
    refine a_istore_n C dX12_rule_16 (i := 2) rfl (by decide) rfl (vs1 := [some (.ref (ad 236)), some (.int x1), some (.int 0), none]) rfl ?_
    refine a_iconst C dX12_rule_17 (v := 0) rfl ?_
    refine a_istore_n C dX12_rule_18 (i := 3) rfl (by decide) rfl (vs1 := [some (.ref (ad 236)), some (.int x1), some (.int 0), some (.int 0)]) rfl ?_
    exact j19 _ _ _ _ _ h
  ·
    refine a_ldcw C dX12_rule_7 ko_RX12_457 ?_
    exact a_iret Rt dX12_rule_10 rfl (ret_eq (h.trans (congrArg some hR.symm)))
set_option maxHeartbeats 4000000 in
set_option maxRecDepth 100000 in
theorem Z_X12_down {l : Launch} {D : va_G} {ids : List Nat} {ad : Nat → Nat} {ca : Nat → ClassId} {σ : HS} {r0 : Int32} {s0 : HS} (hid : ∀ i, i < 277 → i ∈ ids) (h : f_X12_down σ = some (r0, s0)) : Ki l D ids ad ca yX12_down cX12_down 2 .int 5 122 [.ref (ad 236)] σ (fun r σ1 => r = r0 ∧ σ1 = s0) := by
  obtain ⟨R, hR⟩ : ∃ R, (r0, s0) = R := ⟨_, rfl⟩
  replace h := h.trans (congrArg some hR)
  refine Ki.of (by decide) (Nat.le_of_ble_eq_true rfl) 1 (fun Γ C Rt => ?_)
  show AW ids ad ca Γ 0 [some (.ref (ad 236)), none] [] σ
  unfold f_X12_down at h
  have j6 : ∀ (n : Nat) (y1 : Int32) (σ : HS), f_X12_down_6 n y1 σ = some R → AW ids ad ca Γ 6 [some (.ref (ad 236)), some (.int y1)] [] σ := by
    intro n
    induction n with
    | zero => intro y1 σ h; exact nn h
    | succ n ih =>
      intro y1 σ h
      have h : b_X12_down_6 (f_X12_down_6 n) y1 σ = some R := h
      unfold b_X12_down_6 at h
      refine a_iload_n C dX12_down_6 (i := 1) rfl rfl ?_
      refine a_sipush C dX12_down_7 (v := 200) rfl ?_
      refine p_ic_gt C (X := y1.toInt) (Y := 200) rfl (by decide) dX12_down_10 (tgt := 33) rfl h (fun h => ?_) (fun h => ?_)
      ·
        refine a_bipush C dX12_down_33 (v := (-2)) rfl ?_
        exact a_iret Rt dX12_down_35 rfl (ret_eq (h.trans (congrArg some hR.symm)))
      ·
        refine a_aload_n C dX12_down_13 (i := 0) rfl rfl ?_
        refine a_iconst C dX12_down_14 (v := 0) rfl ?_
        refine p_callVi C (As := [.int 0]) (i := 236) kd_236 (hid 236 (by decide)) ⟨_, _, rfl⟩ (by decide) h (fun _ _ e => Z_X12_thingsSo hid e) mi_X12_thingsSo ml_RX12_350 rfl rfl (Nat.le_of_ble_eq_true rfl) (Nat.le_of_ble_eq_true rfl) (Nat.le_of_ble_eq_true rfl) dX12_down_15 (fun r2 σ1 h => ?_)
        refine p_if_ne C (X := r2.toInt) rfl dX12_down_18 (tgt := 23) rfl h (fun h => ?_) (fun h => ?_)
        ·
          refine a_aload_n C dX12_down_23 (i := 0) rfl rfl ?_
          refine p_callVv C (As := []) (i := 236) kd_236 (hid 236 (by decide)) ⟨_, _, rfl⟩ (by decide) h (fun _ e => Z_X12_beatGoes hid e) mi_X12_beatGoes ml_RX12_387 rfl rfl (Nat.le_of_ble_eq_true rfl) (Nat.le_of_ble_eq_true rfl) (Nat.le_of_ble_eq_true rfl) dX12_down_24 (fun σ3 h => ?_)
          refine p_iinc C (y := (y1 + 1)) (fun z5 => [some (.ref (ad 236)), some (.int z5)]) dX12_down_27 rfl rfl (by decide) rfl (fun _ => rfl) h (fun z5 h => ?_)
          refine a_goto C dX12_down_30 (tgt := 6) rfl ?_
          exact ih _ _ h
        ·
          refine a_iload_n C dX12_down_21 (i := 1) rfl rfl ?_
          exact a_iret Rt dX12_down_22 rfl (ret_eq (h.trans (congrArg some hR.symm)))
  refine a_aload_n C dX12_down_0 (i := 0) rfl rfl ?_
  refine p_callVv C (As := []) (i := 236) kd_236 (hid 236 (by decide)) ⟨_, _, rfl⟩ (by decide) h (fun _ e => Z_X12_copiesStill hid e) mi_X12_copiesStill ml_RX12_429 rfl rfl (Nat.le_of_ble_eq_true rfl) (Nat.le_of_ble_eq_true rfl) (Nat.le_of_ble_eq_true rfl) dX12_down_1 (fun σ1 h => ?_)
  refine a_iconst C dX12_down_4 (v := 0) rfl ?_
  refine a_istore_n C dX12_down_5 (i := 1) rfl (by decide) rfl (vs1 := [some (.ref (ad 236)), some (.int 0)]) rfl ?_
  exact j6 _ _ _ h

