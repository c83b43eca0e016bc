set_option maxHeartbeats 4000000 in
set_option maxRecDepth 100000 in
theorem Z_X11_firstClash {l : Launch} {D : va_G} {ids : List Nat} {ad : Nat → Nat} {ca : Nat → ClassId} {σ : HS} {x1 : Int32} {r0 : Int32} {s0 : HS} (hid : ∀ i, i < 277 → i ∈ ids) (h : f_X11_firstClash x1 σ = some (r0, s0)) : Ki l D ids ad ca yX11_firstClash cX11_firstClash 3 .int 6 146 [.ref (ad 0), .int x1] σ (fun r σ1 => r = r0 ∧ σ1 = s0) := by
  obtain ⟨R, hR⟩ : ∃ R, (r0, s0) = R := ⟨_, rfl⟩
  replace h := h.trans (congrArg some hR)
  refine Ki.of (by decide) (Nat.le_of_ble_eq_true rfl) 1 (fun Γ C Rt => ?_)
  show AW ids ad ca Γ 0 [some (.ref (ad 0)), some (.int x1), none] [] σ
  unfold f_X11_firstClash at h
  have j2 : ∀ (n : Nat) (y1 : Int32) (y2 : Int32) (σ : HS), f_X11_firstClash_2 n y1 y2 σ = some R → AW ids ad ca Γ 2 [some (.ref (ad 0)), some (.int y1), some (.int y2)] [] σ := by
    intro n
    induction n with
    | zero => intro y1 y2 σ h; exact nn h
    | succ n ih =>
      intro y1 y2 σ h
      have h : b_X11_firstClash_2 (f_X11_firstClash_2 n) y1 y2 σ = some R := h
      unfold b_X11_firstClash_2 at h
      refine a_iload_n C dX11_firstClash_2 (i := 2) rfl rfl ?_
      refine a_iload_n C dX11_firstClash_3 (i := 1) rfl rfl ?_
      refine p_ic_gt C (X := y2.toInt) (Y := y1.toInt) rfl rfl dX11_firstClash_4 (tgt := 41) rfl h (fun h => ?_) (fun h => ?_)
      ·
        refine a_bipush C dX11_firstClash_41 (v := (-2)) rfl ?_
        exact a_iret Rt dX11_firstClash_43 rfl (ret_eq (h.trans (congrArg some hR.symm)))
      ·
        refine a_aload_n C dX11_firstClash_7 (i := 0) rfl rfl ?_
        refine a_get C fl_RX11_58 (i := 0) kd_0 (hid 0 (by decide)) (v := .ref (ad 60)) rfl dX11_firstClash_8 ?_
        refine p_callVi C (As := []) (i := 60) (show airOK 60 from airOK_of 1 (by decide)).1.1 (hid _ (show airOK 60 from airOK_of 1 (by decide)).1.2) ⟨_, _, rfl⟩ (by decide) h (fun _ _ e => Z_X0_howManyLand hid (show airOK 60 from airOK_of 1 (by decide)) e) mi_X0_howManyLand ml_RX11_292 rfl rfl (Nat.le_of_ble_eq_true rfl) (Nat.le_of_ble_eq_true rfl) (Nat.le_of_ble_eq_true rfl) dX11_firstClash_11 (fun r2 σ1 h => ?_)
        refine a_iconst C dX11_firstClash_14 (v := 1) rfl ?_
        refine p_ic_le C (X := r2.toInt) (Y := 1) rfl (by decide) dX11_firstClash_15 (tgt := 20) rfl h (fun h => ?_) (fun h => ?_)
        ·
          refine a_aload_n C dX11_firstClash_20 (i := 0) rfl rfl ?_
          refine a_get C fl_RX11_19 (i := 0) kd_0 (hid 0 (by decide)) (v := .ref (ad 8)) rfl dX11_firstClash_21 ?_
          refine a_aload_n C dX11_firstClash_24 (i := 0) rfl rfl ?_
          refine p_getT C fl_RX11_82 (tx := (σ1.2.2 0)) kd_0 (hid 0 (by decide)) (fun t e => by subst e; rfl) dX11_firstClash_25 h (fun ht3 h => ?_)
          refine a_aload_n C dX11_firstClash_28 (i := 0) rfl rfl ?_
          refine a_get C fl_RX11_58 (i := 0) kd_0 (hid 0 (by decide)) (v := .ref (ad 60)) rfl dX11_firstClash_29 ?_
          refine p_callVv C (As := [.ref (ad ((σ1.2.2 0))), .ref (ad 60)]) (i := 8) kd_8 (hid 8 (by decide)) ⟨_, _, rfl⟩ (by decide) h (fun _ e => Z_X4_goOnSafely hid ht3 (show airOK 60 from airOK_of 1 (by decide)) e) mi_X4_goOnSafely ml_RX11_285 rfl rfl (Nat.le_of_ble_eq_true rfl) (Nat.le_of_ble_eq_true rfl) (Nat.le_of_ble_eq_true rfl) dX11_firstClash_32 (fun σ4 h => ?_)
          refine p_iinc C (y := (y2 + 1)) (fun z6 => [some (.ref (ad 0)), some (.int y1), some (.int z6)]) dX11_firstClash_35 rfl rfl (by decide) rfl (fun _ => rfl) h (fun z6 h => ?_)
          refine a_goto C dX11_firstClash_38 (tgt := 2) rfl ?_
          exact ih _ _ _ h
        ·
          refine a_iload_n C dX11_firstClash_18 (i := 2) rfl rfl ?_
          exact a_iret Rt dX11_firstClash_19 rfl (ret_eq (h.trans (congrArg some hR.symm)))
  refine a_iconst C dX11_firstClash_0 (v := 0) rfl ?_
  refine a_istore_n C dX11_firstClash_1 (i := 2) rfl (by decide) rfl (vs1 := [some (.ref (ad 0)), some (.int x1), some (.int 0)]) rfl ?_
  exact j2 _ _ _ _ h
set_option maxHeartbeats 4000000 in
set_option maxRecDepth 100000 in
theorem Z_X11_clash {l : Launch} {D : va_G} {ids : List Nat} {ad : Nat → Nat} {ca : Nat → ClassId} {σ : HS} {r0 : Int32} {s0 : HS} (hid : ∀ i, i < 277 → i ∈ ids) (h : f_X11_clash σ = some (r0, s0)) : Ki l D ids ad ca yX11_clash cX11_clash 1 .int 7 168 [.ref (ad 0)] σ (fun r σ1 => r = r0 ∧ σ1 = s0) := by
  obtain ⟨R, hR⟩ : ∃ R, (r0, s0) = R := ⟨_, rfl⟩
  replace h := h.trans (congrArg some hR)
  refine Ki.of (by decide) (Nat.le_of_ble_eq_true rfl) 0 (fun Γ C Rt => ?_)
  show AW ids ad ca Γ 0 [some (.ref (ad 0))] [] σ
  unfold f_X11_clash at h
  refine a_aload_n C dX11_clash_0 (i := 0) rfl rfl ?_
  refine a_get C fl_RX11_58 (i := 0) kd_0 (hid 0 (by decide)) (v := .ref (ad 60)) rfl dX11_clash_1 ?_
  refine a_aload_n C dX11_clash_4 (i := 0) rfl rfl ?_
  refine a_get C fl_RX11_54 (i := 0) kd_0 (hid 0 (by decide)) (v := .ref (ad 56)) rfl dX11_clash_5 ?_
  refine p_callVv C (As := [.ref (ad 56)]) (i := 60) (show airOK 60 from airOK_of 1 (by decide)).1.1 (hid _ (show airOK 60 from airOK_of 1 (by decide)).1.2) ⟨_, _, rfl⟩ (by decide) h (fun _ e => Z_X0_copy hid (show airOK 60 from airOK_of 1 (by decide)) (show airOK 56 from airOK_of 0 (by decide)) e) mi_X0_copy ml_RX11_230 rfl rfl (Nat.le_of_ble_eq_true rfl) (Nat.le_of_ble_eq_true rfl) (Nat.le_of_ble_eq_true rfl) dX11_clash_8 (fun σ1 h => ?_)
  refine a_aload_n C dX11_clash_11 (i := 0) rfl rfl ?_
  refine a_bipush C dX11_clash_12 (v := 60) rfl ?_
  refine p_callVi C (As := [.int 60]) (i := 0) kd_0 (hid 0 (by decide)) ⟨_, _, rfl⟩ (by decide) h (fun _ _ e => Z_X11_firstClash hid e) mi_X11_firstClash ml_RX11_289 rfl rfl (Nat.le_of_ble_eq_true rfl) (Nat.le_of_ble_eq_true rfl) (Nat.le_of_ble_eq_true rfl) dX11_clash_14 (fun r4 σ3 h => ?_)
  exact a_iret Rt dX11_clash_17 rfl (ret_eq (h.trans (congrArg some hR.symm)))
set_option maxHeartbeats 4000000 in
set_option maxRecDepth 100000 in
theorem Z_X11_gap {l : Launch} {D : va_G} {ids : List Nat} {ad : Nat → Nat} {ca : Nat → ClassId} {σ : HS} {r0 : Int32} {s0 : HS} (hid : ∀ i, i < 277 → i ∈ ids) (h : f_X11_gap σ = some (r0, s0)) : Ki l D ids ad ca yX11_gap cX11_gap 2 .int 6 146 [.ref (ad 0)] σ (fun r σ1 => r = r0 ∧ σ1 = s0) := by
  obtain ⟨R, hR⟩ : ∃ R, (r0, s0) = R := ⟨_, rfl⟩
  replace h := h.trans (congrArg some hR)
  refine Ki.of (by decide) (Nat.le_of_ble_eq_true rfl) 1 (fun Γ C Rt => ?_)
  show AW ids ad ca Γ 0 [some (.ref (ad 0)), none] [] σ
  unfold f_X11_gap at h
  have j13 : ∀ (n : Nat) (y1 : Int32) (σ : HS), f_X11_gap_13 n y1 σ = some R → AW ids ad ca Γ 13 [some (.ref (ad 0)), some (.int y1)] [] σ := by
    intro n
    induction n with
    | zero => intro y1 σ h; exact nn h
    | succ n ih =>
      intro y1 σ h
      have h : b_X11_gap_13 (f_X11_gap_13 n) y1 σ = some R := h
      unfold b_X11_gap_13 at h
      refine a_iload_n C dX11_gap_13 (i := 1) rfl rfl ?_
      refine a_bipush C dX11_gap_14 (v := 60) rfl ?_
      refine p_ic_gt C (X := y1.toInt) (Y := 60) rfl (by decide) dX11_gap_16 (tgt := 52) rfl h (fun h => ?_) (fun h => ?_)
      ·
        refine a_bipush C dX11_gap_52 (v := (-2)) rfl ?_
        exact a_iret Rt dX11_gap_54 rfl (ret_eq (h.trans (congrArg some hR.symm)))
      ·
        refine a_aload_n C dX11_gap_19 (i := 0) rfl rfl ?_
        refine a_get C fl_RX11_58 (i := 0) kd_0 (hid 0 (by decide)) (v := .ref (ad 60)) rfl dX11_gap_20 ?_
        refine p_callVi C (As := []) (i := 60) (show airOK 60 from airOK_of 1 (by decide)).1.1 (hid _ (show airOK 60 from airOK_of 1 (by decide)).1.2) ⟨_, _, rfl⟩ (by decide) h (fun _ _ e => Z_X0_howManyLand hid (show airOK 60 from airOK_of 1 (by decide)) e) mi_X0_howManyLand ml_RX11_292 rfl rfl (Nat.le_of_ble_eq_true rfl) (Nat.le_of_ble_eq_true rfl) (Nat.le_of_ble_eq_true rfl) dX11_gap_23 (fun r2 σ1 h => ?_)
        refine p_if_ne C (X := r2.toInt) rfl dX11_gap_26 (tgt := 31) rfl h (fun h => ?_) (fun h => ?_)
        ·
          refine a_aload_n C dX11_gap_31 (i := 0) rfl rfl ?_
          refine a_get C fl_RX11_19 (i := 0) kd_0 (hid 0 (by decide)) (v := .ref (ad 8)) rfl dX11_gap_32 ?_
          refine a_aload_n C dX11_gap_35 (i := 0) rfl rfl ?_
          refine p_getT C fl_RX11_82 (tx := (σ1.2.2 0)) kd_0 (hid 0 (by decide)) (fun t e => by subst e; rfl) dX11_gap_36 h (fun ht3 h => ?_)
          refine a_aload_n C dX11_gap_39 (i := 0) rfl rfl ?_
          refine a_get C fl_RX11_58 (i := 0) kd_0 (hid 0 (by decide)) (v := .ref (ad 60)) rfl dX11_gap_40 ?_
          refine p_callVv C (As := [.ref (ad ((σ1.2.2 0))), .ref (ad 60)]) (i := 8) kd_8 (hid 8 (by decide)) ⟨_, _, rfl⟩ (by decide) h (fun _ e => Z_X4_goOnSafely hid ht3 (show airOK 60 from airOK_of 1 (by decide)) e) mi_X4_goOnSafely ml_RX11_285 rfl rfl (Nat.le_of_ble_eq_true rfl) (Nat.le_of_ble_eq_true rfl) (Nat.le_of_ble_eq_true rfl) dX11_gap_43 (fun σ4 h => ?_)
          refine p_iinc C (y := (y1 + 1)) (fun z6 => [some (.ref (ad 0)), some (.int z6)]) dX11_gap_46 rfl rfl (by decide) rfl (fun _ => rfl) h (fun z6 h => ?_)
          refine a_goto C dX11_gap_49 (tgt := 13) rfl ?_
          exact ih _ _ h
        ·
          refine a_iload_n C dX11_gap_29 (i := 1) rfl rfl ?_
          exact a_iret Rt dX11_gap_30 rfl (ret_eq (h.trans (congrArg some hR.symm)))
  refine a_aload_n C dX11_gap_0 (i := 0) rfl rfl ?_
  refine a_get C fl_RX11_58 (i := 0) kd_0 (hid 0 (by decide)) (v := .ref (ad 60)) rfl dX11_gap_1 ?_
  refine a_aload_n C dX11_gap_4 (i := 0) rfl rfl ?_
  refine a_get C fl_RX11_54 (i := 0) kd_0 (hid 0 (by decide)) (v := .ref (ad 56)) rfl dX11_gap_5 ?_
  refine p_callVv C (As := [.ref (ad 56)]) (i := 60) (show airOK 60 from airOK_of 1 (by decide)).1.1 (hid _ (show airOK 60 from airOK_of 1 (by decide)).1.2) ⟨_, _, rfl⟩ (by decide) h (fun _ e => Z_X0_copy hid (show airOK 60 from airOK_of 1 (by decide)) (show airOK 56 from airOK_of 0 (by decide)) e) mi_X0_copy ml_RX11_230 rfl rfl (Nat.le_of_ble_eq_true rfl) (Nat.le_of_ble_eq_true rfl) (Nat.le_of_ble_eq_true rfl) dX11_gap_8 (fun σ1 h => ?_)
  refine a_iconst C dX11_gap_11 (v := 0) rfl ?_
  refine a_istore_n C dX11_gap_12 (i := 1) rfl (by decide) rfl (vs1 := [some (.ref (ad 0)), some (.int 0)]) rfl ?_
  exact j13 _ _ _ h
set_option maxHeartbeats 4000000 in
set_option maxRecDepth 100000 in
theorem Z_X11_room {l : Launch} {D : va_G} {ids : List Nat} {ad : Nat → Nat} {ca : Nat → ClassId} {σ : HS} {x1 : Int32} {r0 : Int32} {s0 : HS} (hid : ∀ i, i < 277 → i ∈ ids) (h : f_X11_room x1 σ = some (r0, s0)) : Ki l D ids ad ca yX11_room cX11_room 3 .int 7 168 [.ref (ad 0), .int x1] σ (fun r σ1 => r = r0 ∧ σ1 = s0) := by
  obtain ⟨R, hR⟩ : ∃ R, (r0, s0) = R := ⟨_, rfl⟩
  replace h := h.trans (congrArg some hR)
  refine Ki.of (by decide) (Nat.le_of_ble_eq_true rfl) 1 (fun Γ C Rt => ?_)
  show AW ids ad ca Γ 0 [some (.ref (ad 0)), some (.int x1), none] [] σ
  unfold f_X11_room at h
  have j26 : ∀ (n : Nat) (y1 : Int32) (y2 : Int32) (σ : HS), f_X11_room_26 n y1 y2 σ = some R → AW ids ad ca Γ 26 [some (.ref (ad 0)), some (.int y1), some (.int y2)] [] σ := by
    intro n
    induction n with
    | zero => intro y1 y2 σ h; exact nn h
    | succ n ih =>
      intro y1 y2 σ h
      have h : b_X11_room_26 (f_X11_room_26 n) y1 y2 σ = some R := h
      unfold b_X11_room_26 at h
      refine a_iload_n C dX11_room_26 (i := 2) rfl rfl ?_
      refine a_bipush C dX11_room_27 (v := 9) rfl ?_
      refine p_ic_gt C (X := y2.toInt) (Y := 9) rfl (by decide) dX11_room_29 (tgt := 71) rfl h (fun h => ?_) (fun h => ?_)
      ·
        refine a_bipush C dX11_room_71 (v := (-2)) rfl ?_
        exact a_iret Rt dX11_room_73 rfl (ret_eq (h.trans (congrArg some hR.symm)))
      ·
        refine a_aload_n C dX11_room_32 (i := 0) rfl rfl ?_
        refine a_get C fl_RX11_58 (i := 0) kd_0 (hid 0 (by decide)) (v := .ref (ad 60)) rfl dX11_room_33 ?_
        refine a_aload_n C dX11_room_36 (i := 0) rfl rfl ?_
        refine a_get C fl_RX11_54 (i := 0) kd_0 (hid 0 (by decide)) (v := .ref (ad 56)) rfl dX11_room_37 ?_
        refine p_callVv C (As := [.ref (ad 56)]) (i := 60) (show airOK 60 from airOK_of 1 (by decide)).1.1 (hid _ (show airOK 60 from airOK_of 1 (by decide)).1.2) ⟨_, _, rfl⟩ (by decide) h (fun _ e => Z_X0_copy hid (show airOK 60 from airOK_of 1 (by decide)) (show airOK 56 from airOK_of 0 (by decide)) e) mi_X0_copy ml_RX11_230 rfl rfl (Nat.le_of_ble_eq_true rfl) (Nat.le_of_ble_eq_true rfl) (Nat.le_of_ble_eq_true rfl) dX11_room_40 (fun σ1 h => ?_)
        refine a_aload_n C dX11_room_43 (i := 0) rfl rfl ?_
        refine a_get C fl_RX11_58 (i := 0) kd_0 (hid 0 (by decide)) (v := .ref (ad 60)) rfl dX11_room_44 ?_
        refine a_iload_n C dX11_room_47 (i := 1) rfl rfl ?_
        refine a_iload_n C dX11_room_48 (i := 2) rfl rfl ?_
        refine p_callVv C (As := [.int y1, .int y2]) (i := 60) (show airOK 60 from airOK_of 1 (by decide)).1.1 (hid _ (show airOK 60 from airOK_of 1 (by decide)).1.2) ⟨_, _, rfl⟩ (by decide) h (fun _ e => Z_X0_putUp hid (show airOK 60 from airOK_of 1 (by decide)) e) mi_X0_putUp ml_RX11_210 rfl rfl (Nat.le_of_ble_eq_true rfl) (Nat.le_of_ble_eq_true rfl) (Nat.le_of_ble_eq_true rfl) dX11_room_49 (fun σ3 h => ?_)
        refine a_aload_n C dX11_room_52 (i := 0) rfl rfl ?_
        refine a_bipush C dX11_room_53 (v := 59) rfl ?_
        refine p_callVi C (As := [.int 59]) (i := 0) kd_0 (hid 0 (by decide)) ⟨_, _, rfl⟩ (by decide) h (fun _ _ e => Z_X11_firstClash hid e) mi_X11_firstClash ml_RX11_289 rfl rfl (Nat.le_of_ble_eq_true rfl) (Nat.le_of_ble_eq_true rfl) (Nat.le_of_ble_eq_true rfl) dX11_room_55 (fun r6 σ5 h => ?_)
        refine a_bipush C dX11_room_58 (v := (-2)) rfl ?_
        refine p_ic_ne C (X := r6.toInt) (Y := (-2)) rfl (by decide) dX11_room_60 (tgt := 65) rfl h (fun h => ?_) (fun h => ?_)
        ·
          refine p_iinc C (y := (y2 + 1)) (fun z7 => [some (.ref (ad 0)), some (.int y1), some (.int z7)]) dX11_room_65 rfl rfl (by decide) rfl (fun _ => rfl) h (fun z7 h => ?_)
          refine a_goto C dX11_room_68 (tgt := 26) rfl ?_
          exact ih _ _ _ h
        ·
          refine a_iload_n C dX11_room_63 (i := 2) rfl rfl ?_
          exact a_iret Rt dX11_room_64 rfl (ret_eq (h.trans (congrArg some hR.symm)))
  refine a_aload_n C dX11_room_0 (i := 0) rfl rfl ?_
  refine p_getT C fl_RX11_82 (tx := (σ.2.2 0)) kd_0 (hid 0 (by decide)) (fun t e => by subst e; rfl) dX11_room_1 h (fun ht1 h => ?_)
  refine a_iload_n C dX11_room_4 (i := 1) rfl rfl ?_
  refine p_callVi C (As := [.int x1]) (i := ((σ.2.2 0))) ht1.1.1 (hid _ ht1.1.2) ⟨_, _, rfl⟩ (by decide) h (fun _ _ e => Z_X10_hasThing hid ht1 e) mi_X10_hasThing ml_RX11_121 rfl rfl (Nat.le_of_ble_eq_true rfl) (Nat.le_of_ble_eq_true rfl) (Nat.le_of_ble_eq_true rfl) dX11_room_5 (fun r3 σ2 h => ?_)
  refine p_if_eq C (X := r3.toInt) rfl dX11_room_8 (tgt := 22) rfl h (fun h => ?_) (fun h => ?_)
  ·
    refine a_iconst C dX11_room_22 (v := (-1)) rfl ?_
    exact a_iret Rt dX11_room_23 rfl (ret_eq (h.trans (congrArg some hR.symm)))
  ·
    refine a_aload_n C dX11_room_11 (i := 0) rfl rfl ?_
    refine a_get C fl_RX11_54 (i := 0) kd_0 (hid 0 (by decide)) (v := .ref (ad 56)) rfl dX11_room_12 ?_
    refine a_iload_n C dX11_room_15 (i := 1) rfl rfl ?_
    refine p_callVi C (As := [.int x1]) (i := 56) (show airOK 56 from airOK_of 0 (by decide)).1.1 (hid _ (show airOK 56 from airOK_of 0 (by decide)).1.2) ⟨_, _, rfl⟩ (by decide) h (fun _ _ e => Z_X0_isUp hid (show airOK 56 from airOK_of 0 (by decide)) e) mi_X0_isUp ml_RX11_134 rfl rfl (Nat.le_of_ble_eq_true rfl) (Nat.le_of_ble_eq_true rfl) (Nat.le_of_ble_eq_true rfl) dX11_room_16 (fun r5 σ4 h => ?_)
    refine p_if_eq C (X := r5.toInt) rfl dX11_room_19 (tgt := 24) rfl h (fun h => ?_) (fun h => ?_)
    ·
      refine a_iconst C dX11_room_24 (v := 0) rfl ?_
      refine a_istore_n C dX11_room_25 (i := 2) rfl (by decide) rfl (vs1 := [some (.ref (ad 0)), some (.int x1), some (.int 0)]) rfl ?_
      exact j26 _ _ _ _ h
    ·
      refine a_iconst C dX11_room_22 (v := (-1)) rfl ?_
      exact a_iret Rt dX11_room_23 rfl (ret_eq (h.trans (congrArg some hR.symm)))
set_option maxHeartbeats 4000000 in
set_option maxRecDepth 100000 in
theorem Z_X11_into {l : Launch} {D : va_G} {ids : List Nat} {ad : Nat → Nat} {ca : Nat → ClassId} {σ : HS} {x1 : Int32} {x2 : Int32} {r0 : Int32} {s0 : HS} (hid : ∀ i, i < 277 → i ∈ ids) (h : f_X11_into x1 x2 σ = some (r0, s0)) : Ki l D ids ad ca yX11_into cX11_into 6 .int 3 72 [.ref (ad 0), .int x1, .int x2] σ (fun r σ1 => r = r0 ∧ σ1 = s0) := by
  obtain ⟨R, hR⟩ : ∃ R, (r0, s0) = R := ⟨_, rfl⟩
  replace h := h.trans (congrArg some hR)
  refine Ki.of (by decide) (Nat.le_of_ble_eq_true rfl) 3 (fun Γ C Rt => ?_)
  show AW ids ad ca Γ 0 [some (.ref (ad 0)), some (.int x1), some (.int x2), none, none, none] [] σ
  unfold f_X11_into at h
  have j88 : ∀ (y2 : Int32) (v0 : Int32) (σ : HS), f_X11_into_88 y2 v0 σ = some R → AW ids ad ca Γ 88 [some (.ref (ad 0)), none, some (.int y2), none, none, none] [.int v0] σ := by
    intro y2 v0 σ h
    unfold f_X11_into_88 at h
    refine a_istore C dX11_into_88 (by decide) rfl (vs1 := [some (.ref (ad 0)), none, some (.int y2), none, none, some (.int v0)]) rfl ?_
    refine a_iload C dX11_into_90 rfl ?_
    refine p_if_ne C (X := v0.toInt) rfl dX11_into_92 (tgt := 108) rfl h (fun h => ?_) (fun h => ?_)
    ·
      refine a_iload_n C dX11_into_108 (i := 2) rfl rfl ?_
      refine a_iconst C dX11_into_109 (v := (-1)) rfl ?_
      refine p_ic_ne C (X := y2.toInt) (Y := (-1)) rfl (by decide) dX11_into_110 (tgt := 121) rfl h (fun h => ?_) (fun h => ?_)
      ·
        refine a_iload_n C dX11_into_121 (i := 2) rfl rfl ?_
        refine a_aload_n C dX11_into_122 (i := 0) rfl rfl ?_
        refine a_get C fl_RX11_40 (i := 0) kd_0 (hid 0 (by decide)) (v := .ref (ad 17)) rfl dX11_into_123 ?_
        refine a_get C fl_RX11_304 (i := 17) kd_17 (hid 17 (by decide)) (v := .int (σ.1 17 5)) rfl dX11_into_126 ?_
        refine p_ic_ge C (X := y2.toInt) (Y := (σ.1 17 5).toInt) rfl rfl dX11_into_129 (tgt := 144) rfl h (fun h => ?_) (fun h => ?_)
        ·
          refine a_iconst C dX11_into_144 (v := (-1)) rfl ?_
          exact a_iret Rt dX11_into_145 rfl (ret_eq (h.trans (congrArg some hR.symm)))
        ·
          refine a_aload_n C dX11_into_132 (i := 0) rfl rfl ?_
          refine a_get C fl_RX11_40 (i := 0) kd_0 (hid 0 (by decide)) (v := .ref (ad 17)) rfl dX11_into_133 ?_
          refine a_get C fl_RX11_305 (i := 17) kd_17 (hid 17 (by decide)) (v := .ref (ad 21)) rfl dX11_into_136 ?_
          refine a_iload_n C dX11_into_139 (i := 2) rfl rfl ?_
          refine p_iald C (i := 21) (show rowOK 21 from ⟨kd_21, by decide⟩) hid (by rw [al_21]; rfl) dX11_into_140 h (fun h => ?_)
          refine a_goto C dX11_into_141 (tgt := 145) rfl ?_
          exact a_iret Rt dX11_into_145 rfl (ret_eq (h.trans (congrArg some hR.symm)))
      ·
        refine a_aload_n C dX11_into_113 (i := 0) rfl rfl ?_
        refine a_get C fl_RX11_40 (i := 0) kd_0 (hid 0 (by decide)) (v := .ref (ad 17)) rfl dX11_into_114 ?_
        refine a_get C fl_RX11_304 (i := 17) kd_17 (hid 17 (by decide)) (v := .int (σ.1 17 5)) rfl dX11_into_117 ?_
        exact a_iret Rt dX11_into_120 rfl (ret_eq (h.trans (congrArg some hR.symm)))
    ·
      refine a_iload_n C dX11_into_95 (i := 2) rfl rfl ?_
      refine a_iconst C dX11_into_96 (v := (-1)) rfl ?_
      refine p_ic_ne C (X := y2.toInt) (Y := (-1)) rfl (by decide) dX11_into_97 (tgt := 105) rfl h (fun h => ?_) (fun h => ?_)
      ·
        refine a_bipush C dX11_into_105 (v := (-3)) rfl ?_
        exact a_iret Rt dX11_into_107 rfl (ret_eq (h.trans (congrArg some hR.symm)))
      ·
        refine a_bipush C dX11_into_100 (v := (-2)) rfl ?_
        refine a_goto C dX11_into_102 (tgt := 107) rfl ?_
        exact a_iret Rt dX11_into_107 rfl (ret_eq (h.trans (congrArg some hR.symm)))
  have j87 : ∀ (y2 : Int32) (σ : HS), f_X11_into_87 y2 σ = some R → AW ids ad ca Γ 87 [some (.ref (ad 0)), none, some (.int y2), none, none, none] [] σ := by
    intro y2 σ h
    unfold f_X11_into_87 at h
    refine a_iconst C dX11_into_87 (v := 0) rfl ?_
    exact j88 _ _ _ h
  refine a_aload_n C dX11_into_0 (i := 0) rfl rfl ?_
  refine p_getT C fl_RX11_82 (tx := (σ.2.2 0)) kd_0 (hid 0 (by decide)) (fun t e => by subst e; rfl) dX11_into_1 h (fun ht1 h => ?_)
  refine a_iload_n C dX11_into_4 (i := 1) rfl rfl ?_
  refine p_callVi C (As := [.int x1]) (i := ((σ.2.2 0))) ht1.1.1 (hid _ ht1.1.2) ⟨_, _, rfl⟩ (by decide) h (fun _ _ e => Z_X10_hasPattern hid ht1 e) mi_X10_hasPattern ml_RX11_143 rfl rfl (Nat.le_of_ble_eq_true rfl) (Nat.le_of_ble_eq_true rfl) (Nat.le_of_ble_eq_true rfl) dX11_into_5 (fun r3 σ2 h => ?_)
  refine p_if_eq C (X := r3.toInt) rfl dX11_into_8 (tgt := 16) rfl h (fun h => ?_) (fun h => ?_)
  ·
    refine a_iconst C dX11_into_16 (v := (-1)) rfl ?_
    exact a_iret Rt dX11_into_17 rfl (ret_eq (h.trans (congrArg some hR.symm)))
  ·
    refine a_iload_n C dX11_into_11 (i := 2) rfl rfl ?_
    refine a_iconst C dX11_into_12 (v := (-1)) rfl ?_
    refine p_ic_ge C (X := x2.toInt) (Y := (-1)) rfl (by decide) dX11_into_13 (tgt := 18) rfl h (fun h => ?_) (fun h => ?_)
    ·
      refine a_aload_n C dX11_into_18 (i := 0) rfl rfl ?_
      refine p_getT C fl_RX11_82 (tx := (σ2.2.2 0)) kd_0 (hid 0 (by decide)) (fun t e => by subst e; rfl) dX11_into_19 h (fun ht4 h => ?_)
      refine a_get C fl_RX11_149 (i := ((σ2.2.2 0))) ht4.1.1 (hid _ ht4.1.2) (v := .ref (ad ((σ2.2.2 0) + 4))) rfl dX11_into_22 ?_
      refine a_iload_n C dX11_into_25 (i := 1) rfl rfl ?_
      refine p_aaldH C (t := ((σ2.2.2 0))) ht4 hid dX11_into_26 h (fun hr5 h => ?_)
      refine a_astore_n C dX11_into_27 (i := 3) rfl (by decide) rfl (vs1 := [some (.ref (ad 0)), some (.int x1), some (.int x2), some (.ref (ad ((σ2.2.2 0) + 5 + x1.toInt.toNat))), none, none]) rfl ?_
      refine a_aload_n C dX11_into_28 (i := 0) rfl rfl ?_
      refine p_getT C fl_RX11_82 (tx := (σ2.2.2 0)) kd_0 (hid 0 (by decide)) (fun t e => by subst e; rfl) dX11_into_29 h (fun ht6 h => ?_)
      refine a_get C fl_RX11_146 (i := ((σ2.2.2 0))) ht6.1.1 (hid _ ht6.1.2) (v := .ref (ad ((σ2.2.2 0) + 10))) rfl dX11_into_32 ?_
      refine a_iload_n C dX11_into_35 (i := 1) rfl rfl ?_
      refine p_iald C (i := ((σ2.2.2 0) + 10)) ht6.2.2.2.2.1.1 hid (by rw [ht6.2.2.2.2.1.2]; rfl) dX11_into_36 h (fun h => ?_)
      refine p_istore C (fun z7 => [some (.ref (ad 0)), some (.int x1), some (.int x2), some (.ref (ad ((σ2.2.2 0) + 5 + x1.toInt.toNat))), some (.int z7), none]) dX11_into_37 (by decide) rfl (fun _ => rfl) h (fun z7 h => ?_)
      refine a_aload_n C dX11_into_39 (i := 3) rfl rfl ?_
      refine a_iload C dX11_into_40 rfl ?_
      refine p_callSi C (As := [.ref (ad ((σ2.2.2 0) + 5 + x1.toInt.toNat)), .int z7]) h (fun _ _ e => Z_X3_close hid hr5.1 e) ms_X3_close ml_RX11_243 rfl rfl (Nat.le_of_ble_eq_true rfl) (Nat.le_of_ble_eq_true rfl) (Nat.le_of_ble_eq_true rfl) dX11_into_42 (fun r9 σ8 h => ?_)
      refine p_if_ne C (X := r9.toInt) rfl dX11_into_45 (tgt := 50) rfl h (fun h => ?_) (fun h => ?_)
      ·
        refine a_aload_n C dX11_into_50 (i := 0) rfl rfl ?_
        refine a_get C fl_RX11_54 (i := 0) kd_0 (hid 0 (by decide)) (v := .ref (ad 56)) rfl dX11_into_51 ?_
        refine p_callVi C (As := []) (i := 56) (show airOK 56 from airOK_of 0 (by decide)).1.1 (hid _ (show airOK 56 from airOK_of 0 (by decide)).1.2) ⟨_, _, rfl⟩ (by decide) h (fun _ _ e => Z_X0_twoLandAlike hid (show airOK 56 from airOK_of 0 (by decide)) e) mi_X0_twoLandAlike ml_RX11_295 rfl rfl (Nat.le_of_ble_eq_true rfl) (Nat.le_of_ble_eq_true rfl) (Nat.le_of_ble_eq_true rfl) dX11_into_54 (fun r11 σ10 h => ?_)
        refine p_if_ne C (X := r11.toInt) rfl dX11_into_57 (tgt := 87) rfl h (fun h => ?_) (fun h => ?_)
        ·
          refine AW.sub (vs' := [some (.ref (ad 0)), none, some (.int x2), none, none, none]) (lsub_of (by simp [lsubB])) ?_
          exact j87 _ _ h
        ·
          refine a_aload_n C dX11_into_60 (i := 0) rfl rfl ?_
          refine a_get C fl_RX11_40 (i := 0) kd_0 (hid 0 (by decide)) (v := .ref (ad 17)) rfl dX11_into_61 ?_
          refine a_aload_n C dX11_into_64 (i := 0) rfl rfl ?_
          refine a_get C fl_RX11_54 (i := 0) kd_0 (hid 0 (by decide)) (v := .ref (ad 56)) rfl dX11_into_65 ?_
          refine p_callVi C (As := []) (i := 56) (show airOK 56 from airOK_of 0 (by decide)).1.1 (hid _ (show airOK 56 from airOK_of 0 (by decide)).1.2) ⟨_, _, rfl⟩ (by decide) h (fun _ _ e => Z_X0_landingBits hid (show airOK 56 from airOK_of 0 (by decide)) e) mi_X0_landingBits ml_RX11_276 rfl rfl (Nat.le_of_ble_eq_true rfl) (Nat.le_of_ble_eq_true rfl) (Nat.le_of_ble_eq_true rfl) dX11_into_68 (fun r13 σ12 h => ?_)
          refine a_aload_n C dX11_into_71 (i := 3) rfl rfl ?_
          refine a_iload C dX11_into_72 rfl ?_
          refine p_callSi C (As := [.ref (ad ((σ2.2.2 0) + 5 + x1.toInt.toNat)), .int z7]) h (fun _ _ e => Z_X3_landingBits hid hr5.1 e) ms_X3_landingBits ml_RX11_299 rfl rfl (Nat.le_of_ble_eq_true rfl) (Nat.le_of_ble_eq_true rfl) (Nat.le_of_ble_eq_true rfl) dX11_into_74 (fun r15 σ14 h => ?_)
          refine p_callVi C (As := [.int r13, .int r15]) (i := 17) kd_17 (hid 17 (by decide)) ⟨_, _, rfl⟩ (by decide) h (fun _ _ e => Z_X7_find hid e) mi_X7_find ml_RX11_301 rfl rfl (Nat.le_of_ble_eq_true rfl) (Nat.le_of_ble_eq_true rfl) (Nat.le_of_ble_eq_true rfl) dX11_into_77 (fun r17 σ16 h => ?_)
          refine p_if_eq C (X := r17.toInt) rfl dX11_into_80 (tgt := 87) rfl h (fun h => ?_) (fun h => ?_)
          ·
            refine AW.sub (vs' := [some (.ref (ad 0)), none, some (.int x2), none, none, none]) (lsub_of (by simp [lsubB])) ?_
            exact j87 _ _ h
          ·
            refine a_iconst C dX11_into_83 (v := 1) rfl ?_
            refine a_goto C dX11_into_84 (tgt := 88) rfl ?_
            refine AW.sub (vs' := [some (.ref (ad 0)), none, some (.int x2), none, none, none]) (lsub_of (by simp [lsubB])) ?_
            exact j88 _ _ _ h
      ·
        refine a_iconst C dX11_into_48 (v := (-1)) rfl ?_
        exact a_iret Rt dX11_into_49 rfl (ret_eq (h.trans (congrArg some hR.symm)))
    ·
      refine a_iconst C dX11_into_16 (v := (-1)) rfl ?_
      exact a_iret Rt dX11_into_17 rfl (ret_eq (h.trans (congrArg some hR.symm)))
set_option maxHeartbeats 4000000 in
set_option maxRecDepth 100000 in
theorem Z_X11_isSpan {l : Launch} {D : va_G} {ids : List Nat} {ad : Nat → Nat} {ca : Nat → ClassId} {σ : HS} {x1 : Int32} {r0 : Int32} {s0 : HS} (hid : ∀ i, i < 277 → i ∈ ids) (h : f_X11_isSpan x1 σ = some (r0, s0)) : Ki l D ids ad ca yX11_isSpan cX11_isSpan 1 .boolean 0 0 [.int x1] σ (fun r σ1 => r = r0 ∧ σ1 = s0) := by
  obtain ⟨R, hR⟩ : ∃ R, (r0, s0) = R := ⟨_, rfl⟩
  replace h := h.trans (congrArg some hR)
  refine Ki.of (by decide) (Nat.le_of_ble_eq_true rfl) 0 (fun Γ C Rt => ?_)
  show AW ids ad ca Γ 0 [some (.int x1)] [] σ
  unfold f_X11_isSpan at h
  refine a_iload_n C dX11_isSpan_0 (i := 0) rfl rfl ?_
  refine a_iconst C dX11_isSpan_1 (v := 1) rfl ?_
  refine p_ic_lt C (X := x1.toInt) (Y := 1) rfl (by decide) dX11_isSpan_2 (tgt := 15) rfl h (fun h => ?_) (fun h => ?_)
  ·
    refine a_iconst C dX11_isSpan_15 (v := 0) rfl ?_
    exact a_iret Rt dX11_isSpan_16 (nar_z (by decide)).1 (ret_eq (h.trans (congrArg some hR.symm)))
  ·
    refine a_iload_n C dX11_isSpan_5 (i := 0) rfl rfl ?_
    refine a_bipush C dX11_isSpan_6 (v := 60) rfl ?_
    refine p_ic_gt C (X := x1.toInt) (Y := 60) rfl (by decide) dX11_isSpan_8 (tgt := 15) rfl h (fun h => ?_) (fun h => ?_)
    ·
      refine a_iconst C dX11_isSpan_15 (v := 0) rfl ?_
      exact a_iret Rt dX11_isSpan_16 (nar_z (by decide)).1 (ret_eq (h.trans (congrArg some hR.symm)))
    ·
      refine a_iconst C dX11_isSpan_11 (v := 1) rfl ?_
      refine a_goto C dX11_isSpan_12 (tgt := 16) rfl ?_
      exact a_iret Rt dX11_isSpan_16 (nar_z (by decide)).1 (ret_eq (h.trans (congrArg some hR.symm)))
set_option maxHeartbeats 4000000 in
set_option maxRecDepth 100000 in
theorem Z_X11_busiest {l : Launch} {D : va_G} {ids : List Nat} {ad : Nat → Nat} {ca : Nat → ClassId} {σ : HS} {x1 : Int32} {x2 : Int32} {r0 : Int32} {s0 : HS} (hid : ∀ i, i < 277 → i ∈ ids) (h : f_X11_busiest x1 x2 σ = some (r0, s0)) : Ki l D ids ad ca yX11_busiest cX11_busiest 5 .int 7 168 [.ref (ad 0), .int x1, .int x2] σ (fun r σ1 => r = r0 ∧ σ1 = s0) := by
  obtain ⟨R, hR⟩ : ∃ R, (r0, s0) = R := ⟨_, rfl⟩
  replace h := h.trans (congrArg some hR)
  refine Ki.of (by decide) (Nat.le_of_ble_eq_true rfl) 2 (fun Γ C Rt => ?_)
  show AW ids ad ca Γ 0 [some (.ref (ad 0)), some (.int x1), some (.int x2), none, none] [] σ
  unfold f_X11_busiest at h
  have j106 : ∀ (k80 : Int32 → Int32 → Int32 → HS → Option (Int32 × HS)) (hk80 : ∀ (y2 : Int32) (y3 : Int32) (y4 : Int32) (σ : HS), k80 y2 y3 y4 σ = some R → AW ids ad ca Γ 80 [some (.ref (ad 0)), none, some (.int y2), some (.int y3), some (.int y4)] [] σ) (y2 : Int32) (y3 : Int32) (y4 : Int32) (σ : HS), f_X11_busiest_106 k80 y2 y3 y4 σ = some R → AW ids ad ca Γ 106 [some (.ref (ad 0)), none, some (.int y2), some (.int y3), some (.int y4)] [] σ := by
    intro k80 hk80 y2 y3 y4 σ h
    unfold f_X11_busiest_106 at h
    refine p_iinc C (y := (y4 + 1)) (fun z1 => [some (.ref (ad 0)), none, some (.int y2), some (.int y3), some (.int z1)]) dX11_busiest_106 rfl rfl (by decide) rfl (fun _ => rfl) h (fun z1 h => ?_)
    refine a_goto C dX11_busiest_109 (tgt := 80) rfl ?_
    exact hk80 _ _ _ _ h
  have j80 : ∀ (n : Nat) (y2 : Int32) (y3 : Int32) (y4 : Int32) (σ : HS), f_X11_busiest_80 n y2 y3 y4 σ = some R → AW ids ad ca Γ 80 [some (.ref (ad 0)), none, some (.int y2), some (.int y3), some (.int y4)] [] σ := by
    intro n
    induction n with
    | zero => intro y2 y3 y4 σ h; exact nn h
    | succ n ih =>
      intro y2 y3 y4 σ h
      have h : b_X11_busiest_80 (f_X11_busiest_80 n) y2 y3 y4 σ = some R := h
      unfold b_X11_busiest_80 at h
      refine a_iload C dX11_busiest_80 rfl ?_
      refine a_bipush C dX11_busiest_82 (v := 7) rfl ?_
      refine p_ic_ge C (X := y4.toInt) (Y := 7) rfl (by decide) dX11_busiest_84 (tgt := 112) rfl h (fun h => ?_) (fun h => ?_)
      ·
        refine a_aload_n C dX11_busiest_112 (i := 0) rfl rfl ?_
        refine a_get C fl_RX11_73 (i := 0) kd_0 (hid 0 (by decide)) (v := .ref (ad 28)) rfl dX11_busiest_113 ?_
        refine a_iload_n C dX11_busiest_116 (i := 3) rfl rfl ?_
        refine p_iald C (i := 28) (show rowOK 28 from ⟨kd_28, by decide⟩) hid (by rw [al_28]; rfl) dX11_busiest_117 h (fun h => ?_)
        refine p_if_ne C (X := (σ.1 28 y3.toInt.toNat).toInt) rfl dX11_busiest_118 (tgt := 124) rfl h (fun h => ?_) (fun h => ?_)
        ·
          refine a_iload_n C dX11_busiest_124 (i := 2) rfl rfl ?_
          refine p_if_ne C (X := y2.toInt) rfl dX11_busiest_125 (tgt := 132) rfl h (fun h => ?_) (fun h => ?_)
          ·
            refine a_aload_n C dX11_busiest_132 (i := 0) rfl rfl ?_
            refine a_get C fl_RX11_73 (i := 0) kd_0 (hid 0 (by decide)) (v := .ref (ad 28)) rfl dX11_busiest_133 ?_
            refine a_iload_n C dX11_busiest_136 (i := 3) rfl rfl ?_
            refine p_iald C (i := 28) (show rowOK 28 from ⟨kd_28, by decide⟩) hid (by rw [al_28]; rfl) dX11_busiest_137 h (fun h => ?_)
            exact a_iret Rt dX11_busiest_138 rfl (ret_eq (h.trans (congrArg some hR.symm)))
          ·
            refine a_iload_n C dX11_busiest_128 (i := 3) rfl rfl ?_
            refine a_goto C dX11_busiest_129 (tgt := 138) rfl ?_
            exact a_iret Rt dX11_busiest_138 rfl (ret_eq (h.trans (congrArg some hR.symm)))
        ·
          refine a_bipush C dX11_busiest_121 (v := (-2)) rfl ?_
          exact a_iret Rt dX11_busiest_123 rfl (ret_eq (h.trans (congrArg some hR.symm)))
      ·
        refine a_aload_n C dX11_busiest_87 (i := 0) rfl rfl ?_
        refine a_get C fl_RX11_73 (i := 0) kd_0 (hid 0 (by decide)) (v := .ref (ad 28)) rfl dX11_busiest_88 ?_
        refine a_iload C dX11_busiest_91 rfl ?_
        refine p_iald C (i := 28) (show rowOK 28 from ⟨kd_28, by decide⟩) hid (by rw [al_28]; rfl) dX11_busiest_93 h (fun h => ?_)
        refine a_aload_n C dX11_busiest_94 (i := 0) rfl rfl ?_
        refine a_get C fl_RX11_73 (i := 0) kd_0 (hid 0 (by decide)) (v := .ref (ad 28)) rfl dX11_busiest_95 ?_
        refine a_iload_n C dX11_busiest_98 (i := 3) rfl rfl ?_
        refine p_iald C (i := 28) (show rowOK 28 from ⟨kd_28, by decide⟩) hid (by rw [al_28]; rfl) dX11_busiest_99 h (fun h => ?_)
        refine p_ic_le C (X := (σ.1 28 y4.toInt.toNat).toInt) (Y := (σ.1 28 y3.toInt.toNat).toInt) rfl rfl dX11_busiest_100 (tgt := 106) rfl h (fun h => ?_) (fun h => ?_)
        ·
          exact j106 (f_X11_busiest_80 n) (fun y2 y3 y4 σ h => ih y2 y3 y4 σ h) _ _ _ _ h
        ·
          refine a_iload C dX11_busiest_103 rfl ?_
          refine a_istore_n C dX11_busiest_105 (i := 3) rfl (by decide) rfl (vs1 := [some (.ref (ad 0)), none, some (.int y2), some (.int y4), some (.int y4)]) rfl ?_
          exact j106 (f_X11_busiest_80 n) (fun y2 y3 y4 σ h => ih y2 y3 y4 σ h) _ _ _ _ h
  have j69 : ∀ (k33 : Int32 → Int32 → Int32 → HS → Option (Int32 × HS)) (hk33 : ∀ (y1 : Int32) (y2 : Int32) (y3 : Int32) (σ : HS), k33 y1 y2 y3 σ = some R → AW ids ad ca Γ 33 [some (.ref (ad 0)), some (.int y1), some (.int y2), some (.int y3), none] [] σ) (y1 : Int32) (y2 : Int32) (y3 : Int32) (σ : HS), f_X11_busiest_69 k33 y1 y2 y3 σ = some R → AW ids ad ca Γ 69 [some (.ref (ad 0)), some (.int y1), some (.int y2), some (.int y3), none] [] σ := by
    intro k33 hk33 y1 y2 y3 σ h
    unfold f_X11_busiest_69 at h
    refine p_iinc C (y := (y3 + 1)) (fun z1 => [some (.ref (ad 0)), some (.int y1), some (.int y2), some (.int z1), none]) dX11_busiest_69 rfl rfl (by decide) rfl (fun _ => rfl) h (fun z1 h => ?_)
    refine a_goto C dX11_busiest_72 (tgt := 33) rfl ?_
    exact hk33 _ _ _ _ h
  have j33 : ∀ (n : Nat) (y1 : Int32) (y2 : Int32) (y3 : Int32) (σ : HS), f_X11_busiest_33 n y1 y2 y3 σ = some R → AW ids ad ca Γ 33 [some (.ref (ad 0)), some (.int y1), some (.int y2), some (.int y3), none] [] σ := by
    intro n
    induction n with
    | zero => intro y1 y2 y3 σ h; exact nn h
    | succ n ih =>
      intro y1 y2 y3 σ h
      have h : b_X11_busiest_33 (f_X11_busiest_33 n) y1 y2 y3 σ = some R := h
      unfold b_X11_busiest_33 at h
      refine a_iload_n C dX11_busiest_33 (i := 3) rfl rfl ?_
      refine a_iload_n C dX11_busiest_34 (i := 1) rfl rfl ?_
      refine p_ic_ge C (X := y3.toInt) (Y := y1.toInt) rfl rfl dX11_busiest_35 (tgt := 75) rfl h (fun h => ?_) (fun h => ?_)
      ·
        refine a_iconst C dX11_busiest_75 (v := 0) rfl ?_
        refine a_istore_n C dX11_busiest_76 (i := 3) rfl (by decide) rfl (vs1 := [some (.ref (ad 0)), some (.int y1), some (.int y2), some (.int 0), none]) rfl ?_
        refine a_iconst C dX11_busiest_77 (v := 1) rfl ?_
        refine a_istore C dX11_busiest_78 (by decide) rfl (vs1 := [some (.ref (ad 0)), some (.int y1), some (.int y2), some (.int 0), some (.int 1)]) rfl ?_
        refine AW.sub (vs' := [some (.ref (ad 0)), none, some (.int y2), some (.int 0), some (.int 1)]) (lsub_of (by simp [lsubB])) ?_
        exact j80 _ _ _ _ _ h
      ·
        refine a_aload_n C dX11_busiest_38 (i := 0) rfl rfl ?_
        refine p_getT C fl_RX11_82 (tx := (σ.2.2 0)) kd_0 (hid 0 (by decide)) (fun t e => by subst e; rfl) dX11_busiest_39 h (fun ht1 h => ?_)
        refine a_aload_n C dX11_busiest_42 (i := 0) rfl rfl ?_
        refine a_get C fl_RX11_69 (i := 0) kd_0 (hid 0 (by decide)) (v := .ref (ad 27)) rfl dX11_busiest_43 ?_
        refine a_iload_n C dX11_busiest_46 (i := 3) rfl rfl ?_
        refine p_iald C (i := 27) (show rowOK 27 from ⟨kd_27, by decide⟩) hid (by rw [al_27]; rfl) dX11_busiest_47 h (fun h => ?_)
        refine p_callVi C (As := [.int (σ.1 27 y3.toInt.toNat)]) (i := ((σ.2.2 0))) ht1.1.1 (hid _ ht1.1.2) ⟨_, _, rfl⟩ (by decide) h (fun _ _ e => Z_X10_hasThing hid ht1 e) mi_X10_hasThing ml_RX11_121 rfl rfl (Nat.le_of_ble_eq_true rfl) (Nat.le_of_ble_eq_true rfl) (Nat.le_of_ble_eq_true rfl) dX11_busiest_48 (fun r3 σ2 h => ?_)
        refine p_if_eq C (X := r3.toInt) rfl dX11_busiest_51 (tgt := 69) rfl h (fun h => ?_) (fun h => ?_)
        ·
          exact j69 (f_X11_busiest_33 n) (fun y1 y2 y3 σ h => ih y1 y2 y3 σ h) _ _ _ _ h
        ·
          refine a_aload_n C dX11_busiest_54 (i := 0) rfl rfl ?_
          refine a_get C fl_RX11_73 (i := 0) kd_0 (hid 0 (by decide)) (v := .ref (ad 28)) rfl dX11_busiest_55 ?_
          refine a_aload_n C dX11_busiest_58 (i := 0) rfl rfl ?_
          refine a_get C fl_RX11_69 (i := 0) kd_0 (hid 0 (by decide)) (v := .ref (ad 27)) rfl dX11_busiest_59 ?_
          refine a_iload_n C dX11_busiest_62 (i := 3) rfl rfl ?_
          refine p_iald C (i := 27) (show rowOK 27 from ⟨kd_27, by decide⟩) hid (by rw [al_27]; rfl) dX11_busiest_63 h (fun h => ?_)
          refine a_dup2 C dX11_busiest_64 rfl rfl ?_
          refine p_iald C (i := 28) (show rowOK 28 from ⟨kd_28, by decide⟩) hid (by rw [al_28]; rfl) dX11_busiest_65 h (fun h => ?_)
          refine a_iconst C dX11_busiest_66 (v := 1) rfl ?_
          refine a_iadd C dX11_busiest_67 ?_
          refine p_iast C (i := 28) (show rowOK 28 from ⟨kd_28, by decide⟩) hid (by rw [al_28]; rfl) dX11_busiest_68 h (fun σ4 h => ?_)
          exact j69 (f_X11_busiest_33 n) (fun y1 y2 y3 σ h => ih y1 y2 y3 σ h) _ _ _ _ h
  refine a_iload_n C dX11_busiest_0 (i := 1) rfl rfl ?_
  refine p_callSi C (As := [.int x1]) h (fun _ _ e => Z_X11_isSpan hid e) ms_X11_isSpan ml_RX11_307 rfl rfl (Nat.le_of_ble_eq_true rfl) (Nat.le_of_ble_eq_true rfl) (Nat.le_of_ble_eq_true rfl) dX11_busiest_1 (fun r2 σ1 h => ?_)
  refine p_if_eq C (X := r2.toInt) rfl dX11_busiest_4 (tgt := 16) rfl h (fun h => ?_) (fun h => ?_)
  ·
    refine a_iconst C dX11_busiest_16 (v := (-1)) rfl ?_
    exact a_iret Rt dX11_busiest_17 rfl (ret_eq (h.trans (congrArg some hR.symm)))
  ·
    refine a_iload_n C dX11_busiest_7 (i := 2) rfl rfl ?_
    refine p_if_lt C (X := x2.toInt) rfl dX11_busiest_8 (tgt := 16) rfl h (fun h => ?_) (fun h => ?_)
    ·
      refine a_iconst C dX11_busiest_16 (v := (-1)) rfl ?_
      exact a_iret Rt dX11_busiest_17 rfl (ret_eq (h.trans (congrArg some hR.symm)))
    ·
      refine a_iload_n C dX11_busiest_11 (i := 2) rfl rfl ?_
      refine a_iconst C dX11_busiest_12 (v := 1) rfl ?_
      refine p_ic_le C (X := x2.toInt) (Y := 1) rfl (by decide) dX11_busiest_13 (tgt := 18) rfl h (fun h => ?_) (fun h => ?_)
      ·
        refine a_aload_n C dX11_busiest_18 (i := 0) rfl rfl ?_
        refine a_iload_n C dX11_busiest_19 (i := 1) rfl rfl ?_
        refine p_callVv C (As := [.int x1]) (i := 0) kd_0 (hid 0 (by decide)) ⟨_, _, rfl⟩ (by decide) h (fun _ e => Z_X11_findHands hid e) mi_X11_findHands ml_RX11_279 rfl rfl (Nat.le_of_ble_eq_true rfl) (Nat.le_of_ble_eq_true rfl) (Nat.le_of_ble_eq_true rfl) dX11_busiest_20 (fun σ3 h => ?_)
        refine a_aload_n C dX11_busiest_23 (i := 0) rfl rfl ?_
        refine a_get C fl_RX11_73 (i := 0) kd_0 (hid 0 (by decide)) (v := .ref (ad 28)) rfl dX11_busiest_24 ?_
        refine a_iconst C dX11_busiest_27 (v := 0) rfl ?_
        refine p_callSv C (As := [.ref (ad 28), .int 0]) h (fun _ e => Z_J7_fill_53178 hid (show rowOK 28 from ⟨kd_28, by decide⟩) e) ms_J7_fill_53178 ml_RX11_310 rfl rfl (Nat.le_of_ble_eq_true rfl) (Nat.le_of_ble_eq_true rfl) (Nat.le_of_ble_eq_true rfl) dX11_busiest_28 (fun σ5 h => ?_)
        refine a_iconst C dX11_busiest_31 (v := 0) rfl ?_
        refine a_istore_n C dX11_busiest_32 (i := 3) rfl (by decide) rfl (vs1 := [some (.ref (ad 0)), some (.int x1), some (.int x2), some (.int 0), none]) rfl ?_
        exact j33 _ _ _ _ _ h
      ·
        refine a_iconst C dX11_busiest_16 (v := (-1)) rfl ?_
        exact a_iret Rt dX11_busiest_17 rfl (ret_eq (h.trans (congrArg some hR.symm)))
set_option maxHeartbeats 4000000 in
set_option maxRecDepth 100000 in
theorem Z_X11_load {l : Launch} {D : va_G} {ids : List Nat} {ad : Nat → Nat} {ca : Nat → ClassId} {σ : HS} {x1 : Int32} {r0 : Int32} {s0 : HS} (hid : ∀ i, i < 277 → i ∈ ids) (h : f_X11_load x1 σ = some (r0, s0)) : Ki l D ids ad ca yX11_load cX11_load 4 .int 7 168 [.ref (ad 0), .int x1] σ (fun r σ1 => r = r0 ∧ σ1 = s0) := by
  obtain ⟨R, hR⟩ : ∃ R, (r0, s0) = R := ⟨_, rfl⟩
  replace h := h.trans (congrArg some hR)
  refine Ki.of (by decide) (Nat.le_of_ble_eq_true rfl) 2 (fun Γ C Rt => ?_)
  show AW ids ad ca Γ 0 [some (.ref (ad 0)), some (.int x1), none, none] [] σ
  unfold f_X11_load at h
  have j56 : ∀ (k18 : Int32 → Int32 → Int32 → HS → Option (Int32 × HS)) (hk18 : ∀ (y1 : Int32) (y2 : Int32) (y3 : Int32) (σ : HS), k18 y1 y2 y3 σ = some R → AW ids ad ca Γ 18 [some (.ref (ad 0)), some (.int y1), some (.int y2), some (.int y3)] [] σ) (y1 : Int32) (y2 : Int32) (y3 : Int32) (σ : HS), f_X11_load_56 k18 y1 y2 y3 σ = some R → AW ids ad ca Γ 56 [some (.ref (ad 0)), some (.int y1), some (.int y2), some (.int y3)] [] σ := by
    intro k18 hk18 y1 y2 y3 σ h
    unfold f_X11_load_56 at h
    refine p_iinc C (y := (y3 + 1)) (fun z1 => [some (.ref (ad 0)), some (.int y1), some (.int y2), some (.int z1)]) dX11_load_56 rfl rfl (by decide) rfl (fun _ => rfl) h (fun z1 h => ?_)
    refine a_goto C dX11_load_59 (tgt := 18) rfl ?_
    exact hk18 _ _ _ _ h
  have j18 : ∀ (n : Nat) (y1 : Int32) (y2 : Int32) (y3 : Int32) (σ : HS), f_X11_load_18 n y1 y2 y3 σ = some R → AW ids ad ca Γ 18 [some (.ref (ad 0)), some (.int y1), some (.int y2), some (.int y3)] [] σ := by
    intro n
    induction n with
    | zero => intro y1 y2 y3 σ h; exact nn h
    | succ n ih =>
      intro y1 y2 y3 σ h
      have h : b_X11_load_18 (f_X11_load_18 n) y1 y2 y3 σ = some R := h
      unfold b_X11_load_18 at h
      refine a_iload_n C dX11_load_18 (i := 3) rfl rfl ?_
      refine a_iload_n C dX11_load_19 (i := 1) rfl rfl ?_
      refine p_ic_ge C (X := y3.toInt) (Y := y1.toInt) rfl rfl dX11_load_20 (tgt := 62) rfl h (fun h => ?_) (fun h => ?_)
      ·
        refine a_iload_n C dX11_load_62 (i := 2) rfl rfl ?_
        exact a_iret Rt dX11_load_63 rfl (ret_eq (h.trans (congrArg some hR.symm)))
      ·
        refine a_aload_n C dX11_load_23 (i := 0) rfl rfl ?_
        refine p_getT C fl_RX11_82 (tx := (σ.2.2 0)) kd_0 (hid 0 (by decide)) (fun t e => by subst e; rfl) dX11_load_24 h (fun ht1 h => ?_)
        refine a_aload_n C dX11_load_27 (i := 0) rfl rfl ?_
        refine a_get C fl_RX11_69 (i := 0) kd_0 (hid 0 (by decide)) (v := .ref (ad 27)) rfl dX11_load_28 ?_
        refine a_iload_n C dX11_load_31 (i := 3) rfl rfl ?_
        refine p_iald C (i := 27) (show rowOK 27 from ⟨kd_27, by decide⟩) hid (by rw [al_27]; rfl) dX11_load_32 h (fun h => ?_)
        refine p_callVi C (As := [.int (σ.1 27 y3.toInt.toNat)]) (i := ((σ.2.2 0))) ht1.1.1 (hid _ ht1.1.2) ⟨_, _, rfl⟩ (by decide) h (fun _ _ e => Z_X10_hasThing hid ht1 e) mi_X10_hasThing ml_RX11_121 rfl rfl (Nat.le_of_ble_eq_true rfl) (Nat.le_of_ble_eq_true rfl) (Nat.le_of_ble_eq_true rfl) dX11_load_33 (fun r3 σ2 h => ?_)
        refine p_if_eq C (X := r3.toInt) rfl dX11_load_36 (tgt := 56) rfl h (fun h => ?_) (fun h => ?_)
        ·
          exact j56 (f_X11_load_18 n) (fun y1 y2 y3 σ h => ih y1 y2 y3 σ h) _ _ _ _ h
        ·
          refine a_iload_n C dX11_load_39 (i := 2) rfl rfl ?_
          refine a_aload_n C dX11_load_40 (i := 0) rfl rfl ?_
          refine p_getT C fl_RX11_82 (tx := (σ2.2.2 0)) kd_0 (hid 0 (by decide)) (fun t e => by subst e; rfl) dX11_load_41 h (fun ht4 h => ?_)
          refine a_get C fl_RX11_125 (i := ((σ2.2.2 0))) ht4.1.1 (hid _ ht4.1.2) (v := .ref (ad ((σ2.2.2 0) + 1))) rfl dX11_load_44 ?_
          refine a_aload_n C dX11_load_47 (i := 0) rfl rfl ?_
          refine a_get C fl_RX11_69 (i := 0) kd_0 (hid 0 (by decide)) (v := .ref (ad 27)) rfl dX11_load_48 ?_
          refine a_iload_n C dX11_load_51 (i := 3) rfl rfl ?_
          refine p_iald C (i := 27) (show rowOK 27 from ⟨kd_27, by decide⟩) hid (by rw [al_27]; rfl) dX11_load_52 h (fun h => ?_)
          refine p_iald C (i := ((σ2.2.2 0) + 1)) ht4.2.1.1 hid (by rw [ht4.2.1.2]; rfl) dX11_load_53 h (fun h => ?_)
          refine a_iadd C dX11_load_54 ?_
          refine p_istore_n C (fun z5 => [some (.ref (ad 0)), some (.int y1), some (.int z5), some (.int y3)]) dX11_load_55 (i := 2) rfl (by decide) rfl (fun _ => rfl) h (fun z5 h => ?_)
          exact j56 (f_X11_load_18 n) (fun y1 y2 y3 σ h => ih y1 y2 y3 σ h) _ _ _ _ h
  refine a_iload_n C dX11_load_0 (i := 1) rfl rfl ?_
  refine p_callSi C (As := [.int x1]) h (fun _ _ e => Z_X11_isSpan hid e) ms_X11_isSpan ml_RX11_307 rfl rfl (Nat.le_of_ble_eq_true rfl) (Nat.le_of_ble_eq_true rfl) (Nat.le_of_ble_eq_true rfl) dX11_load_1 (fun r2 σ1 h => ?_)
  refine p_if_ne C (X := r2.toInt) rfl dX11_load_4 (tgt := 9) rfl h (fun h => ?_) (fun h => ?_)
  ·
    refine a_aload_n C dX11_load_9 (i := 0) rfl rfl ?_
    refine a_iload_n C dX11_load_10 (i := 1) rfl rfl ?_
    refine p_callVv C (As := [.int x1]) (i := 0) kd_0 (hid 0 (by decide)) ⟨_, _, rfl⟩ (by decide) h (fun _ e => Z_X11_findHands hid e) mi_X11_findHands ml_RX11_279 rfl rfl (Nat.le_of_ble_eq_true rfl) (Nat.le_of_ble_eq_true rfl) (Nat.le_of_ble_eq_true rfl) dX11_load_11 (fun σ3 h => ?_)
    refine a_iconst C dX11_load_14 (v := 0) rfl ?_
    refine a_istore_n C dX11_load_15 (i := 2) rfl (by decide) rfl (vs1 := [some (.ref (ad 0)), some (.int x1), some (.int 0), none]) rfl ?_
    refine a_iconst C dX11_load_16 (v := 0) rfl ?_
    refine a_istore_n C dX11_load_17 (i := 3) rfl (by decide) rfl (vs1 := [some (.ref (ad 0)), some (.int x1), some (.int 0), some (.int 0)]) rfl ?_
    exact j18 _ _ _ _ _ h
  ·
    refine a_iconst C dX11_load_7 (v := (-1)) rfl ?_
    exact a_iret Rt dX11_load_8 rfl (ret_eq (h.trans (congrArg some hR.symm)))
set_option maxHeartbeats 4000000 in
set_option maxRecDepth 100000 in
theorem Z_X11_rule {l : Launch} {D : va_G} {ids : List Nat} {ad : Nat → Nat} {ca : Nat → ClassId} {σ : HS} {x1 : Int32} {r0 : Int32} {s0 : HS} (hid : ∀ i, i < 277 → i ∈ ids) (h : f_X11_rule x1 σ = some (r0, s0)) : Ki l D ids ad ca yX11_rule cX11_rule 4 .int 6 146 [.ref (ad 0), .int x1] σ (fun r σ1 => r = r0 ∧ σ1 = s0) := by
  obtain ⟨R, hR⟩ : ∃ R, (r0, s0) = R := ⟨_, rfl⟩
  replace h := h.trans (congrArg some hR)
  refine Ki.of (by decide) (Nat.le_of_ble_eq_true rfl) 2 (fun Γ C Rt => ?_)
  show AW ids ad ca Γ 0 [some (.ref (ad 0)), some (.int x1), none, none] [] σ
  unfold f_X11_rule at h
  have j26 : ∀ (n : Nat) (y1 : Int32) (y2 : Int32) (y3 : Int32) (σ : HS), f_X11_rule_26 n y1 y2 y3 σ = some R → AW ids ad ca Γ 26 [some (.ref (ad 0)), some (.int y1), some (.int y2), some (.int y3)] [] σ := by
    intro n
    induction n with
    | zero => intro y1 y2 y3 σ h; exact nn h
    | succ n ih =>
      intro y1 y2 y3 σ h
      have h : b_X11_rule_26 (f_X11_rule_26 n) y1 y2 y3 σ = some R := h
      unfold b_X11_rule_26 at h
      refine a_iload_n C dX11_rule_26 (i := 3) rfl rfl ?_
      refine a_iload_n C dX11_rule_27 (i := 1) rfl rfl ?_
      refine p_ic_ge C (X := y3.toInt) (Y := y1.toInt) rfl rfl dX11_rule_28 (tgt := 70) rfl h (fun h => ?_) (fun h => ?_)
      ·
        refine a_iload_n C dX11_rule_70 (i := 2) rfl rfl ?_
        exact a_iret Rt dX11_rule_71 rfl (ret_eq (h.trans (congrArg some hR.symm)))
      ·
        refine a_iload_n C dX11_rule_31 (i := 2) rfl rfl ?_
        refine a_aload_n C dX11_rule_32 (i := 0) rfl rfl ?_
        refine a_get C fl_RX11_19 (i := 0) kd_0 (hid 0 (by decide)) (v := .ref (ad 8)) rfl dX11_rule_33 ?_
        refine a_aload_n C dX11_rule_36 (i := 0) rfl rfl ?_
        refine p_getT C fl_RX11_82 (tx := (σ.2.2 0)) kd_0 (hid 0 (by decide)) (fun t e => by subst e; rfl) dX11_rule_37 h (fun ht1 h => ?_)
        refine a_aload_n C dX11_rule_40 (i := 0) rfl rfl ?_
        refine a_get C fl_RX11_58 (i := 0) kd_0 (hid 0 (by decide)) (v := .ref (ad 60)) rfl dX11_rule_41 ?_
        refine p_callVi C (As := [.ref (ad ((σ.2.2 0))), .ref (ad 60)]) (i := 8) kd_8 (hid 8 (by decide)) ⟨_, _, rfl⟩ (by decide) h (fun _ _ e => Z_X4_inForce hid ht1 (show airOK 60 from airOK_of 1 (by decide)) e) mi_X4_inForce ml_RX11_317 rfl rfl (Nat.le_of_ble_eq_true rfl) (Nat.le_of_ble_eq_true rfl) (Nat.le_of_ble_eq_true rfl) dX11_rule_44 (fun r3 σ2 h => ?_)
        refine a_iadd C dX11_rule_47 ?_
        refine p_istore_n C (fun z4 => [some (.ref (ad 0)), some (.int y1), some (.int z4), some (.int y3)]) dX11_rule_48 (i := 2) rfl (by decide) rfl (fun _ => rfl) h (fun z4 h => ?_)
        refine a_aload_n C dX11_rule_49 (i := 0) rfl rfl ?_
        refine a_get C fl_RX11_19 (i := 0) kd_0 (hid 0 (by decide)) (v := .ref (ad 8)) rfl dX11_rule_50 ?_
        refine a_aload_n C dX11_rule_53 (i := 0) rfl rfl ?_
        refine p_getT C fl_RX11_82 (tx := (σ2.2.2 0)) kd_0 (hid 0 (by decide)) (fun t e => by subst e; rfl) dX11_rule_54 h (fun ht5 h => ?_)
        refine a_aload_n C dX11_rule_57 (i := 0) rfl rfl ?_
        refine a_get C fl_RX11_58 (i := 0) kd_0 (hid 0 (by decide)) (v := .ref (ad 60)) rfl dX11_rule_58 ?_
        refine p_callVv C (As := [.ref (ad ((σ2.2.2 0))), .ref (ad 60)]) (i := 8) kd_8 (hid 8 (by decide)) ⟨_, _, rfl⟩ (by decide) h (fun _ e => Z_X4_goOnSafely hid ht5 (show airOK 60 from airOK_of 1 (by decide)) e) mi_X4_goOnSafely ml_RX11_285 rfl rfl (Nat.le_of_ble_eq_true rfl) (Nat.le_of_ble_eq_true rfl) (Nat.le_of_ble_eq_true rfl) dX11_rule_61 (fun σ6 h => ?_)
        refine p_iinc C (y := (y3 + 1)) (fun z8 => [some (.ref (ad 0)), some (.int y1), some (.int z4), some (.int z8)]) dX11_rule_64 rfl rfl (by decide) rfl (fun _ => rfl) h (fun z8 h => ?_)
        refine a_goto C dX11_rule_67 (tgt := 26) rfl ?_
        exact ih _ _ _ _ h
  refine a_iload_n C dX11_rule_0 (i := 1) rfl rfl ?_
  refine p_callSi C (As := [.int x1]) h (fun _ _ e => Z_X11_isSpan hid e) ms_X11_isSpan ml_RX11_307 rfl rfl (Nat.le_of_ble_eq_true rfl) (Nat.le_of_ble_eq_true rfl) (Nat.le_of_ble_eq_true rfl) dX11_rule_1 (fun r2 σ1 h => ?_)
  refine p_if_ne C (X := r2.toInt) rfl dX11_rule_4 (tgt := 11) rfl h (fun h => ?_) (fun h => ?_)
  ·
    refine a_aload_n C dX11_rule_11 (i := 0) rfl rfl ?_
    refine a_get C fl_RX11_58 (i := 0) kd_0 (hid 0 (by decide)) (v := .ref (ad 60)) rfl dX11_rule_12 ?_
    refine a_aload_n C dX11_rule_15 (i := 0) rfl rfl ?_
    refine a_get C fl_RX11_54 (i := 0) kd_0 (hid 0 (by decide)) (v := .ref (ad 56)) rfl dX11_rule_16 ?_
    refine p_callVv C (As := [.ref (ad 56)]) (i := 60) (show airOK 60 from airOK_of 1 (by decide)).1.1 (hid _ (show airOK 60 from airOK_of 1 (by decide)).1.2) ⟨_, _, rfl⟩ (by decide) h (fun _ e => Z_X0_copy hid (show airOK 60 from airOK_of 1 (by decide)) (show airOK 56 from airOK_of 0 (by decide)) e) mi_X0_copy ml_RX11_230 rfl rfl (Nat.le_of_ble_eq_true rfl) (Nat.le_of_ble_eq_true rfl) (Nat.le_of_ble_eq_true rfl) dX11_rule_19 (fun σ3 h => ?_)
    refine a_iconst C dX11_rule_22 (v := 0) rfl ?_
    refine a_istore_n C dX11_rule_23 (i := 2) rfl (by decide) rfl (vs1 := [some (.ref (ad 0)), some (.int x1), some (.int 0), none]) rfl ?_
    refine a_iconst C dX11_rule_24 (v := 0) rfl ?_
    refine a_istore_n C dX11_rule_25 (i := 3) rfl (by decide) rfl (vs1 := [some (.ref (ad 0)), some (.int x1), some (.int 0), some (.int 0)]) rfl ?_
    exact j26 _ _ _ _ _ h
  ·
    refine a_ldcw C dX11_rule_7 ko_RX11_316 ?_
    exact a_iret Rt dX11_rule_10 rfl (ret_eq (h.trans (congrArg some hR.symm)))
set_option maxHeartbeats 4000000 in
set_option maxRecDepth 100000 in
theorem Z_X11_order {l : Launch} {D : va_G} {ids : List Nat} {ad : Nat → Nat} {ca : Nat → ClassId} {σ : HS} {x1 : Int32} {r0 : Int32} {s0 : HS} (hid : ∀ i, i < 277 → i ∈ ids) (h : f_X11_order x1 σ = some (r0, s0)) : Ki l D ids ad ca yX11_order cX11_order 5 .int 1 21 [.ref (ad 0), .int x1] σ (fun r σ1 => r = r0 ∧ σ1 = s0) := by
  obtain ⟨R, hR⟩ : ∃ R, (r0, s0) = R := ⟨_, rfl⟩
  replace h := h.trans (congrArg some hR)
  refine Ki.of (by decide) (Nat.le_of_ble_eq_true rfl) 3 (fun Γ C Rt => ?_)
  show AW ids ad ca Γ 0 [some (.ref (ad 0)), some (.int x1), none, none, none] [] σ
  unfold f_X11_order at h
  have j74 : ∀ (k16 : Int32 → Int32 → Int32 → HS → Option (Int32 × HS)) (hk16 : ∀ (y1 : Int32) (y2 : Int32) (y3 : Int32) (σ : HS), k16 y1 y2 y3 σ = some R → AW ids ad ca Γ 16 [some (.ref (ad 0)), some (.int y1), some (.int y2), some (.int y3), none] [] σ) (k25 : Int32 → Int32 → Int32 → Int32 → HS → Option (Int32 × HS)) (hk25 : ∀ (y1 : Int32) (y2 : Int32) (y3 : Int32) (y4 : Int32) (σ : HS), k25 y1 y2 y3 y4 σ = some R → AW ids ad ca Γ 25 [some (.ref (ad 0)), some (.int y1), some (.int y2), some (.int y3), some (.int y4)] [] σ) (y1 : Int32) (y2 : Int32) (y3 : Int32) (y4 : Int32) (σ : HS), f_X11_order_74 k16 k25 y1 y2 y3 y4 σ = some R → AW ids ad ca Γ 74 [some (.ref (ad 0)), some (.int y1), some (.int y2), some (.int y3), some (.int y4)] [] σ := by
    intro k16 hk16 k25 hk25 y1 y2 y3 y4 σ h
    unfold f_X11_order_74 at h
    refine p_iinc C (y := (y4 + 1)) (fun z1 => [some (.ref (ad 0)), some (.int y1), some (.int y2), some (.int y3), some (.int z1)]) dX11_order_74 rfl rfl (by decide) rfl (fun _ => rfl) h (fun z1 h => ?_)
    refine a_goto C dX11_order_77 (tgt := 25) rfl ?_
    exact hk25 _ _ _ _ _ h
  have j25 : ∀ (k16 : Int32 → Int32 → Int32 → HS → Option (Int32 × HS)) (hk16 : ∀ (y1 : Int32) (y2 : Int32) (y3 : Int32) (σ : HS), k16 y1 y2 y3 σ = some R → AW ids ad ca Γ 16 [some (.ref (ad 0)), some (.int y1), some (.int y2), some (.int y3), none] [] σ) (n : Nat) (y1 : Int32) (y2 : Int32) (y3 : Int32) (y4 : Int32) (σ : HS), f_X11_order_25 k16 n y1 y2 y3 y4 σ = some R → AW ids ad ca Γ 25 [some (.ref (ad 0)), some (.int y1), some (.int y2), some (.int y3), some (.int y4)] [] σ := by
    intro k16 hk16 n
    induction n with
    | zero => intro y1 y2 y3 y4 σ h; exact nn h
    | succ n ih =>
      intro y1 y2 y3 y4 σ h
      have h : b_X11_order_25 k16 (f_X11_order_25 k16 n) y1 y2 y3 y4 σ = some R := h
      unfold b_X11_order_25 at h
      refine a_iload C dX11_order_25 rfl ?_
      refine a_aload_n C dX11_order_27 (i := 0) rfl rfl ?_
      refine a_get C fl_RX11_54 (i := 0) kd_0 (hid 0 (by decide)) (v := .ref (ad 56)) rfl dX11_order_28 ?_
      refine a_get C fl_RX11_321 (i := 56) (show airOK 56 from airOK_of 0 (by decide)).1.1 (hid _ (show airOK 56 from airOK_of 0 (by decide)).1.2) (v := .int (σ.1 56 0)) rfl dX11_order_31 ?_
      refine p_ic_ge C (X := y4.toInt) (Y := (σ.1 56 0).toInt) rfl rfl dX11_order_34 (tgt := 80) rfl h (fun h => ?_) (fun h => ?_)
      ·
        refine p_iinc C (y := (y3 + 1)) (fun z1 => [some (.ref (ad 0)), some (.int y1), some (.int y2), some (.int z1), some (.int y4)]) dX11_order_80 rfl rfl (by decide) rfl (fun _ => rfl) h (fun z1 h => ?_)
        refine a_goto C dX11_order_83 (tgt := 16) rfl ?_
        refine AW.sub (vs' := [some (.ref (ad 0)), some (.int y1), some (.int y2), some (.int z1), none]) (lsub_of (by simp [lsubB])) ?_
        exact hk16 _ _ _ _ h
      ·
        refine a_aload_n C dX11_order_37 (i := 0) rfl rfl ?_
        refine a_get C fl_RX11_54 (i := 0) kd_0 (hid 0 (by decide)) (v := .ref (ad 56)) rfl dX11_order_38 ?_
        refine a_iload C dX11_order_41 rfl ?_
        refine p_callVi C (As := [.int y4]) (i := 56) (show airOK 56 from airOK_of 0 (by decide)).1.1 (hid _ (show airOK 56 from airOK_of 0 (by decide)).1.2) ⟨_, _, rfl⟩ (by decide) h (fun _ _ e => Z_X0_isUp hid (show airOK 56 from airOK_of 0 (by decide)) e) mi_X0_isUp ml_RX11_134 rfl rfl (Nat.le_of_ble_eq_true rfl) (Nat.le_of_ble_eq_true rfl) (Nat.le_of_ble_eq_true rfl) dX11_order_43 (fun r3 σ2 h => ?_)
        refine p_if_eq C (X := r3.toInt) rfl dX11_order_46 (tgt := 74) rfl h (fun h => ?_) (fun h => ?_)
        ·
          exact j74 k16 hk16 (f_X11_order_25 k16 n) (fun y1 y2 y3 y4 σ h => ih y1 y2 y3 y4 σ h) _ _ _ _ _ h
        ·
          refine a_aload_n C dX11_order_49 (i := 0) rfl rfl ?_
          refine a_get C fl_RX11_54 (i := 0) kd_0 (hid 0 (by decide)) (v := .ref (ad 56)) rfl dX11_order_50 ?_
          refine a_get C fl_RX11_137 (i := 56) (show airOK 56 from airOK_of 0 (by decide)).1.1 (hid _ (show airOK 56 from airOK_of 0 (by decide)).1.2) (v := .ref (ad 58)) rfl dX11_order_53 ?_
          refine a_iload C dX11_order_56 rfl ?_
          refine p_iald C (i := 58) (show rowOK 58 from ⟨kd_58, by decide⟩) hid (by rw [al_58]; rfl) dX11_order_58 h (fun h => ?_)
          refine a_iload_n C dX11_order_59 (i := 3) rfl rfl ?_
          refine p_ic_ne C (X := (σ2.1 58 y4.toInt.toNat).toInt) (Y := y3.toInt) rfl rfl dX11_order_60 (tgt := 74) rfl h (fun h => ?_) (fun h => ?_)
          ·
            exact j74 k16 hk16 (f_X11_order_25 k16 n) (fun y1 y2 y3 y4 σ h => ih y1 y2 y3 y4 σ h) _ _ _ _ _ h
          ·
            refine a_iload_n C dX11_order_63 (i := 2) rfl rfl ?_
            refine a_iload_n C dX11_order_64 (i := 1) rfl rfl ?_
            refine p_ic_ne C (X := y2.toInt) (Y := y1.toInt) rfl rfl dX11_order_65 (tgt := 71) rfl h (fun h => ?_) (fun h => ?_)
            ·
              refine p_iinc C (y := (y2 + 1)) (fun z4 => [some (.ref (ad 0)), some (.int y1), some (.int z4), some (.int y3), some (.int y4)]) dX11_order_71 rfl rfl (by decide) rfl (fun _ => rfl) h (fun z4 h => ?_)
              exact j74 k16 hk16 (f_X11_order_25 k16 n) (fun y1 y2 y3 y4 σ h => ih y1 y2 y3 y4 σ h) _ _ _ _ _ h
            ·
              refine a_iload C dX11_order_68 rfl ?_
              exact a_iret Rt dX11_order_70 rfl (ret_eq (h.trans (congrArg some hR.symm)))
  have j16 : ∀ (n : Nat) (y1 : Int32) (y2 : Int32) (y3 : Int32) (σ : HS), f_X11_order_16 n y1 y2 y3 σ = some R → AW ids ad ca Γ 16 [some (.ref (ad 0)), some (.int y1), some (.int y2), some (.int y3), none] [] σ := by
    intro n
    induction n with
    | zero => intro y1 y2 y3 σ h; exact nn h
    | succ n ih =>
      intro y1 y2 y3 σ h
      have h : b_X11_order_16 (f_X11_order_16 n) y1 y2 y3 σ = some R := h
      unfold b_X11_order_16 at h
      refine a_iload_n C dX11_order_16 (i := 3) rfl rfl ?_
      refine a_bipush C dX11_order_17 (v := 9) rfl ?_
      refine p_ic_gt C (X := y3.toInt) (Y := 9) rfl (by decide) dX11_order_19 (tgt := 86) rfl h (fun h => ?_) (fun h => ?_)
      ·
        refine a_iconst C dX11_order_86 (v := (-1)) rfl ?_
        exact a_iret Rt dX11_order_87 rfl (ret_eq (h.trans (congrArg some hR.symm)))
      ·
        refine a_iconst C dX11_order_22 (v := 0) rfl ?_
        refine a_istore C dX11_order_23 (by decide) rfl (vs1 := [some (.ref (ad 0)), some (.int y1), some (.int y2), some (.int y3), some (.int 0)]) rfl ?_
        exact j25 (f_X11_order_16 n) (fun y1 y2 y3 σ h => ih y1 y2 y3 σ h) _ _ _ _ _ _ h
  refine a_iload_n C dX11_order_0 (i := 1) rfl rfl ?_
  refine p_if_lt C (X := x1.toInt) rfl dX11_order_1 (tgt := 10) rfl h (fun h => ?_) (fun h => ?_)
  ·
    refine a_iconst C dX11_order_10 (v := (-1)) rfl ?_
    exact a_iret Rt dX11_order_11 rfl (ret_eq (h.trans (congrArg some hR.symm)))
  ·
    refine a_iload_n C dX11_order_4 (i := 1) rfl rfl ?_
    refine a_bipush C dX11_order_5 (v := 7) rfl ?_
    refine p_ic_lt C (X := x1.toInt) (Y := 7) rfl (by decide) dX11_order_7 (tgt := 12) rfl h (fun h => ?_) (fun h => ?_)
    ·
      refine a_iconst C dX11_order_12 (v := 0) rfl ?_
      refine a_istore_n C dX11_order_13 (i := 2) rfl (by decide) rfl (vs1 := [some (.ref (ad 0)), some (.int x1), some (.int 0), none, none]) rfl ?_
      refine a_iconst C dX11_order_14 (v := 0) rfl ?_
      refine a_istore_n C dX11_order_15 (i := 3) rfl (by decide) rfl (vs1 := [some (.ref (ad 0)), some (.int x1), some (.int 0), some (.int 0), none]) rfl ?_
      exact j16 _ _ _ _ _ h
    ·
      refine a_iconst C dX11_order_10 (v := (-1)) rfl ?_
      exact a_iret Rt dX11_order_11 rfl (ret_eq (h.trans (congrArg some hR.symm)))
set_option maxHeartbeats 4000000 in
set_option maxRecDepth 100000 in
theorem Z_X11_handover {l : Launch} {D : va_G} {ids : List Nat} {ad : Nat → Nat} {ca : Nat → ClassId} {σ : HS} {r0 : Int32} {s0 : HS} (hid : ∀ i, i < 277 → i ∈ ids) (h : f_X11_handover σ = some (r0, s0)) : Ki l D ids ad ca yX11_handover cX11_handover 4 .int 6 149 [.ref (ad 0)] σ (fun r σ1 => r = r0 ∧ σ1 = s0) := by
  obtain ⟨R, hR⟩ : ∃ R, (r0, s0) = R := ⟨_, rfl⟩
  replace h := h.trans (congrArg some hR)
  refine Ki.of (by decide) (Nat.le_of_ble_eq_true rfl) 3 (fun Γ C Rt => ?_)
  show AW ids ad ca Γ 0 [some (.ref (ad 0)), none, none, none] [] σ
  unfold f_X11_handover at h
  have j55 : ∀ (k22 : Int32 → Int32 → HS → Option (Int32 × HS)) (hk22 : ∀ (y1 : Int32) (y2 : Int32) (σ : HS), k22 y1 y2 σ = some R → AW ids ad ca Γ 22 [some (.ref (ad 0)), some (.int y1), some (.int y2), none] [] σ) (y1 : Int32) (y2 : Int32) (σ : HS), f_X11_handover_55 k22 y1 y2 σ = some R → AW ids ad ca Γ 55 [some (.ref (ad 0)), some (.int y1), some (.int y2), none] [] σ := by
    intro k22 hk22 y1 y2 σ h
    unfold f_X11_handover_55 at h
    refine a_aload_n C dX11_handover_55 (i := 0) rfl rfl ?_
    refine a_get C fl_RX11_19 (i := 0) kd_0 (hid 0 (by decide)) (v := .ref (ad 8)) rfl dX11_handover_56 ?_
    refine a_aload_n C dX11_handover_59 (i := 0) rfl rfl ?_
    refine p_getT C fl_RX11_82 (tx := (σ.2.2 0)) kd_0 (hid 0 (by decide)) (fun t e => by subst e; rfl) dX11_handover_60 h (fun ht1 h => ?_)
    refine a_aload_n C dX11_handover_63 (i := 0) rfl rfl ?_
    refine a_get C fl_RX11_58 (i := 0) kd_0 (hid 0 (by decide)) (v := .ref (ad 60)) rfl dX11_handover_64 ?_
    refine a_iconst C dX11_handover_67 (v := 1) rfl ?_
    refine a_aload_n C dX11_handover_68 (i := 0) rfl rfl ?_
    refine p_getT C fl_RX11_82 (tx := (σ.2.2 0)) kd_0 (hid 0 (by decide)) (fun t e => by subst e; rfl) dX11_handover_69 h (fun ht2 h => ?_)
    refine a_get C fl_RX11_220 (i := ((σ.2.2 0))) ht2.1.1 (hid _ ht2.1.2) (v := .int (σ.1 ((σ.2.2 0)) 11)) rfl dX11_handover_72 ?_
    refine p_callVv C (As := [.ref (ad ((σ.2.2 0))), .ref (ad 60), .int 1, .int (σ.1 ((σ.2.2 0)) 11)]) (i := 8) kd_8 (hid 8 (by decide)) ⟨_, _, rfl⟩ (by decide) h (fun _ e => Z_X4_goOn hid ht1 (show airOK 60 from airOK_of 1 (by decide)) e) mi_X4_goOn ml_RX11_223 rfl rfl (Nat.le_of_ble_eq_true rfl) (Nat.le_of_ble_eq_true rfl) (Nat.le_of_ble_eq_true rfl) dX11_handover_75 (fun σ3 h => ?_)
    refine p_iinc C (y := (y2 + 1)) (fun z5 => [some (.ref (ad 0)), some (.int y1), some (.int z5), none]) dX11_handover_78 rfl rfl (by decide) rfl (fun _ => rfl) h (fun z5 h => ?_)
    refine a_goto C dX11_handover_81 (tgt := 22) rfl ?_
    exact hk22 _ _ _ h
  have j22 : ∀ (n : Nat) (y1 : Int32) (y2 : Int32) (σ : HS), f_X11_handover_22 n y1 y2 σ = some R → AW ids ad ca Γ 22 [some (.ref (ad 0)), some (.int y1), some (.int y2), none] [] σ := by
    intro n
    induction n with
    | zero => intro y1 y2 σ h; exact nn h
    | succ n ih =>
      intro y1 y2 σ h
      have h : b_X11_handover_22 (f_X11_handover_22 n) y1 y2 σ = some R := h
      unfold b_X11_handover_22 at h
      refine a_iload_n C dX11_handover_22 (i := 2) rfl rfl ?_
      refine a_bipush C dX11_handover_23 (v := 60) rfl ?_
      refine p_ic_gt C (X := y2.toInt) (Y := 60) rfl (by decide) dX11_handover_25 (tgt := 84) rfl h (fun h => ?_) (fun h => ?_)
      ·
        refine a_bipush C dX11_handover_84 (v := (-2)) rfl ?_
        exact a_iret Rt dX11_handover_86 rfl (ret_eq (h.trans (congrArg some hR.symm)))
      ·
        refine a_iload_n C dX11_handover_28 (i := 1) rfl rfl ?_
        refine p_if_ne C (X := y1.toInt) rfl dX11_handover_29 (tgt := 34) rfl h (fun h => ?_) (fun h => ?_)
        ·
          refine a_aload_n C dX11_handover_34 (i := 0) rfl rfl ?_
          refine a_get C fl_RX11_58 (i := 0) kd_0 (hid 0 (by decide)) (v := .ref (ad 60)) rfl dX11_handover_35 ?_
          refine p_callVi C (As := []) (i := 60) (show airOK 60 from airOK_of 1 (by decide)).1.1 (hid _ (show airOK 60 from airOK_of 1 (by decide)).1.2) ⟨_, _, rfl⟩ (by decide) h (fun _ _ e => Z_X0_firstLanding hid (show airOK 60 from airOK_of 1 (by decide)) e) mi_X0_firstLanding ml_RX11_282 rfl rfl (Nat.le_of_ble_eq_true rfl) (Nat.le_of_ble_eq_true rfl) (Nat.le_of_ble_eq_true rfl) dX11_handover_38 (fun r2 σ1 h => ?_)
          refine a_istore_n C dX11_handover_41 (i := 3) rfl (by decide) rfl (vs1 := [some (.ref (ad 0)), some (.int y1), some (.int y2), some (.int r2)]) rfl ?_
          refine a_iload_n C dX11_handover_42 (i := 3) rfl rfl ?_
          refine a_iconst C dX11_handover_43 (v := (-1)) rfl ?_
          refine p_ic_eq C (X := r2.toInt) (Y := (-1)) rfl (by decide) dX11_handover_44 (tgt := 55) rfl h (fun h => ?_) (fun h => ?_)
          ·
            refine AW.sub (vs' := [some (.ref (ad 0)), some (.int y1), some (.int y2), none]) (lsub_of (by simp [lsubB])) ?_
            exact j55 (f_X11_handover_22 n) (fun y1 y2 σ h => ih y1 y2 σ h) _ _ _ h
          ·
            refine a_iload_n C dX11_handover_47 (i := 1) rfl rfl ?_
            refine a_iconst C dX11_handover_48 (v := 1) rfl ?_
            refine a_iload_n C dX11_handover_49 (i := 3) rfl rfl ?_
            refine a_ishl C dX11_handover_50 ?_
            refine a_iconst C dX11_handover_51 (v := (-1)) rfl ?_
            refine a_ixor C dX11_handover_52 ?_
            refine a_iand C dX11_handover_53 ?_
            refine p_istore_n C (fun z3 => [some (.ref (ad 0)), some (.int z3), some (.int y2), some (.int r2)]) dX11_handover_54 (i := 1) rfl (by decide) rfl (fun _ => rfl) h (fun z3 h => ?_)
            refine AW.sub (vs' := [some (.ref (ad 0)), some (.int z3), some (.int y2), none]) (lsub_of (by simp [lsubB])) ?_
            exact j55 (f_X11_handover_22 n) (fun y1 y2 σ h => ih y1 y2 σ h) _ _ _ h
        ·
          refine a_iload_n C dX11_handover_32 (i := 2) rfl rfl ?_
          exact a_iret Rt dX11_handover_33 rfl (ret_eq (h.trans (congrArg some hR.symm)))
  refine a_aload_n C dX11_handover_0 (i := 0) rfl rfl ?_
  refine a_get C fl_RX11_58 (i := 0) kd_0 (hid 0 (by decide)) (v := .ref (ad 60)) rfl dX11_handover_1 ?_
  refine a_aload_n C dX11_handover_4 (i := 0) rfl rfl ?_
  refine a_get C fl_RX11_54 (i := 0) kd_0 (hid 0 (by decide)) (v := .ref (ad 56)) rfl dX11_handover_5 ?_
  refine p_callVv C (As := [.ref (ad 56)]) (i := 60) (show airOK 60 from airOK_of 1 (by decide)).1.1 (hid _ (show airOK 60 from airOK_of 1 (by decide)).1.2) ⟨_, _, rfl⟩ (by decide) h (fun _ e => Z_X0_copy hid (show airOK 60 from airOK_of 1 (by decide)) (show airOK 56 from airOK_of 0 (by decide)) e) mi_X0_copy ml_RX11_230 rfl rfl (Nat.le_of_ble_eq_true rfl) (Nat.le_of_ble_eq_true rfl) (Nat.le_of_ble_eq_true rfl) dX11_handover_8 (fun σ1 h => ?_)
  refine a_aload_n C dX11_handover_11 (i := 0) rfl rfl ?_
  refine a_get C fl_RX11_54 (i := 0) kd_0 (hid 0 (by decide)) (v := .ref (ad 56)) rfl dX11_handover_12 ?_
  refine a_iconst C dX11_handover_15 (v := 0) rfl ?_
  refine p_callVi C (As := [.int 0]) (i := 56) (show airOK 56 from airOK_of 0 (by decide)).1.1 (hid _ (show airOK 56 from airOK_of 0 (by decide)).1.2) ⟨_, _, rfl⟩ (by decide) h (fun _ _ e => Z_X0_bitsOf hid (show airOK 56 from airOK_of 0 (by decide)) e) mi_X0_bitsOf ml_RX11_180 rfl rfl (Nat.le_of_ble_eq_true rfl) (Nat.le_of_ble_eq_true rfl) (Nat.le_of_ble_eq_true rfl) dX11_handover_16 (fun r4 σ3 h => ?_)
  refine a_istore_n C dX11_handover_19 (i := 1) rfl (by decide) rfl (vs1 := [some (.ref (ad 0)), some (.int r4), none, none]) rfl ?_
  refine a_iconst C dX11_handover_20 (v := 0) rfl ?_
  refine a_istore_n C dX11_handover_21 (i := 2) rfl (by decide) rfl (vs1 := [some (.ref (ad 0)), some (.int r4), some (.int 0), none]) rfl ?_
  exact j22 _ _ _ _ h
set_option maxHeartbeats 4000000 in
set_option maxRecDepth 100000 in
theorem Z_X11_limit {l : Launch} {D : va_G} {ids : List Nat} {ad : Nat → Nat} {ca : Nat → ClassId} {σ : HS} {x1 : Int32} {r0 : Int32} {s0 : HS} (hid : ∀ i, i < 277 → i ∈ ids) (h : f_X11_limit x1 σ = some (r0, s0)) : Ki l D ids ad ca yX11_limit cX11_limit 3 .int 6 149 [.ref (ad 0), .int x1] σ (fun r σ1 => r = r0 ∧ σ1 = s0) := by
  obtain ⟨R, hR⟩ : ∃ R, (r0, s0) = R := ⟨_, rfl⟩
  replace h := h.trans (congrArg some hR)
  refine Ki.of (by decide) (Nat.le_of_ble_eq_true rfl) 1 (fun Γ C Rt => ?_)
  show AW ids ad ca Γ 0 [some (.ref (ad 0)), some (.int x1), none] [] σ
  unfold f_X11_limit at h
  have j26 : ∀ (n : Nat) (y1 : Int32) (y2 : Int32) (σ : HS), f_X11_limit_26 n y1 y2 σ = some R → AW ids ad ca Γ 26 [some (.ref (ad 0)), some (.int y1), some (.int y2)] [] σ := by
    intro n
    induction n with
    | zero => intro y1 y2 σ h; exact nn h
    | succ n ih =>
      intro y1 y2 σ h
      have h : b_X11_limit_26 (f_X11_limit_26 n) y1 y2 σ = some R := h
      unfold b_X11_limit_26 at h
      refine a_iload_n C dX11_limit_26 (i := 2) rfl rfl ?_
      refine a_sipush C dX11_limit_27 (v := 200) rfl ?_
      refine p_ic_gt C (X := y2.toInt) (Y := 200) rfl (by decide) dX11_limit_30 (tgt := 75) rfl h (fun h => ?_) (fun h => ?_)
      ·
        refine a_bipush C dX11_limit_75 (v := (-2)) rfl ?_
        exact a_iret Rt dX11_limit_77 rfl (ret_eq (h.trans (congrArg some hR.symm)))
      ·
        refine a_aload_n C dX11_limit_33 (i := 0) rfl rfl ?_
        refine a_get C fl_RX11_58 (i := 0) kd_0 (hid 0 (by decide)) (v := .ref (ad 60)) rfl dX11_limit_34 ?_
        refine a_get C fl_RX11_177 (i := 60) (show airOK 60 from airOK_of 1 (by decide)).1.1 (hid _ (show airOK 60 from airOK_of 1 (by decide)).1.2) (v := .int (σ.1 60 5)) rfl dX11_limit_37 ?_
        refine a_iload_n C dX11_limit_40 (i := 1) rfl rfl ?_
        refine p_ic_lt C (X := (σ.1 60 5).toInt) (Y := y1.toInt) rfl rfl dX11_limit_41 (tgt := 46) rfl h (fun h => ?_) (fun h => ?_)
        ·
          refine a_aload_n C dX11_limit_46 (i := 0) rfl rfl ?_
          refine a_get C fl_RX11_19 (i := 0) kd_0 (hid 0 (by decide)) (v := .ref (ad 8)) rfl dX11_limit_47 ?_
          refine a_aload_n C dX11_limit_50 (i := 0) rfl rfl ?_
          refine p_getT C fl_RX11_82 (tx := (σ.2.2 0)) kd_0 (hid 0 (by decide)) (fun t e => by subst e; rfl) dX11_limit_51 h (fun ht1 h => ?_)
          refine a_aload_n C dX11_limit_54 (i := 0) rfl rfl ?_
          refine a_get C fl_RX11_58 (i := 0) kd_0 (hid 0 (by decide)) (v := .ref (ad 60)) rfl dX11_limit_55 ?_
          refine a_iconst C dX11_limit_58 (v := 1) rfl ?_
          refine a_aload_n C dX11_limit_59 (i := 0) rfl rfl ?_
          refine p_getT C fl_RX11_82 (tx := (σ.2.2 0)) kd_0 (hid 0 (by decide)) (fun t e => by subst e; rfl) dX11_limit_60 h (fun ht2 h => ?_)
          refine a_get C fl_RX11_220 (i := ((σ.2.2 0))) ht2.1.1 (hid _ ht2.1.2) (v := .int (σ.1 ((σ.2.2 0)) 11)) rfl dX11_limit_63 ?_
          refine p_callVv C (As := [.ref (ad ((σ.2.2 0))), .ref (ad 60), .int 1, .int (σ.1 ((σ.2.2 0)) 11)]) (i := 8) kd_8 (hid 8 (by decide)) ⟨_, _, rfl⟩ (by decide) h (fun _ e => Z_X4_goOn hid ht1 (show airOK 60 from airOK_of 1 (by decide)) e) mi_X4_goOn ml_RX11_223 rfl rfl (Nat.le_of_ble_eq_true rfl) (Nat.le_of_ble_eq_true rfl) (Nat.le_of_ble_eq_true rfl) dX11_limit_66 (fun σ3 h => ?_)
          refine p_iinc C (y := (y2 + 1)) (fun z5 => [some (.ref (ad 0)), some (.int y1), some (.int z5)]) dX11_limit_69 rfl rfl (by decide) rfl (fun _ => rfl) h (fun z5 h => ?_)
          refine a_goto C dX11_limit_72 (tgt := 26) rfl ?_
          exact ih _ _ _ h
        ·
          refine a_iload_n C dX11_limit_44 (i := 2) rfl rfl ?_
          exact a_iret Rt dX11_limit_45 rfl (ret_eq (h.trans (congrArg some hR.symm)))
  refine a_iload_n C dX11_limit_0 (i := 1) rfl rfl ?_
  refine p_if_lt C (X := x1.toInt) rfl dX11_limit_1 (tgt := 11) rfl h (fun h => ?_) (fun h => ?_)
  ·
    refine a_iconst C dX11_limit_11 (v := (-1)) rfl ?_
    exact a_iret Rt dX11_limit_12 rfl (ret_eq (h.trans (congrArg some hR.symm)))
  ·
    refine a_iload_n C dX11_limit_4 (i := 1) rfl rfl ?_
    refine a_sipush C dX11_limit_5 (v := 999) rfl ?_
    refine p_ic_le C (X := x1.toInt) (Y := 999) rfl (by decide) dX11_limit_8 (tgt := 13) rfl h (fun h => ?_) (fun h => ?_)
    ·
      refine a_aload_n C dX11_limit_13 (i := 0) rfl rfl ?_
      refine a_get C fl_RX11_58 (i := 0) kd_0 (hid 0 (by decide)) (v := .ref (ad 60)) rfl dX11_limit_14 ?_
      refine a_aload_n C dX11_limit_17 (i := 0) rfl rfl ?_
      refine a_get C fl_RX11_54 (i := 0) kd_0 (hid 0 (by decide)) (v := .ref (ad 56)) rfl dX11_limit_18 ?_
      refine p_callVv C (As := [.ref (ad 56)]) (i := 60) (show airOK 60 from airOK_of 1 (by decide)).1.1 (hid _ (show airOK 60 from airOK_of 1 (by decide)).1.2) ⟨_, _, rfl⟩ (by decide) h (fun _ e => Z_X0_copy hid (show airOK 60 from airOK_of 1 (by decide)) (show airOK 56 from airOK_of 0 (by decide)) e) mi_X0_copy ml_RX11_230 rfl rfl (Nat.le_of_ble_eq_true rfl) (Nat.le_of_ble_eq_true rfl) (Nat.le_of_ble_eq_true rfl) dX11_limit_21 (fun σ1 h => ?_)
      refine a_iconst C dX11_limit_24 (v := 0) rfl ?_
      refine a_istore_n C dX11_limit_25 (i := 2) rfl (by decide) rfl (vs1 := [some (.ref (ad 0)), some (.int x1), some (.int 0)]) rfl ?_
      exact j26 _ _ _ _ h
    ·
      refine a_iconst C dX11_limit_11 (v := (-1)) rfl ?_
      exact a_iret Rt dX11_limit_12 rfl (ret_eq (h.trans (congrArg some hR.symm)))
set_option maxHeartbeats 4000000 in
set_option maxRecDepth 100000 in
theorem Z_X11_down {l : Launch} {D : va_G} {ids : List Nat} {ad : Nat → Nat} {ca : Nat → ClassId} {σ : HS} {r0 : Int32} {s0 : HS} (hid : ∀ i, i < 277 → i ∈ ids) (h : f_X11_down σ = some (r0, s0)) : Ki l D ids ad ca yX11_down cX11_down 2 .int 6 149 [.ref (ad 0)] σ (fun r σ1 => r = r0 ∧ σ1 = s0) := by
  obtain ⟨R, hR⟩ : ∃ R, (r0, s0) = R := ⟨_, rfl⟩
  replace h := h.trans (congrArg some hR)
  refine Ki.of (by decide) (Nat.le_of_ble_eq_true rfl) 1 (fun Γ C Rt => ?_)
  show AW ids ad ca Γ 0 [some (.ref (ad 0)), none] [] σ
  unfold f_X11_down at h
  have j13 : ∀ (n : Nat) (y1 : Int32) (σ : HS), f_X11_down_13 n y1 σ = some R → AW ids ad ca Γ 13 [some (.ref (ad 0)), some (.int y1)] [] σ := by
    intro n
    induction n with
    | zero => intro y1 σ h; exact nn h
    | succ n ih =>
      intro y1 σ h
      have h : b_X11_down_13 (f_X11_down_13 n) y1 σ = some R := h
      unfold b_X11_down_13 at h
      refine a_iload_n C dX11_down_13 (i := 1) rfl rfl ?_
      refine a_sipush C dX11_down_14 (v := 200) rfl ?_
      refine p_ic_gt C (X := y1.toInt) (Y := 200) rfl (by decide) dX11_down_17 (tgt := 61) rfl h (fun h => ?_) (fun h => ?_)
      ·
        refine a_bipush C dX11_down_61 (v := (-2)) rfl ?_
        exact a_iret Rt dX11_down_63 rfl (ret_eq (h.trans (congrArg some hR.symm)))
      ·
        refine a_aload_n C dX11_down_20 (i := 0) rfl rfl ?_
        refine a_get C fl_RX11_58 (i := 0) kd_0 (hid 0 (by decide)) (v := .ref (ad 60)) rfl dX11_down_21 ?_
        refine p_callVi C (As := []) (i := 60) (show airOK 60 from airOK_of 1 (by decide)).1.1 (hid _ (show airOK 60 from airOK_of 1 (by decide)).1.2) ⟨_, _, rfl⟩ (by decide) h (fun _ _ e => Z_X0_howManyUp hid (show airOK 60 from airOK_of 1 (by decide)) e) mi_X0_howManyUp ml_RX11_156 rfl rfl (Nat.le_of_ble_eq_true rfl) (Nat.le_of_ble_eq_true rfl) (Nat.le_of_ble_eq_true rfl) dX11_down_24 (fun r2 σ1 h => ?_)
        refine p_if_ne C (X := r2.toInt) rfl dX11_down_27 (tgt := 32) rfl h (fun h => ?_) (fun h => ?_)
        ·
          refine a_aload_n C dX11_down_32 (i := 0) rfl rfl ?_
          refine a_get C fl_RX11_19 (i := 0) kd_0 (hid 0 (by decide)) (v := .ref (ad 8)) rfl dX11_down_33 ?_
          refine a_aload_n C dX11_down_36 (i := 0) rfl rfl ?_
          refine p_getT C fl_RX11_82 (tx := (σ1.2.2 0)) kd_0 (hid 0 (by decide)) (fun t e => by subst e; rfl) dX11_down_37 h (fun ht3 h => ?_)
          refine a_aload_n C dX11_down_40 (i := 0) rfl rfl ?_
          refine a_get C fl_RX11_58 (i := 0) kd_0 (hid 0 (by decide)) (v := .ref (ad 60)) rfl dX11_down_41 ?_
          refine a_iconst C dX11_down_44 (v := 1) rfl ?_
          refine a_aload_n C dX11_down_45 (i := 0) rfl rfl ?_
          refine p_getT C fl_RX11_82 (tx := (σ1.2.2 0)) kd_0 (hid 0 (by decide)) (fun t e => by subst e; rfl) dX11_down_46 h (fun ht4 h => ?_)
          refine a_get C fl_RX11_220 (i := ((σ1.2.2 0))) ht4.1.1 (hid _ ht4.1.2) (v := .int (σ1.1 ((σ1.2.2 0)) 11)) rfl dX11_down_49 ?_
          refine p_callVv C (As := [.ref (ad ((σ1.2.2 0))), .ref (ad 60), .int 1, .int (σ1.1 ((σ1.2.2 0)) 11)]) (i := 8) kd_8 (hid 8 (by decide)) ⟨_, _, rfl⟩ (by decide) h (fun _ e => Z_X4_goOn hid ht3 (show airOK 60 from airOK_of 1 (by decide)) e) mi_X4_goOn ml_RX11_223 rfl rfl (Nat.le_of_ble_eq_true rfl) (Nat.le_of_ble_eq_true rfl) (Nat.le_of_ble_eq_true rfl) dX11_down_52 (fun σ5 h => ?_)
          refine p_iinc C (y := (y1 + 1)) (fun z7 => [some (.ref (ad 0)), some (.int z7)]) dX11_down_55 rfl rfl (by decide) rfl (fun _ => rfl) h (fun z7 h => ?_)
          refine a_goto C dX11_down_58 (tgt := 13) rfl ?_
          exact ih _ _ h
        ·
          refine a_iload_n C dX11_down_30 (i := 1) rfl rfl ?_
          exact a_iret Rt dX11_down_31 rfl (ret_eq (h.trans (congrArg some hR.symm)))
  refine a_aload_n C dX11_down_0 (i := 0) rfl rfl ?_
  refine a_get C fl_RX11_58 (i := 0) kd_0 (hid 0 (by decide)) (v := .ref (ad 60)) rfl dX11_down_1 ?_
  refine a_aload_n C dX11_down_4 (i := 0) rfl rfl ?_
  refine a_get C fl_RX11_54 (i := 0) kd_0 (hid 0 (by decide)) (v := .ref (ad 56)) rfl dX11_down_5 ?_
  refine p_callVv C (As := [.ref (ad 56)]) (i := 60) (show airOK 60 from airOK_of 1 (by decide)).1.1 (hid _ (show airOK 60 from airOK_of 1 (by decide)).1.2) ⟨_, _, rfl⟩ (by decide) h (fun _ e => Z_X0_copy hid (show airOK 60 from airOK_of 1 (by decide)) (show airOK 56 from airOK_of 0 (by decide)) e) mi_X0_copy ml_RX11_230 rfl rfl (Nat.le_of_ble_eq_true rfl) (Nat.le_of_ble_eq_true rfl) (Nat.le_of_ble_eq_true rfl) dX11_down_8 (fun σ1 h => ?_)
  refine a_iconst C dX11_down_11 (v := 0) rfl ?_
  refine a_istore_n C dX11_down_12 (i := 1) rfl (by decide) rfl (vs1 := [some (.ref (ad 0)), some (.int 0)]) rfl ?_
  exact j13 _ _ _ h

