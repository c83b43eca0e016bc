set_option maxHeartbeats 4000000 in
set_option maxRecDepth 100000 in
theorem Z_X3_close {l : Launch} {D : va_G} {ids : List Nat} {ad : Nat → Nat} {ca : Nat → ClassId} {σ : HS} {p1 : Nat} {x2 : Int32} {r0 : Int32} {s0 : HS} (hid : ∀ i, i < 277 → i ∈ ids) (hp1 : rowOK p1) (h : f_X3_close p1 x2 σ = some (r0, s0)) : Ki l D ids ad ca yX3_close cX3_close 5 .boolean 0 0 [.ref (ad p1), .int x2] σ (fun r σ1 => r = r0 ∧ σ1 = s0) := by
  obtain ⟨R, hR⟩ : ∃ R, (r0, s0) = R := ⟨_, rfl⟩
  replace h := h.trans (congrArg some hR)
  refine Ki.of (by decide) (Nat.le_of_ble_eq_true rfl) 3 (fun Γ C Rt => ?_)
  show AW ids ad ca Γ 0 [some (.ref (ad p1)), some (.int x2), none, none, none] [] σ
  unfold f_X3_close at h
  have j4 : ∀ (n : Nat) (y1 : Int32) (y2 : Int32) (y3 : Int32) (σ : HS), f_X3_close_4 p1 n y1 y2 y3 σ = some R → AW ids ad ca Γ 4 [some (.ref (ad p1)), some (.int y1), some (.int y2), some (.int y3), none] [] σ := by
    intro n
    induction n with
    | zero => intro y1 y2 y3 σ h; exact nn h
    | succ n ih =>
      intro y1 y2 y3 σ h
      have h : b_X3_close_4 p1 (f_X3_close_4 p1 n) y1 y2 y3 σ = some R := h
      unfold b_X3_close_4 at h
      refine a_iload_n C dX3_close_4 (i := 3) rfl rfl ?_
      refine a_iload_n C dX3_close_5 (i := 1) rfl rfl ?_
      refine p_ic_ge C (X := y3.toInt) (Y := y1.toInt) rfl rfl dX3_close_6 (tgt := 40) rfl h (fun h => ?_) (fun h => ?_)
      ·
        refine a_iconst C dX3_close_40 (v := 1) rfl ?_
        exact a_iret Rt dX3_close_41 (nar_z (by decide)).1 (ret_eq (h.trans (congrArg some hR.symm)))
      ·
        refine a_iconst C dX3_close_9 (v := 1) rfl ?_
        refine a_iload_n C dX3_close_10 (i := 3) rfl rfl ?_
        refine a_aload_n C dX3_close_11 (i := 0) rfl rfl ?_
        refine a_iload_n C dX3_close_12 (i := 3) rfl rfl ?_
        refine p_iald C (i := p1) hp1 hid rfl dX3_close_13 h (fun h => ?_)
        refine a_iadd C dX3_close_14 ?_
        refine a_iload_n C dX3_close_15 (i := 1) rfl rfl ?_
        refine p_irem C rfl dX3_close_16 h (fun h => ?_)
        refine a_ishl C dX3_close_17 ?_
        refine p_istore C (fun z1 => [some (.ref (ad p1)), some (.int y1), some (.int y2), some (.int y3), some (.int z1)]) dX3_close_18 (by decide) rfl (fun _ => rfl) h (fun z1 h => ?_)
        refine a_iload_n C dX3_close_20 (i := 2) rfl rfl ?_
        refine a_iload C dX3_close_21 rfl ?_
        refine a_iand C dX3_close_23 ?_
        refine p_if_eq C (X := (y2 &&& z1).toInt) rfl dX3_close_24 (tgt := 29) rfl h (fun h => ?_) (fun h => ?_)
        ·
          refine a_iload_n C dX3_close_29 (i := 2) rfl rfl ?_
          refine a_iload C dX3_close_30 rfl ?_
          refine a_ior C dX3_close_32 ?_
          refine p_istore_n C (fun z2 => [some (.ref (ad p1)), some (.int y1), some (.int z2), some (.int y3), some (.int z1)]) dX3_close_33 (i := 2) rfl (by decide) rfl (fun _ => rfl) h (fun z2 h => ?_)
          refine p_iinc C (y := (y3 + 1)) (fun z3 => [some (.ref (ad p1)), some (.int y1), some (.int z2), some (.int z3), some (.int z1)]) dX3_close_34 rfl rfl (by decide) rfl (fun _ => rfl) h (fun z3 h => ?_)
          refine a_goto C dX3_close_37 (tgt := 4) rfl ?_
          refine AW.sub (vs' := [some (.ref (ad p1)), some (.int y1), some (.int z2), some (.int z3), none]) (lsub_of (by simp [lsubB])) ?_
          exact ih _ _ _ _ h
        ·
          refine a_iconst C dX3_close_27 (v := 0) rfl ?_
          exact a_iret Rt dX3_close_28 (nar_z (by decide)).1 (ret_eq (h.trans (congrArg some hR.symm)))
  refine a_iconst C dX3_close_0 (v := 0) rfl ?_
  refine a_istore_n C dX3_close_1 (i := 2) rfl (by decide) rfl (vs1 := [some (.ref (ad p1)), some (.int x2), some (.int 0), none, none]) rfl ?_
  refine a_iconst C dX3_close_2 (v := 0) rfl ?_
  refine a_istore_n C dX3_close_3 (i := 3) rfl (by decide) rfl (vs1 := [some (.ref (ad p1)), some (.int x2), some (.int 0), some (.int 0), none]) rfl ?_
  exact j4 _ _ _ _ _ h
set_option maxHeartbeats 4000000 in
set_option maxRecDepth 100000 in
theorem Z_X3_kept {l : Launch} {D : va_G} {ids : List Nat} {ad : Nat → Nat} {ca : Nat → ClassId} {σ : HS} {p1 : Nat} {x2 : Int32} {r0 : Int32} {s0 : HS} (hid : ∀ i, i < 277 → i ∈ ids) (hp1 : rowOK p1) (h : f_X3_kept p1 x2 σ = some (r0, s0)) : Ki l D ids ad ca yX3_kept cX3_kept 4 .int 0 0 [.ref (ad p1), .int x2] σ (fun r σ1 => r = r0 ∧ σ1 = s0) := by
  obtain ⟨R, hR⟩ : ∃ R, (r0, s0) = R := ⟨_, rfl⟩
  replace h := h.trans (congrArg some hR)
  refine Ki.of (by decide) (Nat.le_of_ble_eq_true rfl) 2 (fun Γ C Rt => ?_)
  show AW ids ad ca Γ 0 [some (.ref (ad p1)), some (.int x2), none, none] [] σ
  unfold f_X3_kept at h
  have j4 : ∀ (n : Nat) (y1 : Int32) (y2 : Int32) (y3 : Int32) (σ : HS), f_X3_kept_4 p1 n y1 y2 y3 σ = some R → AW ids ad ca Γ 4 [some (.ref (ad p1)), some (.int y1), some (.int y2), some (.int y3)] [] σ := by
    intro n
    induction n with
    | zero => intro y1 y2 y3 σ h; exact nn h
    | succ n ih =>
      intro y1 y2 y3 σ h
      have h : b_X3_kept_4 p1 (f_X3_kept_4 p1 n) y1 y2 y3 σ = some R := h
      unfold b_X3_kept_4 at h
      refine a_iload_n C dX3_kept_4 (i := 3) rfl rfl ?_
      refine a_iload_n C dX3_kept_5 (i := 1) rfl rfl ?_
      refine p_ic_ge C (X := y3.toInt) (Y := y1.toInt) rfl rfl dX3_kept_6 (tgt := 21) rfl h (fun h => ?_) (fun h => ?_)
      ·
        refine a_iload_n C dX3_kept_21 (i := 1) rfl rfl ?_
        refine a_iconst C dX3_kept_22 (v := 1) rfl ?_
        refine p_ic_ge C (X := y1.toInt) (Y := 1) rfl (by decide) dX3_kept_23 (tgt := 30) rfl h (fun h => ?_) (fun h => ?_)
        ·
          refine a_iload_n C dX3_kept_30 (i := 2) rfl rfl ?_
          refine a_iload_n C dX3_kept_31 (i := 1) rfl rfl ?_
          refine p_idiv C rfl dX3_kept_32 h (fun h => ?_)
          exact a_iret Rt dX3_kept_33 rfl (ret_eq (h.trans (congrArg some hR.symm)))
        ·
          refine a_iconst C dX3_kept_26 (v := 0) rfl ?_
          refine a_goto C dX3_kept_27 (tgt := 33) rfl ?_
          exact a_iret Rt dX3_kept_33 rfl (ret_eq (h.trans (congrArg some hR.symm)))
      ·
        refine a_iload_n C dX3_kept_9 (i := 2) rfl rfl ?_
        refine a_aload_n C dX3_kept_10 (i := 0) rfl rfl ?_
        refine a_iload_n C dX3_kept_11 (i := 3) rfl rfl ?_
        refine p_iald C (i := p1) hp1 hid rfl dX3_kept_12 h (fun h => ?_)
        refine a_iadd C dX3_kept_13 ?_
        refine p_istore_n C (fun z1 => [some (.ref (ad p1)), some (.int y1), some (.int z1), some (.int y3)]) dX3_kept_14 (i := 2) rfl (by decide) rfl (fun _ => rfl) h (fun z1 h => ?_)
        refine p_iinc C (y := (y3 + 1)) (fun z2 => [some (.ref (ad p1)), some (.int y1), some (.int z1), some (.int z2)]) dX3_kept_15 rfl rfl (by decide) rfl (fun _ => rfl) h (fun z2 h => ?_)
        refine a_goto C dX3_kept_18 (tgt := 4) rfl ?_
        exact ih _ _ _ _ h
  refine a_iconst C dX3_kept_0 (v := 0) rfl ?_
  refine a_istore_n C dX3_kept_1 (i := 2) rfl (by decide) rfl (vs1 := [some (.ref (ad p1)), some (.int x2), some (.int 0), none]) rfl ?_
  refine a_iconst C dX3_kept_2 (v := 0) rfl ?_
  refine a_istore_n C dX3_kept_3 (i := 3) rfl (by decide) rfl (vs1 := [some (.ref (ad p1)), some (.int x2), some (.int 0), some (.int 0)]) rfl ?_
  exact j4 _ _ _ _ _ h
set_option maxHeartbeats 4000000 in
set_option maxRecDepth 100000 in
theorem Z_X3_highest {l : Launch} {D : va_G} {ids : List Nat} {ad : Nat → Nat} {ca : Nat → ClassId} {σ : HS} {p1 : Nat} {x2 : Int32} {r0 : Int32} {s0 : HS} (hid : ∀ i, i < 277 → i ∈ ids) (hp1 : rowOK p1) (h : f_X3_highest p1 x2 σ = some (r0, s0)) : Ki l D ids ad ca yX3_highest cX3_highest 4 .int 1 21 [.ref (ad p1), .int x2] σ (fun r σ1 => r = r0 ∧ σ1 = s0) := by
  obtain ⟨R, hR⟩ : ∃ R, (r0, s0) = R := ⟨_, rfl⟩
  replace h := h.trans (congrArg some hR)
  refine Ki.of (by decide) (Nat.le_of_ble_eq_true rfl) 2 (fun Γ C Rt => ?_)
  show AW ids ad ca Γ 0 [some (.ref (ad p1)), some (.int x2), none, none] [] σ
  unfold f_X3_highest at h
  have j4 : ∀ (n : Nat) (y1 : Int32) (y2 : Int32) (y3 : Int32) (σ : HS), f_X3_highest_4 p1 n y1 y2 y3 σ = some R → AW ids ad ca Γ 4 [some (.ref (ad p1)), some (.int y1), some (.int y2), some (.int y3)] [] σ := by
    intro n
    induction n with
    | zero => intro y1 y2 y3 σ h; exact nn h
    | succ n ih =>
      intro y1 y2 y3 σ h
      have h : b_X3_highest_4 p1 (f_X3_highest_4 p1 n) y1 y2 y3 σ = some R := h
      unfold b_X3_highest_4 at h
      refine a_iload_n C dX3_highest_4 (i := 3) rfl rfl ?_
      refine a_iload_n C dX3_highest_5 (i := 1) rfl rfl ?_
      refine p_ic_ge C (X := y3.toInt) (Y := y1.toInt) rfl rfl dX3_highest_6 (tgt := 23) rfl h (fun h => ?_) (fun h => ?_)
      ·
        refine a_iload_n C dX3_highest_23 (i := 2) rfl rfl ?_
        exact a_iret Rt dX3_highest_24 rfl (ret_eq (h.trans (congrArg some hR.symm)))
      ·
        refine a_iload_n C dX3_highest_9 (i := 2) rfl rfl ?_
        refine a_aload_n C dX3_highest_10 (i := 0) rfl rfl ?_
        refine a_iload_n C dX3_highest_11 (i := 3) rfl rfl ?_
        refine p_iald C (i := p1) hp1 hid rfl dX3_highest_12 h (fun h => ?_)
        refine a_mmax C dX3_highest_13 mm_RX3_9 mm_max.1 mm_max.2.1 mm_max.2.2 (Nat.le_of_ble_eq_true rfl) (Nat.le_of_ble_eq_true rfl) ?_
        refine p_istore_n C (fun z1 => [some (.ref (ad p1)), some (.int y1), some (.int z1), some (.int y3)]) dX3_highest_16 (i := 2) rfl (by decide) rfl (fun _ => rfl) h (fun z1 h => ?_)
        refine p_iinc C (y := (y3 + 1)) (fun z2 => [some (.ref (ad p1)), some (.int y1), some (.int z1), some (.int z2)]) dX3_highest_17 rfl rfl (by decide) rfl (fun _ => rfl) h (fun z2 h => ?_)
        refine a_goto C dX3_highest_20 (tgt := 4) rfl ?_
        exact ih _ _ _ _ h
  refine a_iconst C dX3_highest_0 (v := 0) rfl ?_
  refine a_istore_n C dX3_highest_1 (i := 2) rfl (by decide) rfl (vs1 := [some (.ref (ad p1)), some (.int x2), some (.int 0), none]) rfl ?_
  refine a_iconst C dX3_highest_2 (v := 0) rfl ?_
  refine a_istore_n C dX3_highest_3 (i := 3) rfl (by decide) rfl (vs1 := [some (.ref (ad p1)), some (.int x2), some (.int 0), some (.int 0)]) rfl ?_
  exact j4 _ _ _ _ _ h
set_option maxHeartbeats 4000000 in
set_option maxRecDepth 100000 in
theorem Z_X3_turns {l : Launch} {D : va_G} {ids : List Nat} {ad : Nat → Nat} {ca : Nat → ClassId} {σ : HS} {p1 : Nat} {p2 : Nat} {x3 : Int32} {r0 : Int32} {s0 : HS} (hid : ∀ i, i < 277 → i ∈ ids) (hp1 : rowOK p1) (hp2 : rowOK p2) (h : f_X3_turns p1 p2 x3 σ = some (r0, s0)) : Ki l D ids ad ca yX3_turns cX3_turns 6 .int 0 0 [.ref (ad p1), .ref (ad p2), .int x3] σ (fun r σ1 => r = r0 ∧ σ1 = s0) := by
  obtain ⟨R, hR⟩ : ∃ R, (r0, s0) = R := ⟨_, rfl⟩
  replace h := h.trans (congrArg some hR)
  refine Ki.of (by decide) (Nat.le_of_ble_eq_true rfl) 3 (fun Γ C Rt => ?_)
  show AW ids ad ca Γ 0 [some (.ref (ad p1)), some (.ref (ad p2)), some (.int x3), none, none, none] [] σ
  unfold f_X3_turns at h
  have j44 : ∀ (k2 : Int32 → Int32 → HS → Option (Int32 × HS)) (hk2 : ∀ (y2 : Int32) (y3 : Int32) (σ : HS), k2 y2 y3 σ = some R → AW ids ad ca Γ 2 [some (.ref (ad p1)), some (.ref (ad p2)), some (.int y2), some (.int y3), none, none] [] σ) (k13 : Int32 → Int32 → Int32 → Int32 → HS → Option (Int32 × HS)) (hk13 : ∀ (y2 : Int32) (y3 : Int32) (y4 : Int32) (y5 : Int32) (σ : HS), k13 y2 y3 y4 y5 σ = some R → AW ids ad ca Γ 13 [some (.ref (ad p1)), some (.ref (ad p2)), some (.int y2), some (.int y3), some (.int y4), some (.int y5)] [] σ) (y2 : Int32) (y3 : Int32) (y5 : Int32) (v0 : Int32) (σ : HS), f_X3_turns_44 p1 p2 k2 k13 y2 y3 y5 v0 σ = some R → AW ids ad ca Γ 44 [some (.ref (ad p1)), some (.ref (ad p2)), some (.int y2), some (.int y3), none, some (.int y5)] [.int v0] σ := by
    intro k2 hk2 k13 hk13 y2 y3 y5 v0 σ h
    unfold f_X3_turns_44 at h
    refine a_istore C dX3_turns_44 (by decide) rfl (vs1 := [some (.ref (ad p1)), some (.ref (ad p2)), some (.int y2), some (.int y3), some (.int v0), some (.int y5)]) rfl ?_
    refine p_iinc C (y := (y5 + 1)) (fun z1 => [some (.ref (ad p1)), some (.ref (ad p2)), some (.int y2), some (.int y3), some (.int v0), some (.int z1)]) dX3_turns_46 rfl rfl (by decide) rfl (fun _ => rfl) h (fun z1 h => ?_)
    refine a_goto C dX3_turns_49 (tgt := 13) rfl ?_
    exact hk13 _ _ _ _ _ h
  have j43 : ∀ (k2 : Int32 → Int32 → HS → Option (Int32 × HS)) (hk2 : ∀ (y2 : Int32) (y3 : Int32) (σ : HS), k2 y2 y3 σ = some R → AW ids ad ca Γ 2 [some (.ref (ad p1)), some (.ref (ad p2)), some (.int y2), some (.int y3), none, none] [] σ) (k13 : Int32 → Int32 → Int32 → Int32 → HS → Option (Int32 × HS)) (hk13 : ∀ (y2 : Int32) (y3 : Int32) (y4 : Int32) (y5 : Int32) (σ : HS), k13 y2 y3 y4 y5 σ = some R → AW ids ad ca Γ 13 [some (.ref (ad p1)), some (.ref (ad p2)), some (.int y2), some (.int y3), some (.int y4), some (.int y5)] [] σ) (y2 : Int32) (y3 : Int32) (y5 : Int32) (σ : HS), f_X3_turns_43 p1 p2 k2 k13 y2 y3 y5 σ = some R → AW ids ad ca Γ 43 [some (.ref (ad p1)), some (.ref (ad p2)), some (.int y2), some (.int y3), none, some (.int y5)] [] σ := by
    intro k2 hk2 k13 hk13 y2 y3 y5 σ h
    unfold f_X3_turns_43 at h
    refine a_iconst C dX3_turns_43 (v := 0) rfl ?_
    exact j44 k2 hk2 k13 hk13 _ _ _ _ _ h
  have j13 : ∀ (k2 : Int32 → Int32 → HS → Option (Int32 × HS)) (hk2 : ∀ (y2 : Int32) (y3 : Int32) (σ : HS), k2 y2 y3 σ = some R → AW ids ad ca Γ 2 [some (.ref (ad p1)), some (.ref (ad p2)), some (.int y2), some (.int y3), none, none] [] σ) (n : Nat) (y2 : Int32) (y3 : Int32) (y4 : Int32) (y5 : Int32) (σ : HS), f_X3_turns_13 p1 p2 k2 n y2 y3 y4 y5 σ = some R → AW ids ad ca Γ 13 [some (.ref (ad p1)), some (.ref (ad p2)), some (.int y2), some (.int y3), some (.int y4), some (.int y5)] [] σ := by
    intro k2 hk2 n
    induction n with
    | zero => intro y2 y3 y4 y5 σ h; exact nn h
    | succ n ih =>
      intro y2 y3 y4 y5 σ h
      have h : b_X3_turns_13 p1 p2 k2 (f_X3_turns_13 p1 p2 k2 n) y2 y3 y4 y5 σ = some R := h
      unfold b_X3_turns_13 at h
      refine a_iload C dX3_turns_13 rfl ?_
      refine a_iload_n C dX3_turns_15 (i := 2) rfl rfl ?_
      refine p_ic_ge C (X := y5.toInt) (Y := y2.toInt) rfl rfl dX3_turns_16 (tgt := 52) rfl h (fun h => ?_) (fun h => ?_)
      ·
        refine a_iload C dX3_turns_52 rfl ?_
        refine p_if_eq C (X := y4.toInt) rfl dX3_turns_54 (tgt := 59) rfl h (fun h => ?_) (fun h => ?_)
        ·
          refine p_iinc C (y := (y3 + 1)) (fun z1 => [some (.ref (ad p1)), some (.ref (ad p2)), some (.int y2), some (.int z1), some (.int y4), some (.int y5)]) dX3_turns_59 rfl rfl (by decide) rfl (fun _ => rfl) h (fun z1 h => ?_)
          refine a_goto C dX3_turns_62 (tgt := 2) rfl ?_
          refine AW.sub (vs' := [some (.ref (ad p1)), some (.ref (ad p2)), some (.int y2), some (.int z1), none, none]) (lsub_of (by simp [lsubB])) ?_
          exact hk2 _ _ _ h
        ·
          refine a_iload_n C dX3_turns_57 (i := 3) rfl rfl ?_
          exact a_iret Rt dX3_turns_58 rfl (ret_eq (h.trans (congrArg some hR.symm)))
      ·
        refine a_iload C dX3_turns_19 rfl ?_
        refine p_if_eq C (X := y4.toInt) rfl dX3_turns_21 (tgt := 43) rfl h (fun h => ?_) (fun h => ?_)
        ·
          refine AW.sub (vs' := [some (.ref (ad p1)), some (.ref (ad p2)), some (.int y2), some (.int y3), none, some (.int y5)]) (lsub_of (by simp [lsubB])) ?_
          exact j43 k2 hk2 (f_X3_turns_13 p1 p2 k2 n) (fun y2 y3 y4 y5 σ h => ih y2 y3 y4 y5 σ h) _ _ _ _ h
        ·
          refine a_aload_n C dX3_turns_24 (i := 0) rfl rfl ?_
          refine a_iload C dX3_turns_25 rfl ?_
          refine a_iload_n C dX3_turns_27 (i := 3) rfl rfl ?_
          refine a_iadd C dX3_turns_28 ?_
          refine a_iload_n C dX3_turns_29 (i := 2) rfl rfl ?_
          refine p_irem C rfl dX3_turns_30 h (fun h => ?_)
          refine p_iald C (i := p1) hp1 hid rfl dX3_turns_31 h (fun h => ?_)
          refine a_aload_n C dX3_turns_32 (i := 1) rfl rfl ?_
          refine a_iload C dX3_turns_33 rfl ?_
          refine p_iald C (i := p2) hp2 hid rfl dX3_turns_35 h (fun h => ?_)
          refine p_ic_ne C (X := (σ.1 p1 ((y5 + y3) - (y5 + y3) / y2 * y2).toInt.toNat).toInt) (Y := (σ.1 p2 y5.toInt.toNat).toInt) rfl rfl dX3_turns_36 (tgt := 43) rfl h (fun h => ?_) (fun h => ?_)
          ·
            refine AW.sub (vs' := [some (.ref (ad p1)), some (.ref (ad p2)), some (.int y2), some (.int y3), none, some (.int y5)]) (lsub_of (by simp [lsubB])) ?_
            exact j43 k2 hk2 (f_X3_turns_13 p1 p2 k2 n) (fun y2 y3 y4 y5 σ h => ih y2 y3 y4 y5 σ h) _ _ _ _ h
          ·
            refine a_iconst C dX3_turns_39 (v := 1) rfl ?_
            refine a_goto C dX3_turns_40 (tgt := 44) rfl ?_
            refine AW.sub (vs' := [some (.ref (ad p1)), some (.ref (ad p2)), some (.int y2), some (.int y3), none, some (.int y5)]) (lsub_of (by simp [lsubB])) ?_
            exact j44 k2 hk2 (f_X3_turns_13 p1 p2 k2 n) (fun y2 y3 y4 y5 σ h => ih y2 y3 y4 y5 σ h) _ _ _ _ _ h
  have j2 : ∀ (n : Nat) (y2 : Int32) (y3 : Int32) (σ : HS), f_X3_turns_2 p1 p2 n y2 y3 σ = some R → AW ids ad ca Γ 2 [some (.ref (ad p1)), some (.ref (ad p2)), some (.int y2), some (.int y3), none, none] [] σ := by
    intro n
    induction n with
    | zero => intro y2 y3 σ h; exact nn h
    | succ n ih =>
      intro y2 y3 σ h
      have h : b_X3_turns_2 p1 p2 (f_X3_turns_2 p1 p2 n) y2 y3 σ = some R := h
      unfold b_X3_turns_2 at h
      refine a_iload_n C dX3_turns_2 (i := 3) rfl rfl ?_
      refine a_iload_n C dX3_turns_3 (i := 2) rfl rfl ?_
      refine p_ic_ge C (X := y3.toInt) (Y := y2.toInt) rfl rfl dX3_turns_4 (tgt := 65) rfl h (fun h => ?_) (fun h => ?_)
      ·
        refine a_bipush C dX3_turns_65 (v := (-2)) rfl ?_
        exact a_iret Rt dX3_turns_67 rfl (ret_eq (h.trans (congrArg some hR.symm)))
      ·
        refine a_iconst C dX3_turns_7 (v := 1) rfl ?_
        refine a_istore C dX3_turns_8 (by decide) rfl (vs1 := [some (.ref (ad p1)), some (.ref (ad p2)), some (.int y2), some (.int y3), some (.int 1), none]) rfl ?_
        refine a_iconst C dX3_turns_10 (v := 0) rfl ?_
        refine a_istore C dX3_turns_11 (by decide) rfl (vs1 := [some (.ref (ad p1)), some (.ref (ad p2)), some (.int y2), some (.int y3), some (.int 1), some (.int 0)]) rfl ?_
        exact j13 (f_X3_turns_2 p1 p2 n) (fun y2 y3 σ h => ih y2 y3 σ h) _ _ _ _ _ _ h
  refine a_iconst C dX3_turns_0 (v := 0) rfl ?_
  refine a_istore_n C dX3_turns_1 (i := 3) rfl (by decide) rfl (vs1 := [some (.ref (ad p1)), some (.ref (ad p2)), some (.int x3), some (.int 0), none, none]) rfl ?_
  exact j2 _ _ _ _ h
set_option maxHeartbeats 4000000 in
set_option maxRecDepth 100000 in
theorem Z_X3_rounds {l : Launch} {D : va_G} {ids : List Nat} {ad : Nat → Nat} {ca : Nat → ClassId} {σ : HS} {p1 : Nat} {x2 : Int32} {r0 : Int32} {s0 : HS} (hid : ∀ i, i < 277 → i ∈ ids) (hp1 : rowOK p1) (h : f_X3_rounds p1 x2 σ = some (r0, s0)) : Ki l D ids ad ca yX3_rounds cX3_rounds 7 .int 0 0 [.ref (ad p1), .int x2] σ (fun r σ1 => r = r0 ∧ σ1 = s0) := by
  obtain ⟨R, hR⟩ : ∃ R, (r0, s0) = R := ⟨_, rfl⟩
  replace h := h.trans (congrArg some hR)
  refine Ki.of (by decide) (Nat.le_of_ble_eq_true rfl) 5 (fun Γ C Rt => ?_)
  show AW ids ad ca Γ 0 [some (.ref (ad p1)), some (.int x2), none, none, none, none, none] [] σ
  unfold f_X3_rounds at h
  have j62 : ∀ (k7 : Int32 → Int32 → Int32 → Int32 → HS → Option (Int32 × HS)) (hk7 : ∀ (y1 : Int32) (y2 : Int32) (y3 : Int32) (y4 : Int32) (σ : HS), k7 y1 y2 y3 y4 σ = some R → AW ids ad ca Γ 7 [some (.ref (ad p1)), some (.int y1), some (.int y2), some (.int y3), some (.int y4), none, none] [] σ) (y1 : Int32) (y2 : Int32) (y3 : Int32) (y4 : Int32) (σ : HS), f_X3_rounds_62 p1 k7 y1 y2 y3 y4 σ = some R → AW ids ad ca Γ 62 [some (.ref (ad p1)), some (.int y1), some (.int y2), some (.int y3), some (.int y4), none, none] [] σ := by
    intro k7 hk7 y1 y2 y3 y4 σ h
    unfold f_X3_rounds_62 at h
    refine p_iinc C (y := (y4 + 1)) (fun z1 => [some (.ref (ad p1)), some (.int y1), some (.int y2), some (.int y3), some (.int z1), none, none]) dX3_rounds_62 rfl rfl (by decide) rfl (fun _ => rfl) h (fun z1 h => ?_)
    refine a_goto C dX3_rounds_65 (tgt := 7) rfl ?_
    exact hk7 _ _ _ _ _ h
  have j32 : ∀ (k7 : Int32 → Int32 → Int32 → Int32 → HS → Option (Int32 × HS)) (hk7 : ∀ (y1 : Int32) (y2 : Int32) (y3 : Int32) (y4 : Int32) (σ : HS), k7 y1 y2 y3 y4 σ = some R → AW ids ad ca Γ 7 [some (.ref (ad p1)), some (.int y1), some (.int y2), some (.int y3), some (.int y4), none, none] [] σ) (n : Nat) (y1 : Int32) (y2 : Int32) (y3 : Int32) (y4 : Int32) (y5 : Int32) (y6 : Int32) (σ : HS), f_X3_rounds_32 p1 k7 n y1 y2 y3 y4 y5 y6 σ = some R → AW ids ad ca Γ 32 [some (.ref (ad p1)), some (.int y1), some (.int y2), some (.int y3), some (.int y4), some (.int y5), some (.int y6)] [] σ := by
    intro k7 hk7 n
    induction n with
    | zero => intro y1 y2 y3 y4 y5 y6 σ h; exact nn h
    | succ n ih =>
      intro y1 y2 y3 y4 y5 y6 σ h
      have h : b_X3_rounds_32 p1 k7 (f_X3_rounds_32 p1 k7 n) y1 y2 y3 y4 y5 y6 σ = some R := h
      unfold b_X3_rounds_32 at h
      refine a_iload C dX3_rounds_32 rfl ?_
      refine a_iload_n C dX3_rounds_34 (i := 1) rfl rfl ?_
      refine p_ic_ge C (X := y6.toInt) (Y := y1.toInt) rfl rfl dX3_rounds_35 (tgt := 62) rfl h (fun h => ?_) (fun h => ?_)
      ·
        refine AW.sub (vs' := [some (.ref (ad p1)), some (.int y1), some (.int y2), some (.int y3), some (.int y4), none, none]) (lsub_of (by simp [lsubB])) ?_
        exact j62 k7 hk7 _ _ _ _ _ h
      ·
        refine a_iload_n C dX3_rounds_38 (i := 2) rfl rfl ?_
        refine a_iconst C dX3_rounds_39 (v := 1) rfl ?_
        refine a_iload C dX3_rounds_40 rfl ?_
        refine a_ishl C dX3_rounds_42 ?_
        refine a_ior C dX3_rounds_43 ?_
        refine p_istore_n C (fun z1 => [some (.ref (ad p1)), some (.int y1), some (.int z1), some (.int y3), some (.int y4), some (.int y5), some (.int y6)]) dX3_rounds_44 (i := 2) rfl (by decide) rfl (fun _ => rfl) h (fun z1 h => ?_)
        refine a_iload C dX3_rounds_45 rfl ?_
        refine a_aload_n C dX3_rounds_47 (i := 0) rfl rfl ?_
        refine a_iload C dX3_rounds_48 rfl ?_
        refine p_iald C (i := p1) hp1 hid rfl dX3_rounds_50 h (fun h => ?_)
        refine a_iadd C dX3_rounds_51 ?_
        refine a_iload_n C dX3_rounds_52 (i := 1) rfl rfl ?_
        refine p_irem C rfl dX3_rounds_53 h (fun h => ?_)
        refine p_istore C (fun z2 => [some (.ref (ad p1)), some (.int y1), some (.int z1), some (.int y3), some (.int y4), some (.int z2), some (.int y6)]) dX3_rounds_54 (by decide) rfl (fun _ => rfl) h (fun z2 h => ?_)
        refine p_iinc C (y := (y6 + 1)) (fun z3 => [some (.ref (ad p1)), some (.int y1), some (.int z1), some (.int y3), some (.int y4), some (.int z2), some (.int z3)]) dX3_rounds_56 rfl rfl (by decide) rfl (fun _ => rfl) h (fun z3 h => ?_)
        refine a_goto C dX3_rounds_59 (tgt := 32) rfl ?_
        exact ih _ _ _ _ _ _ _ h
  have j7 : ∀ (n : Nat) (y1 : Int32) (y2 : Int32) (y3 : Int32) (y4 : Int32) (σ : HS), f_X3_rounds_7 p1 n y1 y2 y3 y4 σ = some R → AW ids ad ca Γ 7 [some (.ref (ad p1)), some (.int y1), some (.int y2), some (.int y3), some (.int y4), none, none] [] σ := by
    intro n
    induction n with
    | zero => intro y1 y2 y3 y4 σ h; exact nn h
    | succ n ih =>
      intro y1 y2 y3 y4 σ h
      have h : b_X3_rounds_7 p1 (f_X3_rounds_7 p1 n) y1 y2 y3 y4 σ = some R := h
      unfold b_X3_rounds_7 at h
      refine a_iload C dX3_rounds_7 rfl ?_
      refine a_iload_n C dX3_rounds_9 (i := 1) rfl rfl ?_
      refine p_ic_ge C (X := y4.toInt) (Y := y1.toInt) rfl rfl dX3_rounds_10 (tgt := 68) rfl h (fun h => ?_) (fun h => ?_)
      ·
        refine a_iload_n C dX3_rounds_68 (i := 3) rfl rfl ?_
        exact a_iret Rt dX3_rounds_69 rfl (ret_eq (h.trans (congrArg some hR.symm)))
      ·
        refine a_iload_n C dX3_rounds_13 (i := 2) rfl rfl ?_
        refine a_iload C dX3_rounds_14 rfl ?_
        refine a_ishr C dX3_rounds_16 ?_
        refine a_iconst C dX3_rounds_17 (v := 1) rfl ?_
        refine a_iand C dX3_rounds_18 ?_
        refine p_if_ne C (X := ((y2 >>> (y4 &&& 31)) &&& (1 : Int32)).toInt) rfl dX3_rounds_19 (tgt := 62) rfl h (fun h => ?_) (fun h => ?_)
        ·
          exact j62 (f_X3_rounds_7 p1 n) (fun y1 y2 y3 y4 σ h => ih y1 y2 y3 y4 σ h) _ _ _ _ _ h
        ·
          refine p_iinc C (y := (y3 + 1)) (fun z1 => [some (.ref (ad p1)), some (.int y1), some (.int y2), some (.int z1), some (.int y4), none, none]) dX3_rounds_22 rfl rfl (by decide) rfl (fun _ => rfl) h (fun z1 h => ?_)
          refine a_iload C dX3_rounds_25 rfl ?_
          refine a_istore C dX3_rounds_27 (by decide) rfl (vs1 := [some (.ref (ad p1)), some (.int y1), some (.int y2), some (.int z1), some (.int y4), some (.int y4), none]) rfl ?_
          refine a_iconst C dX3_rounds_29 (v := 0) rfl ?_
          refine a_istore C dX3_rounds_30 (by decide) rfl (vs1 := [some (.ref (ad p1)), some (.int y1), some (.int y2), some (.int z1), some (.int y4), some (.int y4), some (.int 0)]) rfl ?_
          exact j32 (f_X3_rounds_7 p1 n) (fun y1 y2 y3 y4 σ h => ih y1 y2 y3 y4 σ h) _ _ _ _ _ _ _ _ h
  refine a_iconst C dX3_rounds_0 (v := 0) rfl ?_
  refine a_istore_n C dX3_rounds_1 (i := 2) rfl (by decide) rfl (vs1 := [some (.ref (ad p1)), some (.int x2), some (.int 0), none, none, none, none]) rfl ?_
  refine a_iconst C dX3_rounds_2 (v := 0) rfl ?_
  refine a_istore_n C dX3_rounds_3 (i := 3) rfl (by decide) rfl (vs1 := [some (.ref (ad p1)), some (.int x2), some (.int 0), some (.int 0), none, none, none]) rfl ?_
  refine a_iconst C dX3_rounds_4 (v := 0) rfl ?_
  refine a_istore C dX3_rounds_5 (by decide) rfl (vs1 := [some (.ref (ad p1)), some (.int x2), some (.int 0), some (.int 0), some (.int 0), none, none]) rfl ?_
  exact j7 _ _ _ _ _ _ h
set_option maxHeartbeats 4000000 in
set_option maxRecDepth 100000 in
theorem Z_X11_isHeight {l : Launch} {D : va_G} {ids : List Nat} {ad : Nat → Nat} {ca : Nat → ClassId} {σ : HS} {x1 : Int32} {r0 : Int32} {s0 : HS} (hid : ∀ i, i < 277 → i ∈ ids) (h : f_X11_isHeight x1 σ = some (r0, s0)) : Ki l D ids ad ca yX11_isHeight cX11_isHeight 1 .boolean 0 0 [.int x1] σ (fun r σ1 => r = r0 ∧ σ1 = s0) := by
  obtain ⟨R, hR⟩ : ∃ R, (r0, s0) = R := ⟨_, rfl⟩
  replace h := h.trans (congrArg some hR)
  refine Ki.of (by decide) (Nat.le_of_ble_eq_true rfl) 0 (fun Γ C Rt => ?_)
  show AW ids ad ca Γ 0 [some (.int x1)] [] σ
  unfold f_X11_isHeight at h
  refine a_iload_n C dX11_isHeight_0 (i := 0) rfl rfl ?_
  refine p_if_lt C (X := x1.toInt) rfl dX11_isHeight_1 (tgt := 14) rfl h (fun h => ?_) (fun h => ?_)
  ·
    refine a_iconst C dX11_isHeight_14 (v := 0) rfl ?_
    exact a_iret Rt dX11_isHeight_15 (nar_z (by decide)).1 (ret_eq (h.trans (congrArg some hR.symm)))
  ·
    refine a_iload_n C dX11_isHeight_4 (i := 0) rfl rfl ?_
    refine a_bipush C dX11_isHeight_5 (v := 9) rfl ?_
    refine p_ic_gt C (X := x1.toInt) (Y := 9) rfl (by decide) dX11_isHeight_7 (tgt := 14) rfl h (fun h => ?_) (fun h => ?_)
    ·
      refine a_iconst C dX11_isHeight_14 (v := 0) rfl ?_
      exact a_iret Rt dX11_isHeight_15 (nar_z (by decide)).1 (ret_eq (h.trans (congrArg some hR.symm)))
    ·
      refine a_iconst C dX11_isHeight_10 (v := 1) rfl ?_
      refine a_goto C dX11_isHeight_11 (tgt := 15) rfl ?_
      exact a_iret Rt dX11_isHeight_15 (nar_z (by decide)).1 (ret_eq (h.trans (congrArg some hR.symm)))
set_option maxHeartbeats 4000000 in
set_option maxRecDepth 100000 in
theorem Z_X3_pairsToSwap {l : Launch} {D : va_G} {ids : List Nat} {ad : Nat → Nat} {ca : Nat → ClassId} {σ : HS} {p1 : Nat} {x2 : Int32} {r0 : Int32} {s0 : HS} (hid : ∀ i, i < 277 → i ∈ ids) (hp1 : rowOK p1) (h : f_X3_pairsToSwap p1 x2 σ = some (r0, s0)) : Ki l D ids ad ca yX3_pairsToSwap cX3_pairsToSwap 5 .int 1 20 [.ref (ad p1), .int x2] σ (fun r σ1 => r = r0 ∧ σ1 = s0) := by
  obtain ⟨R, hR⟩ : ∃ R, (r0, s0) = R := ⟨_, rfl⟩
  replace h := h.trans (congrArg some hR)
  refine Ki.of (by decide) (Nat.le_of_ble_eq_true rfl) 3 (fun Γ C Rt => ?_)
  show AW ids ad ca Γ 0 [some (.ref (ad p1)), some (.int x2), none, none, none] [] σ
  unfold f_X3_pairsToSwap at h
  have j50 : ∀ (k4 : Int32 → Int32 → Int32 → HS → Option (Int32 × HS)) (hk4 : ∀ (y1 : Int32) (y2 : Int32) (y3 : Int32) (σ : HS), k4 y1 y2 y3 σ = some R → AW ids ad ca Γ 4 [some (.ref (ad p1)), some (.int y1), some (.int y2), some (.int y3), none] [] σ) (k12 : Int32 → Int32 → Int32 → Int32 → HS → Option (Int32 × HS)) (hk12 : ∀ (y1 : Int32) (y2 : Int32) (y3 : Int32) (y4 : Int32) (σ : HS), k12 y1 y2 y3 y4 σ = some R → AW ids ad ca Γ 12 [some (.ref (ad p1)), some (.int y1), some (.int y2), some (.int y3), some (.int y4)] [] σ) (y1 : Int32) (y2 : Int32) (y3 : Int32) (y4 : Int32) (σ : HS), f_X3_pairsToSwap_50 p1 k4 k12 y1 y2 y3 y4 σ = some R → AW ids ad ca Γ 50 [some (.ref (ad p1)), some (.int y1), some (.int y2), some (.int y3), some (.int y4)] [] σ := by
    intro k4 hk4 k12 hk12 y1 y2 y3 y4 σ h
    unfold f_X3_pairsToSwap_50 at h
    refine p_iinc C (y := (y4 + 1)) (fun z1 => [some (.ref (ad p1)), some (.int y1), some (.int y2), some (.int y3), some (.int z1)]) dX3_pairsToSwap_50 rfl rfl (by decide) rfl (fun _ => rfl) h (fun z1 h => ?_)
    refine a_goto C dX3_pairsToSwap_53 (tgt := 12) rfl ?_
    exact hk12 _ _ _ _ _ h
  have j12 : ∀ (k4 : Int32 → Int32 → Int32 → HS → Option (Int32 × HS)) (hk4 : ∀ (y1 : Int32) (y2 : Int32) (y3 : Int32) (σ : HS), k4 y1 y2 y3 σ = some R → AW ids ad ca Γ 4 [some (.ref (ad p1)), some (.int y1), some (.int y2), some (.int y3), none] [] σ) (n : Nat) (y1 : Int32) (y2 : Int32) (y3 : Int32) (y4 : Int32) (σ : HS), f_X3_pairsToSwap_12 p1 k4 n y1 y2 y3 y4 σ = some R → AW ids ad ca Γ 12 [some (.ref (ad p1)), some (.int y1), some (.int y2), some (.int y3), some (.int y4)] [] σ := by
    intro k4 hk4 n
    induction n with
    | zero => intro y1 y2 y3 y4 σ h; exact nn h
    | succ n ih =>
      intro y1 y2 y3 y4 σ h
      have h : b_X3_pairsToSwap_12 p1 k4 (f_X3_pairsToSwap_12 p1 k4 n) y1 y2 y3 y4 σ = some R := h
      unfold b_X3_pairsToSwap_12 at h
      refine a_iload C dX3_pairsToSwap_12 rfl ?_
      refine a_iload_n C dX3_pairsToSwap_14 (i := 3) rfl rfl ?_
      refine p_ic_ge C (X := y4.toInt) (Y := y3.toInt) rfl rfl dX3_pairsToSwap_15 (tgt := 56) rfl h (fun h => ?_) (fun h => ?_)
      ·
        refine p_iinc C (y := (y3 + 1)) (fun z1 => [some (.ref (ad p1)), some (.int y1), some (.int y2), some (.int z1), some (.int y4)]) dX3_pairsToSwap_56 rfl rfl (by decide) rfl (fun _ => rfl) h (fun z1 h => ?_)
        refine a_goto C dX3_pairsToSwap_59 (tgt := 4) rfl ?_
        refine AW.sub (vs' := [some (.ref (ad p1)), some (.int y1), some (.int y2), some (.int z1), none]) (lsub_of (by simp [lsubB])) ?_
        exact hk4 _ _ _ _ h
      ·
        refine a_aload_n C dX3_pairsToSwap_18 (i := 0) rfl rfl ?_
        refine a_iload_n C dX3_pairsToSwap_19 (i := 3) rfl rfl ?_
        refine p_iald C (i := p1) hp1 hid rfl dX3_pairsToSwap_20 h (fun h => ?_)
        refine a_iload_n C dX3_pairsToSwap_21 (i := 3) rfl rfl ?_
        refine a_iadd C dX3_pairsToSwap_22 ?_
        refine a_iload C dX3_pairsToSwap_23 rfl ?_
        refine a_isub C dX3_pairsToSwap_25 ?_
        refine p_callSNi C (As := [.int (((σ.1 p1 y3.toInt.toNat) + y3) - y4)]) h (fun _ _ e => Z_X11_isHeight hid e) ms_X11_isHeight (host := "StateJuggler") (by decide +kernel) rfl rfl (Nat.le_of_ble_eq_true rfl) (Nat.le_of_ble_eq_true rfl) (Nat.le_of_ble_eq_true rfl) dX3_pairsToSwap_26 (fun r3 σ2 h => ?_)
        refine p_if_eq C (X := r3.toInt) rfl dX3_pairsToSwap_29 (tgt := 50) rfl h (fun h => ?_) (fun h => ?_)
        ·
          exact j50 k4 hk4 (f_X3_pairsToSwap_12 p1 k4 n) (fun y1 y2 y3 y4 σ h => ih y1 y2 y3 y4 σ h) _ _ _ _ _ h
        ·
          refine a_aload_n C dX3_pairsToSwap_32 (i := 0) rfl rfl ?_
          refine a_iload C dX3_pairsToSwap_33 rfl ?_
          refine p_iald C (i := p1) hp1 hid rfl dX3_pairsToSwap_35 h (fun h => ?_)
          refine a_iload_n C dX3_pairsToSwap_36 (i := 3) rfl rfl ?_
          refine a_iload C dX3_pairsToSwap_37 rfl ?_
          refine a_isub C dX3_pairsToSwap_39 ?_
          refine a_isub C dX3_pairsToSwap_40 ?_
          refine p_callSNi C (As := [.int ((σ2.1 p1 y4.toInt.toNat) - (y3 - y4))]) h (fun _ _ e => Z_X11_isHeight hid e) ms_X11_isHeight (host := "StateJuggler") (by decide +kernel) rfl rfl (Nat.le_of_ble_eq_true rfl) (Nat.le_of_ble_eq_true rfl) (Nat.le_of_ble_eq_true rfl) dX3_pairsToSwap_41 (fun r5 σ4 h => ?_)
          refine p_if_eq C (X := r5.toInt) rfl dX3_pairsToSwap_44 (tgt := 50) rfl h (fun h => ?_) (fun h => ?_)
          ·
            exact j50 k4 hk4 (f_X3_pairsToSwap_12 p1 k4 n) (fun y1 y2 y3 y4 σ h => ih y1 y2 y3 y4 σ h) _ _ _ _ _ h
          ·
            refine p_iinc C (y := (y2 + 1)) (fun z6 => [some (.ref (ad p1)), some (.int y1), some (.int z6), some (.int y3), some (.int y4)]) dX3_pairsToSwap_47 rfl rfl (by decide) rfl (fun _ => rfl) h (fun z6 h => ?_)
            exact j50 k4 hk4 (f_X3_pairsToSwap_12 p1 k4 n) (fun y1 y2 y3 y4 σ h => ih y1 y2 y3 y4 σ h) _ _ _ _ _ h
  have j4 : ∀ (n : Nat) (y1 : Int32) (y2 : Int32) (y3 : Int32) (σ : HS), f_X3_pairsToSwap_4 p1 n y1 y2 y3 σ = some R → AW ids ad ca Γ 4 [some (.ref (ad p1)), some (.int y1), some (.int y2), some (.int y3), none] [] σ := by
    intro n
    induction n with
    | zero => intro y1 y2 y3 σ h; exact nn h
    | succ n ih =>
      intro y1 y2 y3 σ h
      have h : b_X3_pairsToSwap_4 p1 (f_X3_pairsToSwap_4 p1 n) y1 y2 y3 σ = some R := h
      unfold b_X3_pairsToSwap_4 at h
      refine a_iload_n C dX3_pairsToSwap_4 (i := 3) rfl rfl ?_
      refine a_iload_n C dX3_pairsToSwap_5 (i := 1) rfl rfl ?_
      refine p_ic_ge C (X := y3.toInt) (Y := y1.toInt) rfl rfl dX3_pairsToSwap_6 (tgt := 62) rfl h (fun h => ?_) (fun h => ?_)
      ·
        refine a_iload_n C dX3_pairsToSwap_62 (i := 2) rfl rfl ?_
        exact a_iret Rt dX3_pairsToSwap_63 rfl (ret_eq (h.trans (congrArg some hR.symm)))
      ·
        refine a_iconst C dX3_pairsToSwap_9 (v := 0) rfl ?_
        refine a_istore C dX3_pairsToSwap_10 (by decide) rfl (vs1 := [some (.ref (ad p1)), some (.int y1), some (.int y2), some (.int y3), some (.int 0)]) rfl ?_
        exact j12 (f_X3_pairsToSwap_4 p1 n) (fun y1 y2 y3 σ h => ih y1 y2 y3 σ h) _ _ _ _ _ _ h
  refine a_iconst C dX3_pairsToSwap_0 (v := 0) rfl ?_
  refine a_istore_n C dX3_pairsToSwap_1 (i := 2) rfl (by decide) rfl (vs1 := [some (.ref (ad p1)), some (.int x2), some (.int 0), none, none]) rfl ?_
  refine a_iconst C dX3_pairsToSwap_2 (v := 1) rfl ?_
  refine a_istore_n C dX3_pairsToSwap_3 (i := 3) rfl (by decide) rfl (vs1 := [some (.ref (ad p1)), some (.int x2), some (.int 0), some (.int 1), none]) rfl ?_
  exact j4 _ _ _ _ _ h
set_option maxHeartbeats 4000000 in
set_option maxRecDepth 100000 in
theorem Z_X3_landingBits {l : Launch} {D : va_G} {ids : List Nat} {ad : Nat → Nat} {ca : Nat → ClassId} {σ : HS} {p1 : Nat} {x2 : Int32} {r0 : Int32} {s0 : HS} (hid : ∀ i, i < 277 → i ∈ ids) (hp1 : rowOK p1) (h : f_X3_landingBits p1 x2 σ = some (r0, s0)) : Ki l D ids ad ca yX3_landingBits cX3_landingBits 5 .int 1 22 [.ref (ad p1), .int x2] σ (fun r σ1 => r = r0 ∧ σ1 = s0) := by
  obtain ⟨R, hR⟩ : ∃ R, (r0, s0) = R := ⟨_, rfl⟩
  replace h := h.trans (congrArg some hR)
  refine Ki.of (by decide) (Nat.le_of_ble_eq_true rfl) 3 (fun Γ C Rt => ?_)
  show AW ids ad ca Γ 0 [some (.ref (ad p1)), some (.int x2), none, none, none] [] σ
  unfold f_X3_landingBits at h
  have j38 : ∀ (k4 : Int32 → Int32 → Int32 → HS → Option (Int32 × HS)) (hk4 : ∀ (y1 : Int32) (y2 : Int32) (y3 : Int32) (σ : HS), k4 y1 y2 y3 σ = some R → AW ids ad ca Γ 4 [some (.ref (ad p1)), some (.int y1), some (.int y2), some (.int y3), none] [] σ) (y1 : Int32) (y2 : Int32) (y3 : Int32) (σ : HS), f_X3_landingBits_38 p1 k4 y1 y2 y3 σ = some R → AW ids ad ca Γ 38 [some (.ref (ad p1)), some (.int y1), some (.int y2), some (.int y3), none] [] σ := by
    intro k4 hk4 y1 y2 y3 σ h
    unfold f_X3_landingBits_38 at h
    refine p_iinc C (y := (y3 + 1)) (fun z1 => [some (.ref (ad p1)), some (.int y1), some (.int y2), some (.int z1), none]) dX3_landingBits_38 rfl rfl (by decide) rfl (fun _ => rfl) h (fun z1 h => ?_)
    refine a_goto C dX3_landingBits_41 (tgt := 4) rfl ?_
    exact hk4 _ _ _ _ h
  have j4 : ∀ (n : Nat) (y1 : Int32) (y2 : Int32) (y3 : Int32) (σ : HS), f_X3_landingBits_4 p1 n y1 y2 y3 σ = some R → AW ids ad ca Γ 4 [some (.ref (ad p1)), some (.int y1), some (.int y2), some (.int y3), none] [] σ := by
    intro n
    induction n with
    | zero => intro y1 y2 y3 σ h; exact nn h
    | succ n ih =>
      intro y1 y2 y3 σ h
      have h : b_X3_landingBits_4 p1 (f_X3_landingBits_4 p1 n) y1 y2 y3 σ = some R := h
      unfold b_X3_landingBits_4 at h
      refine a_iload_n C dX3_landingBits_4 (i := 3) rfl rfl ?_
      refine a_bipush C dX3_landingBits_5 (v := 9) rfl ?_
      refine p_ic_gt C (X := y3.toInt) (Y := 9) rfl (by decide) dX3_landingBits_7 (tgt := 44) rfl h (fun h => ?_) (fun h => ?_)
      ·
        refine a_iload_n C dX3_landingBits_44 (i := 2) rfl rfl ?_
        exact a_iret Rt dX3_landingBits_45 rfl (ret_eq (h.trans (congrArg some hR.symm)))
      ·
        refine a_iload_n C dX3_landingBits_10 (i := 1) rfl rfl ?_
        refine p_if_le C (X := y1.toInt) rfl dX3_landingBits_11 (tgt := 44) rfl h (fun h => ?_) (fun h => ?_)
        ·
          refine a_iload_n C dX3_landingBits_44 (i := 2) rfl rfl ?_
          exact a_iret Rt dX3_landingBits_45 rfl (ret_eq (h.trans (congrArg some hR.symm)))
        ·
          refine a_aload_n C dX3_landingBits_14 (i := 0) rfl rfl ?_
          refine a_iload_n C dX3_landingBits_15 (i := 3) rfl rfl ?_
          refine a_ineg C dX3_landingBits_16 ?_
          refine a_iload_n C dX3_landingBits_17 (i := 1) rfl rfl ?_
          refine p_callSi C (As := [.int (-y3), .int y1]) h (fun _ _ e => Z_J9_floorMod_7cf53 hid e) ms_J9_floorMod_7cf53 ml_RX3_19 rfl rfl (Nat.le_of_ble_eq_true rfl) (Nat.le_of_ble_eq_true rfl) (Nat.le_of_ble_eq_true rfl) dX3_landingBits_18 (fun r2 σ1 h => ?_)
          refine p_iald C (i := p1) hp1 hid rfl dX3_landingBits_21 h (fun h => ?_)
          refine a_iload_n C dX3_landingBits_22 (i := 3) rfl rfl ?_
          refine a_isub C dX3_landingBits_23 ?_
          refine p_istore C (fun z3 => [some (.ref (ad p1)), some (.int y1), some (.int y2), some (.int y3), some (.int z3)]) dX3_landingBits_24 (by decide) rfl (fun _ => rfl) h (fun z3 h => ?_)
          refine a_iload C dX3_landingBits_26 rfl ?_
          refine p_if_lt C (X := z3.toInt) rfl dX3_landingBits_28 (tgt := 38) rfl h (fun h => ?_) (fun h => ?_)
          ·
            refine AW.sub (vs' := [some (.ref (ad p1)), some (.int y1), some (.int y2), some (.int y3), none]) (lsub_of (by simp [lsubB])) ?_
            exact j38 (f_X3_landingBits_4 p1 n) (fun y1 y2 y3 σ h => ih y1 y2 y3 σ h) _ _ _ _ h
          ·
            refine a_iload_n C dX3_landingBits_31 (i := 2) rfl rfl ?_
            refine a_iconst C dX3_landingBits_32 (v := 1) rfl ?_
            refine a_iload C dX3_landingBits_33 rfl ?_
            refine a_ishl C dX3_landingBits_35 ?_
            refine a_ior C dX3_landingBits_36 ?_
            refine p_istore_n C (fun z4 => [some (.ref (ad p1)), some (.int y1), some (.int z4), some (.int y3), some (.int z3)]) dX3_landingBits_37 (i := 2) rfl (by decide) rfl (fun _ => rfl) h (fun z4 h => ?_)
            refine AW.sub (vs' := [some (.ref (ad p1)), some (.int y1), some (.int z4), some (.int y3), none]) (lsub_of (by simp [lsubB])) ?_
            exact j38 (f_X3_landingBits_4 p1 n) (fun y1 y2 y3 σ h => ih y1 y2 y3 σ h) _ _ _ _ h
  refine a_iconst C dX3_landingBits_0 (v := 0) rfl ?_
  refine a_istore_n C dX3_landingBits_1 (i := 2) rfl (by decide) rfl (vs1 := [some (.ref (ad p1)), some (.int x2), some (.int 0), none, none]) rfl ?_
  refine a_iconst C dX3_landingBits_2 (v := 1) rfl ?_
  refine a_istore_n C dX3_landingBits_3 (i := 3) rfl (by decide) rfl (vs1 := [some (.ref (ad p1)), some (.int x2), some (.int 0), some (.int 1), none]) rfl ?_
  exact j4 _ _ _ _ _ h
set_option maxHeartbeats 4000000 in
set_option maxRecDepth 100000 in
theorem Z_X4_lookAt {l : Launch} {D : va_G} {ids : List Nat} {ad : Nat → Nat} {ca : Nat → ClassId} {σ : HS} {p1 : Nat} {p2 : Nat} {x3 : Int32} {x4 : Int32} {s0 : HS} (hid : ∀ i, i < 277 → i ∈ ids) (hp1 : txtOK p1) (hp2 : airOK p2) (h : f_X4_lookAt p1 p2 x3 x4 σ = some s0) : Kv l D ids ad ca yX4_lookAt cX4_lookAt 5 0 0 [.ref (ad 8), .ref (ad p1), .ref (ad p2), .int x3, .int x4] σ (fun σ1 => σ1 = s0) := by
  obtain ⟨R, hR⟩ : ∃ R, s0 = R := ⟨_, rfl⟩
  replace h := h.trans (congrArg some hR)
  refine Kv.of (by decide) (Nat.le_of_ble_eq_true rfl) 0 (fun Γ C Rt => ?_)
  show AW ids ad ca Γ 0 [some (.ref (ad 8)), some (.ref (ad p1)), some (.ref (ad p2)), some (.int x3), some (.int x4)] [] σ
  unfold f_X4_lookAt at h
  refine a_aload_n C dX4_lookAt_0 (i := 0) rfl rfl ?_
  refine a_get C fl_RX4_12 (i := 8) kd_8 (hid 8 (by decide)) (v := .ref (ad 9)) rfl dX4_lookAt_1 ?_
  refine a_get C fl_RX4_107 (i := 9) kd_9 (hid 9 (by decide)) (v := .ref (ad 10)) rfl dX4_lookAt_4 ?_
  refine a_iconst C dX4_lookAt_7 (v := 0) rfl ?_
  refine a_aload_n C dX4_lookAt_8 (i := 1) rfl rfl ?_
  refine a_get C fl_RX4_110 (i := p1) hp1.1.1 (hid _ hp1.1.2) (v := .ref (ad (p1 + 1))) rfl dX4_lookAt_9 ?_
  refine a_iload_n C dX4_lookAt_12 (i := 3) rfl rfl ?_
  refine p_iald C (i := (p1 + 1)) hp1.2.1.1 hid (by rw [hp1.2.1.2]; rfl) dX4_lookAt_13 h (fun h => ?_)
  refine p_iastc C (i := 10) 0 (show rowOK 10 from ⟨kd_10, by decide⟩) hid (by decide) (by rw [al_10]; decide) dX4_lookAt_14 h (fun σ1 h => ?_)
  refine a_aload_n C dX4_lookAt_15 (i := 0) rfl rfl ?_
  refine a_get C fl_RX4_12 (i := 8) kd_8 (hid 8 (by decide)) (v := .ref (ad 9)) rfl dX4_lookAt_16 ?_
  refine a_get C fl_RX4_107 (i := 9) kd_9 (hid 9 (by decide)) (v := .ref (ad 10)) rfl dX4_lookAt_19 ?_
  refine a_iconst C dX4_lookAt_22 (v := 1) rfl ?_
  refine a_aload_n C dX4_lookAt_23 (i := 1) rfl rfl ?_
  refine a_get C fl_RX4_113 (i := p1) hp1.1.1 (hid _ hp1.1.2) (v := .ref (ad (p1 + 2))) rfl dX4_lookAt_24 ?_
  refine a_iload_n C dX4_lookAt_27 (i := 3) rfl rfl ?_
  refine p_iald C (i := (p1 + 2)) hp1.2.2.1.1 hid (by rw [hp1.2.2.1.2]; rfl) dX4_lookAt_28 h (fun h => ?_)
  refine p_iastc C (i := 10) 1 (show rowOK 10 from ⟨kd_10, by decide⟩) hid (by decide) (by rw [al_10]; decide) dX4_lookAt_29 h (fun σ2 h => ?_)
  refine a_aload_n C dX4_lookAt_30 (i := 0) rfl rfl ?_
  refine a_get C fl_RX4_12 (i := 8) kd_8 (hid 8 (by decide)) (v := .ref (ad 9)) rfl dX4_lookAt_31 ?_
  refine a_get C fl_RX4_107 (i := 9) kd_9 (hid 9 (by decide)) (v := .ref (ad 10)) rfl dX4_lookAt_34 ?_
  refine a_iconst C dX4_lookAt_37 (v := 3) rfl ?_
  refine a_aload_n C dX4_lookAt_38 (i := 2) rfl rfl ?_
  refine a_get C fl_RX4_78 (i := p2) hp2.1.1 (hid _ hp2.1.2) (v := .int (σ2.1 p2 4)) rfl dX4_lookAt_39 ?_
  refine p_iastc C (i := 10) 3 (show rowOK 10 from ⟨kd_10, by decide⟩) hid (by decide) (by rw [al_10]; decide) dX4_lookAt_42 h (fun σ3 h => ?_)
  refine a_aload_n C dX4_lookAt_43 (i := 0) rfl rfl ?_
  refine a_get C fl_RX4_12 (i := 8) kd_8 (hid 8 (by decide)) (v := .ref (ad 9)) rfl dX4_lookAt_44 ?_
  refine a_get C fl_RX4_107 (i := 9) kd_9 (hid 9 (by decide)) (v := .ref (ad 10)) rfl dX4_lookAt_47 ?_
  refine a_iconst C dX4_lookAt_50 (v := 4) rfl ?_
  refine a_aload_n C dX4_lookAt_51 (i := 2) rfl rfl ?_
  refine a_get C fl_RX4_42 (i := p2) hp2.1.1 (hid _ hp2.1.2) (v := .int (σ3.1 p2 5)) rfl dX4_lookAt_52 ?_
  refine p_iastc C (i := 10) 4 (show rowOK 10 from ⟨kd_10, by decide⟩) hid (by decide) (by rw [al_10]; decide) dX4_lookAt_55 h (fun σ4 h => ?_)
  refine a_aload_n C dX4_lookAt_56 (i := 0) rfl rfl ?_
  refine a_get C fl_RX4_12 (i := 8) kd_8 (hid 8 (by decide)) (v := .ref (ad 9)) rfl dX4_lookAt_57 ?_
  refine a_get C fl_RX4_107 (i := 9) kd_9 (hid 9 (by decide)) (v := .ref (ad 10)) rfl dX4_lookAt_60 ?_
  refine a_iconst C dX4_lookAt_63 (v := 5) rfl ?_
  refine a_iload C dX4_lookAt_64 rfl ?_
  refine p_iastc C (i := 10) 5 (show rowOK 10 from ⟨kd_10, by decide⟩) hid (by decide) (by rw [al_10]; decide) dX4_lookAt_66 h (fun σ5 h => ?_)
  refine a_aload_n C dX4_lookAt_67 (i := 0) rfl rfl ?_
  refine a_get C fl_RX4_12 (i := 8) kd_8 (hid 8 (by decide)) (v := .ref (ad 9)) rfl dX4_lookAt_68 ?_
  refine a_get C fl_RX4_107 (i := 9) kd_9 (hid 9 (by decide)) (v := .ref (ad 10)) rfl dX4_lookAt_71 ?_
  refine a_bipush C dX4_lookAt_74 (v := 6) rfl ?_
  refine a_iload_n C dX4_lookAt_76 (i := 3) rfl rfl ?_
  refine p_iastc C (i := 10) 6 (show rowOK 10 from ⟨kd_10, by decide⟩) hid (by decide) (by rw [al_10]; decide) dX4_lookAt_77 h (fun σ6 h => ?_)
  refine a_aload_n C dX4_lookAt_78 (i := 0) rfl rfl ?_
  refine a_get C fl_RX4_12 (i := 8) kd_8 (hid 8 (by decide)) (v := .ref (ad 9)) rfl dX4_lookAt_79 ?_
  refine a_get C fl_RX4_107 (i := 9) kd_9 (hid 9 (by decide)) (v := .ref (ad 10)) rfl dX4_lookAt_82 ?_
  refine a_bipush C dX4_lookAt_85 (v := 7) rfl ?_
  refine a_aload_n C dX4_lookAt_87 (i := 2) rfl rfl ?_
  refine a_get C fl_RX4_98 (i := p2) hp2.1.1 (hid _ hp2.1.2) (v := .int (σ6.1 p2 7)) rfl dX4_lookAt_88 ?_
  refine p_iastc C (i := 10) 7 (show rowOK 10 from ⟨kd_10, by decide⟩) hid (by decide) (by rw [al_10]; decide) dX4_lookAt_91 h (fun σ7 h => ?_)
  refine a_aload_n C dX4_lookAt_92 (i := 0) rfl rfl ?_
  refine a_get C fl_RX4_12 (i := 8) kd_8 (hid 8 (by decide)) (v := .ref (ad 9)) rfl dX4_lookAt_93 ?_
  refine a_get C fl_RX4_107 (i := 9) kd_9 (hid 9 (by decide)) (v := .ref (ad 10)) rfl dX4_lookAt_96 ?_
  refine a_bipush C dX4_lookAt_99 (v := 8) rfl ?_
  refine a_aload_n C dX4_lookAt_101 (i := 2) rfl rfl ?_
  refine a_get C fl_RX4_78 (i := p2) hp2.1.1 (hid _ hp2.1.2) (v := .int (σ7.1 p2 4)) rfl dX4_lookAt_102 ?_
  refine a_iconst C dX4_lookAt_105 (v := 1) rfl ?_
  refine a_iand C dX4_lookAt_106 ?_
  refine p_iastc C (i := 10) 8 (show rowOK 10 from ⟨kd_10, by decide⟩) hid (by decide) (by rw [al_10]; decide) dX4_lookAt_107 h (fun σ8 h => ?_)
  exact a_vret Rt dX4_lookAt_108 (retv_eq (h.trans (congrArg some hR.symm)))
set_option maxHeartbeats 4000000 in
set_option maxRecDepth 100000 in
theorem Z_X4_asks {l : Launch} {D : va_G} {ids : List Nat} {ad : Nat → Nat} {ca : Nat → ClassId} {σ : HS} {p1 : Nat} {x2 : Int32} {x3 : Int32} {r0 : Int32} {s0 : HS} (hid : ∀ i, i < 277 → i ∈ ids) (hp1 : txtOK p1) (h : f_X4_asks p1 x2 x3 σ = some (r0, s0)) : Ki l D ids ad ca yX4_asks cX4_asks 5 .int 2 50 [.ref (ad 8), .ref (ad p1), .int x2, .int x3] σ (fun r σ1 => r = r0 ∧ σ1 = s0) := by
  obtain ⟨R, hR⟩ : ∃ R, (r0, s0) = R := ⟨_, rfl⟩
  replace h := h.trans (congrArg some hR)
  refine Ki.of (by decide) (Nat.le_of_ble_eq_true rfl) 1 (fun Γ C Rt => ?_)
  show AW ids ad ca Γ 0 [some (.ref (ad 8)), some (.ref (ad p1)), some (.int x2), some (.int x3), none] [] σ
  unfold f_X4_asks at h
  refine a_aload_n C dX4_asks_0 (i := 0) rfl rfl ?_
  refine a_get C fl_RX4_12 (i := 8) kd_8 (hid 8 (by decide)) (v := .ref (ad 9)) rfl dX4_asks_1 ?_
  refine a_get C fl_RX4_107 (i := 9) kd_9 (hid 9 (by decide)) (v := .ref (ad 10)) rfl dX4_asks_4 ?_
  refine a_iconst C dX4_asks_7 (v := 2) rfl ?_
  refine a_iload_n C dX4_asks_8 (i := 3) rfl rfl ?_
  refine p_iastc C (i := 10) 2 (show rowOK 10 from ⟨kd_10, by decide⟩) hid (by decide) (by rw [al_10]; decide) dX4_asks_9 h (fun σ1 h => ?_)
  refine a_aload_n C dX4_asks_10 (i := 0) rfl rfl ?_
  refine a_get C fl_RX4_12 (i := 8) kd_8 (hid 8 (by decide)) (v := .ref (ad 9)) rfl dX4_asks_11 ?_
  refine a_aload_n C dX4_asks_14 (i := 1) rfl rfl ?_
  refine a_get C fl_RX4_116 (i := p1) hp1.1.1 (hid _ hp1.1.2) (v := .ref (ad (p1 + 11))) rfl dX4_asks_15 ?_
  refine a_aload_n C dX4_asks_18 (i := 1) rfl rfl ?_
  refine a_get C fl_RX4_119 (i := p1) hp1.1.1 (hid _ hp1.1.2) (v := .ref (ad (p1 + 12))) rfl dX4_asks_19 ?_
  refine a_iload_n C dX4_asks_22 (i := 2) rfl rfl ?_
  refine p_iald C (i := (p1 + 12)) hp1.2.2.2.2.2.2.1.1 hid (by rw [hp1.2.2.2.2.2.2.1.2]; rfl) dX4_asks_23 h (fun h => ?_)
  refine p_callVi C (As := [.ref (ad (p1 + 11)), .int (σ1.1 (p1 + 12) x2.toInt.toNat)]) (i := 9) kd_9 (hid 9 (by decide)) ⟨_, _, rfl⟩ (by decide) h (fun _ _ e => Z_X1_answer hid hp1.2.2.2.2.2.1.1 e) mi_X1_answer ml_RX4_122 rfl rfl (Nat.le_of_ble_eq_true rfl) (Nat.le_of_ble_eq_true rfl) (Nat.le_of_ble_eq_true rfl) dX4_asks_24 (fun r3 σ2 h => ?_)
  refine a_istore C dX4_asks_27 (by decide) rfl (vs1 := [some (.ref (ad 8)), some (.ref (ad p1)), some (.int x2), some (.int x3), some (.int r3)]) rfl ?_
  refine a_iload_n C dX4_asks_29 (i := 2) rfl rfl ?_
  refine ite_k h (fun c1 h => ?_) (fun c1 h => ?_)
  ·
    refine a_lookup C dX4_asks_30 (by decide) (by rw [c1] <;> rfl) (tgt := 56) rfl ?_
    refine a_iconst C dX4_asks_56 (v := 0) rfl ?_
    refine a_bipush C dX4_asks_57 (v := 100) rfl ?_
    refine a_iload C dX4_asks_59 rfl ?_
    refine a_mmin C dX4_asks_61 mm_RX4_95 mm_min.1 mm_min.2.1 mm_min.2.2 (Nat.le_of_ble_eq_true rfl) (Nat.le_of_ble_eq_true rfl) ?_
    refine a_mmax C dX4_asks_64 mm_RX4_51 mm_max.1 mm_max.2.1 mm_max.2.2 (Nat.le_of_ble_eq_true rfl) (Nat.le_of_ble_eq_true rfl) ?_
    exact a_iret Rt dX4_asks_67 rfl (ret_eq (h.trans (congrArg some hR.symm)))
  ·
    refine ite_k h (fun c2 h => ?_) (fun c2 h => ?_)
    ·
      refine a_lookup C dX4_asks_30 (by decide) (by rw [c2] <;> rfl) (tgt := 68) rfl ?_
      refine a_bipush C dX4_asks_68 (v := (-99)) rfl ?_
      refine a_bipush C dX4_asks_70 (v := 99) rfl ?_
      refine a_iload C dX4_asks_72 rfl ?_
      refine a_mmin C dX4_asks_74 mm_RX4_95 mm_min.1 mm_min.2.1 mm_min.2.2 (Nat.le_of_ble_eq_true rfl) (Nat.le_of_ble_eq_true rfl) ?_
      refine a_mmax C dX4_asks_77 mm_RX4_51 mm_max.1 mm_max.2.1 mm_max.2.2 (Nat.le_of_ble_eq_true rfl) (Nat.le_of_ble_eq_true rfl) ?_
      exact a_iret Rt dX4_asks_80 rfl (ret_eq (h.trans (congrArg some hR.symm)))
    ·
      refine a_lookup C dX4_asks_30 (by decide) (off := 51) (by simp [Op.lookupswitch.offset]; rw [if_neg (by omega), if_neg (by omega)]) (tgt := 81) rfl ?_
      refine a_iconst C dX4_asks_81 (v := 0) rfl ?_
      refine a_bipush C dX4_asks_82 (v := 99) rfl ?_
      refine a_iload C dX4_asks_84 rfl ?_
      refine a_mmin C dX4_asks_86 mm_RX4_95 mm_min.1 mm_min.2.1 mm_min.2.2 (Nat.le_of_ble_eq_true rfl) (Nat.le_of_ble_eq_true rfl) ?_
      refine a_mmax C dX4_asks_89 mm_RX4_51 mm_max.1 mm_max.2.1 mm_max.2.2 (Nat.le_of_ble_eq_true rfl) (Nat.le_of_ble_eq_true rfl) ?_
      exact a_iret Rt dX4_asks_92 rfl (ret_eq (h.trans (congrArg some hR.symm)))
set_option maxHeartbeats 4000000 in
set_option maxRecDepth 100000 in
theorem Z_X4_stir {l : Launch} {D : va_G} {ids : List Nat} {ad : Nat → Nat} {ca : Nat → ClassId} {σ : HS} {x1 : Int32} {x2 : Int32} {r0 : Int32} {s0 : HS} (hid : ∀ i, i < 277 → i ∈ ids) (h : f_X4_stir x1 x2 σ = some (r0, s0)) : Ki l D ids ad ca yX4_stir cX4_stir 3 .int 0 0 [.int x1, .int x2] σ (fun r σ1 => r = r0 ∧ σ1 = s0) := by
  obtain ⟨R, hR⟩ : ∃ R, (r0, s0) = R := ⟨_, rfl⟩
  replace h := h.trans (congrArg some hR)
  refine Ki.of (by decide) (Nat.le_of_ble_eq_true rfl) 1 (fun Γ C Rt => ?_)
  show AW ids ad ca Γ 0 [some (.int x1), some (.int x2), none] [] σ
  unfold f_X4_stir at h
  refine a_iload_n C dX4_stir_0 (i := 0) rfl rfl ?_
  refine a_iload_n C dX4_stir_1 (i := 1) rfl rfl ?_
  refine a_ixor C dX4_stir_2 ?_
  refine a_ldc C dX4_stir_3 ko_RX4_129 ?_
  refine a_imul C dX4_stir_5 ?_
  refine a_sipush C dX4_stir_6 (v := 12345) rfl ?_
  refine a_iadd C dX4_stir_9 ?_
  refine p_istore_n C (fun z1 => [some (.int x1), some (.int x2), some (.int z1)]) dX4_stir_10 (i := 2) rfl (by decide) rfl (fun _ => rfl) h (fun z1 h => ?_)
  refine a_iload_n C dX4_stir_11 (i := 2) rfl rfl ?_
  refine a_iload_n C dX4_stir_12 (i := 2) rfl rfl ?_
  refine a_bipush C dX4_stir_13 (v := 15) rfl ?_
  refine a_iushr C dX4_stir_15 ?_
  refine a_ixor C dX4_stir_16 ?_
  exact a_iret Rt dX4_stir_17 rfl (ret_eq (h.trans (congrArg some hR.symm)))
set_option maxHeartbeats 4000000 in
set_option maxRecDepth 100000 in
theorem Z_X4_lot {l : Launch} {D : va_G} {ids : List Nat} {ad : Nat → Nat} {ca : Nat → ClassId} {σ : HS} {x1 : Int32} {x2 : Int32} {x3 : Int32} {r0 : Int32} {s0 : HS} (hid : ∀ i, i < 277 → i ∈ ids) (h : f_X4_lot x1 x2 x3 σ = some (r0, s0)) : Ki l D ids ad ca yX4_lot cX4_lot 4 .int 1 22 [.int x1, .int x2, .int x3] σ (fun r σ1 => r = r0 ∧ σ1 = s0) := by
  obtain ⟨R, hR⟩ : ∃ R, (r0, s0) = R := ⟨_, rfl⟩
  replace h := h.trans (congrArg some hR)
  refine Ki.of (by decide) (Nat.le_of_ble_eq_true rfl) 1 (fun Γ C Rt => ?_)
  show AW ids ad ca Γ 0 [some (.int x1), some (.int x2), some (.int x3), none] [] σ
  unfold f_X4_lot at h
  refine a_iload_n C dX4_lot_0 (i := 1) rfl rfl ?_
  refine a_bipush C dX4_lot_1 (v := 125) rfl ?_
  refine p_callSi C (As := [.int x2, .int 125]) h (fun _ _ e => Z_X4_stir hid e) ms_X4_stir ml_RX4_126 rfl rfl (Nat.le_of_ble_eq_true rfl) (Nat.le_of_ble_eq_true rfl) (Nat.le_of_ble_eq_true rfl) dX4_lot_3 (fun r2 σ1 h => ?_)
  refine a_iload_n C dX4_lot_6 (i := 2) rfl rfl ?_
  refine p_callSi C (As := [.int r2, .int x3]) h (fun _ _ e => Z_X4_stir hid e) ms_X4_stir ml_RX4_126 rfl rfl (Nat.le_of_ble_eq_true rfl) (Nat.le_of_ble_eq_true rfl) (Nat.le_of_ble_eq_true rfl) dX4_lot_7 (fun r4 σ3 h => ?_)
  refine a_istore_n C dX4_lot_10 (i := 3) rfl (by decide) rfl (vs1 := [some (.int x1), some (.int x2), some (.int x3), some (.int r4)]) rfl ?_
  refine a_iload_n C dX4_lot_11 (i := 0) rfl rfl ?_
  refine a_iconst C dX4_lot_12 (v := 1) rfl ?_
  refine p_ic_ge C (X := x1.toInt) (Y := 1) rfl (by decide) dX4_lot_13 (tgt := 20) rfl h (fun h => ?_) (fun h => ?_)
  ·
    refine a_iload_n C dX4_lot_20 (i := 3) rfl rfl ?_
    refine a_iconst C dX4_lot_21 (v := 1) rfl ?_
    refine a_iushr C dX4_lot_22 ?_
    refine a_iload_n C dX4_lot_23 (i := 0) rfl rfl ?_
    refine p_irem C rfl dX4_lot_24 h (fun h => ?_)
    exact a_iret Rt dX4_lot_25 rfl (ret_eq (h.trans (congrArg some hR.symm)))
  ·
    refine a_iconst C dX4_lot_16 (v := 0) rfl ?_
    refine a_goto C dX4_lot_17 (tgt := 25) rfl ?_
    exact a_iret Rt dX4_lot_25 rfl (ret_eq (h.trans (congrArg some hR.symm)))
set_option maxHeartbeats 4000000 in
set_option maxRecDepth 100000 in
theorem Z_X4_catchOne {l : Launch} {D : va_G} {ids : List Nat} {ad : Nat → Nat} {ca : Nat → ClassId} {σ : HS} {p1 : Nat} {p2 : Nat} {x3 : Int32} {x4 : Int32} {s0 : HS} (hid : ∀ i, i < 277 → i ∈ ids) (hp1 : txtOK p1) (hp2 : airOK p2) (h : f_X4_catchOne p1 p2 x3 x4 σ = some s0) : Kv l D ids ad ca yX4_catchOne cX4_catchOne 6 3 74 [.ref (ad 8), .ref (ad p1), .ref (ad p2), .int x3, .int x4] σ (fun σ1 => σ1 = s0) := by
  obtain ⟨R, hR⟩ : ∃ R, s0 = R := ⟨_, rfl⟩
  replace h := h.trans (congrArg some hR)
  refine Kv.of (by decide) (Nat.le_of_ble_eq_true rfl) 1 (fun Γ C Rt => ?_)
  show AW ids ad ca Γ 0 [some (.ref (ad 8)), some (.ref (ad p1)), some (.ref (ad p2)), some (.int x3), some (.int x4), none] [] σ
  unfold f_X4_catchOne at h
  have j43 : ∀ (y3 : Int32) (y5 : Int32) (σ : HS), f_X4_catchOne_43 p1 p2 y3 y5 σ = some R → AW ids ad ca Γ 43 [some (.ref (ad 8)), some (.ref (ad p1)), some (.ref (ad p2)), some (.int y3), none, some (.int y5)] [] σ := by
    intro y3 y5 σ h
    unfold f_X4_catchOne_43 at h
    refine a_aload_n C dX4_catchOne_43 (i := 2) rfl rfl ?_
    refine a_dup C dX4_catchOne_44 rfl ?_
    refine a_get C fl_RX4_92 (i := p2) hp2.1.1 (hid _ hp2.1.2) (v := .int (σ.1 p2 8)) rfl dX4_catchOne_45 ?_
    refine a_aload_n C dX4_catchOne_48 (i := 0) rfl rfl ?_
    refine a_aload_n C dX4_catchOne_49 (i := 1) rfl rfl ?_
    refine a_iconst C dX4_catchOne_50 (v := 3) rfl ?_
    refine a_iconst C dX4_catchOne_51 (v := 0) rfl ?_
    refine p_callVi C (As := [.ref (ad p1), .int 3, .int 0]) (i := 8) kd_8 (hid 8 (by decide)) ⟨_, _, rfl⟩ (by decide) h (fun _ _ e => Z_X4_asks hid hp1 e) mi_X4_asks ml_RX4_38 rfl rfl (Nat.le_of_ble_eq_true rfl) (Nat.le_of_ble_eq_true rfl) (Nat.le_of_ble_eq_true rfl) dX4_catchOne_52 (fun r2 σ1 h => ?_)
    refine a_iadd C dX4_catchOne_55 ?_
    refine p_put C fp_RX4_92 (i := p2) hp2.1.1 (hid _ hp2.1.2) rfl rfl dX4_catchOne_56 h (fun σ3 h => ?_)
    refine a_aload_n C dX4_catchOne_59 (i := 2) rfl rfl ?_
    refine a_sipush C dX4_catchOne_60 (v := 999) rfl ?_
    refine a_aload_n C dX4_catchOne_63 (i := 2) rfl rfl ?_
    refine a_get C fl_RX4_42 (i := p2) hp2.1.1 (hid _ hp2.1.2) (v := .int (σ3.1 p2 5)) rfl dX4_catchOne_64 ?_
    refine a_aload_n C dX4_catchOne_67 (i := 0) rfl rfl ?_
    refine a_aload_n C dX4_catchOne_68 (i := 1) rfl rfl ?_
    refine a_iconst C dX4_catchOne_69 (v := 0) rfl ?_
    refine a_iload C dX4_catchOne_70 rfl ?_
    refine p_callVi C (As := [.ref (ad p1), .int 0, .int y5]) (i := 8) kd_8 (hid 8 (by decide)) ⟨_, _, rfl⟩ (by decide) h (fun _ _ e => Z_X4_asks hid hp1 e) mi_X4_asks ml_RX4_38 rfl rfl (Nat.le_of_ble_eq_true rfl) (Nat.le_of_ble_eq_true rfl) (Nat.le_of_ble_eq_true rfl) dX4_catchOne_72 (fun r5 σ4 h => ?_)
    refine a_iadd C dX4_catchOne_75 ?_
    refine a_mmin C dX4_catchOne_76 mm_RX4_95 mm_min.1 mm_min.2.1 mm_min.2.2 (Nat.le_of_ble_eq_true rfl) (Nat.le_of_ble_eq_true rfl) ?_
    refine p_put C fp_RX4_42 (i := p2) hp2.1.1 (hid _ hp2.1.2) rfl rfl dX4_catchOne_79 h (fun σ6 h => ?_)
    refine a_aload_n C dX4_catchOne_82 (i := 2) rfl rfl ?_
    refine a_dup C dX4_catchOne_83 rfl ?_
    refine a_get C fl_RX4_98 (i := p2) hp2.1.1 (hid _ hp2.1.2) (v := .int (σ6.1 p2 7)) rfl dX4_catchOne_84 ?_
    refine a_iconst C dX4_catchOne_87 (v := 1) rfl ?_
    refine a_iadd C dX4_catchOne_88 ?_
    refine p_put C fp_RX4_98 (i := p2) hp2.1.1 (hid _ hp2.1.2) rfl rfl dX4_catchOne_89 h (fun σ7 h => ?_)
    refine a_aload_n C dX4_catchOne_92 (i := 2) rfl rfl ?_
    refine a_get C fl_RX4_101 (i := p2) hp2.1.1 (hid _ hp2.1.2) (v := .ref (ad (p2 + 3))) rfl dX4_catchOne_93 ?_
    refine a_iload_n C dX4_catchOne_96 (i := 3) rfl rfl ?_
    refine a_dup2 C dX4_catchOne_97 rfl rfl ?_
    refine p_iald C (i := (p2 + 3)) hp2.2.2.2.1 hid (by rw [hp2.2.2.2.2]; rfl) dX4_catchOne_98 h (fun h => ?_)
    refine a_iconst C dX4_catchOne_99 (v := 1) rfl ?_
    refine a_iadd C dX4_catchOne_100 ?_
    refine p_iast C (i := (p2 + 3)) hp2.2.2.2.1 hid (by rw [hp2.2.2.2.2]; rfl) dX4_catchOne_101 h (fun σ8 h => ?_)
    refine a_aload_n C dX4_catchOne_102 (i := 2) rfl rfl ?_
    refine a_get C fl_RX4_74 (i := p2) hp2.1.1 (hid _ hp2.1.2) (v := .ref (ad (p2 + 2))) rfl dX4_catchOne_103 ?_
    refine a_iload_n C dX4_catchOne_106 (i := 3) rfl rfl ?_
    refine a_iload C dX4_catchOne_107 rfl ?_
    refine p_iast C (i := (p2 + 2)) hp2.2.2.1.1 hid (by rw [hp2.2.2.1.2]; rfl) dX4_catchOne_109 h (fun σ9 h => ?_)
    refine a_iload C dX4_catchOne_110 rfl ?_
    refine p_if_ne C (X := y5.toInt) rfl dX4_catchOne_112 (tgt := 122) rfl h (fun h => ?_) (fun h => ?_)
    ·
      exact a_vret Rt dX4_catchOne_122 (retv_eq (h.trans (congrArg some hR.symm)))
    ·
      refine a_aload_n C dX4_catchOne_115 (i := 2) rfl rfl ?_
      refine a_get C fl_RX4_104 (i := p2) hp2.1.1 (hid _ hp2.1.2) (v := .ref (ad (p2 + 1))) rfl dX4_catchOne_116 ?_
      refine a_iload_n C dX4_catchOne_119 (i := 3) rfl rfl ?_
      refine a_iconst C dX4_catchOne_120 (v := 1) rfl ?_
      refine p_iast C (i := (p2 + 1)) hp2.2.1.1 hid (by rw [hp2.2.1.2]; rfl) dX4_catchOne_121 h (fun σ10 h => ?_)
      exact a_vret Rt dX4_catchOne_122 (retv_eq (h.trans (congrArg some hR.symm)))
  refine a_aload_n C dX4_catchOne_0 (i := 2) rfl rfl ?_
  refine a_aload_n C dX4_catchOne_1 (i := 1) rfl rfl ?_
  refine p_callVi C (As := [.ref (ad p1)]) (i := p2) hp2.1.1 (hid _ hp2.1.2) ⟨_, _, rfl⟩ (by decide) h (fun _ _ e => Z_X0_heightBy hid hp2 hp1 e) mi_X0_heightBy ml_RX4_84 rfl rfl (Nat.le_of_ble_eq_true rfl) (Nat.le_of_ble_eq_true rfl) (Nat.le_of_ble_eq_true rfl) dX4_catchOne_2 (fun r2 σ1 h => ?_)
  refine a_istore C dX4_catchOne_5 (by decide) rfl (vs1 := [some (.ref (ad 8)), some (.ref (ad p1)), some (.ref (ad p2)), some (.int x3), some (.int x4), some (.int r2)]) rfl ?_
  refine a_iload C dX4_catchOne_7 rfl ?_
  refine a_iconst C dX4_catchOne_9 (v := (-1)) rfl ?_
  refine p_ic_eq C (X := x4.toInt) (Y := (-1)) rfl (by decide) dX4_catchOne_10 (tgt := 43) rfl h (fun h => ?_) (fun h => ?_)
  ·
    refine AW.sub (vs' := [some (.ref (ad 8)), some (.ref (ad p1)), some (.ref (ad p2)), some (.int x3), none, some (.int r2)]) (lsub_of (by simp [lsubB])) ?_
    exact j43 _ _ _ h
  ·
    refine a_bipush C dX4_catchOne_13 (v := 100) rfl ?_
    refine a_iload C dX4_catchOne_15 rfl ?_
    refine a_iconst C dX4_catchOne_17 (v := 4) rfl ?_
    refine a_aload_n C dX4_catchOne_18 (i := 2) rfl rfl ?_
    refine a_get C fl_RX4_78 (i := p2) hp2.1.1 (hid _ hp2.1.2) (v := .int (σ1.1 p2 4)) rfl dX4_catchOne_19 ?_
    refine a_imul C dX4_catchOne_22 ?_
    refine p_callSi C (As := [.int 100, .int x4, .int ((4 : Int32) * (σ1.1 p2 4))]) h (fun _ _ e => Z_X4_lot hid e) ms_X4_lot ml_RX4_88 rfl rfl (Nat.le_of_ble_eq_true rfl) (Nat.le_of_ble_eq_true rfl) (Nat.le_of_ble_eq_true rfl) dX4_catchOne_23 (fun r4 σ3 h => ?_)
    refine a_aload_n C dX4_catchOne_26 (i := 0) rfl rfl ?_
    refine a_aload_n C dX4_catchOne_27 (i := 1) rfl rfl ?_
    refine a_iconst C dX4_catchOne_28 (v := 1) rfl ?_
    refine a_iload C dX4_catchOne_29 rfl ?_
    refine p_callVi C (As := [.ref (ad p1), .int 1, .int r2]) (i := 8) kd_8 (hid 8 (by decide)) ⟨_, _, rfl⟩ (by decide) h (fun _ _ e => Z_X4_asks hid hp1 e) mi_X4_asks ml_RX4_38 rfl rfl (Nat.le_of_ble_eq_true rfl) (Nat.le_of_ble_eq_true rfl) (Nat.le_of_ble_eq_true rfl) dX4_catchOne_31 (fun r6 σ5 h => ?_)
    refine p_ic_ge C (X := r4.toInt) (Y := r6.toInt) rfl rfl dX4_catchOne_34 (tgt := 43) rfl h (fun h => ?_) (fun h => ?_)
    ·
      refine AW.sub (vs' := [some (.ref (ad 8)), some (.ref (ad p1)), some (.ref (ad p2)), some (.int x3), none, some (.int r2)]) (lsub_of (by simp [lsubB])) ?_
      exact j43 _ _ _ h
    ·
      refine a_aload_n C dX4_catchOne_37 (i := 2) rfl rfl ?_
      refine a_iload_n C dX4_catchOne_38 (i := 3) rfl rfl ?_
      refine p_callVv C (As := [.int x3]) (i := p2) hp2.1.1 (hid _ hp2.1.2) ⟨_, _, rfl⟩ (by decide) h (fun _ e => Z_X0_drop hid hp2 e) mi_X0_drop ml_RX4_64 rfl rfl (Nat.le_of_ble_eq_true rfl) (Nat.le_of_ble_eq_true rfl) (Nat.le_of_ble_eq_true rfl) dX4_catchOne_39 (fun σ7 h => ?_)
      exact a_vret Rt dX4_catchOne_42 (retv_eq (h.trans (congrArg some hR.symm)))
set_option maxHeartbeats 4000000 in
set_option maxRecDepth 100000 in
theorem Z_X4_oneBeat {l : Launch} {D : va_G} {ids : List Nat} {ad : Nat → Nat} {ca : Nat → ClassId} {σ : HS} {p1 : Nat} {p2 : Nat} {x3 : Int32} {s0 : HS} (hid : ∀ i, i < 277 → i ∈ ids) (hp1 : txtOK p1) (hp2 : airOK p2) (h : f_X4_oneBeat p1 p2 x3 σ = some s0) : Kv l D ids ad ca yX4_oneBeat cX4_oneBeat 6 4 99 [.ref (ad 8), .ref (ad p1), .ref (ad p2), .int x3] σ (fun σ1 => σ1 = s0) := by
  obtain ⟨R, hR⟩ : ∃ R, s0 = R := ⟨_, rfl⟩
  replace h := h.trans (congrArg some hR)
  refine Kv.of (by decide) (Nat.le_of_ble_eq_true rfl) 2 (fun Γ C Rt => ?_)
  show AW ids ad ca Γ 0 [some (.ref (ad 8)), some (.ref (ad p1)), some (.ref (ad p2)), some (.int x3), none, none] [] σ
  unfold f_X4_oneBeat at h
  have j121 : ∀ (k92 : Int32 → HS → Option (HS)) (hk92 : ∀ (y5 : Int32) (σ : HS), k92 y5 σ = some R → AW ids ad ca Γ 92 [none, none, some (.ref (ad p2)), none, none, some (.int y5)] [] σ) (y5 : Int32) (σ : HS), f_X4_oneBeat_121 p1 p2 k92 y5 σ = some R → AW ids ad ca Γ 121 [none, none, some (.ref (ad p2)), none, none, some (.int y5)] [] σ := by
    intro k92 hk92 y5 σ h
    unfold f_X4_oneBeat_121 at h
    refine p_iinc C (y := (y5 + 1)) (fun z1 => [none, none, some (.ref (ad p2)), none, none, some (.int z1)]) dX4_oneBeat_121 rfl rfl (by decide) rfl (fun _ => rfl) h (fun z1 h => ?_)
    refine a_goto C dX4_oneBeat_124 (tgt := 92) rfl ?_
    exact hk92 _ _ h
  have j92 : ∀ (n : Nat) (y5 : Int32) (σ : HS), f_X4_oneBeat_92 p1 p2 n y5 σ = some R → AW ids ad ca Γ 92 [none, none, some (.ref (ad p2)), none, none, some (.int y5)] [] σ := by
    intro n
    induction n with
    | zero => intro y5 σ h; exact nn h
    | succ n ih =>
      intro y5 σ h
      have h : b_X4_oneBeat_92 p1 p2 (f_X4_oneBeat_92 p1 p2 n) y5 σ = some R := h
      unfold b_X4_oneBeat_92 at h
      refine a_iload C dX4_oneBeat_92 rfl ?_
      refine a_aload_n C dX4_oneBeat_94 (i := 2) rfl rfl ?_
      refine a_get C fl_RX4_57 (i := p2) hp2.1.1 (hid _ hp2.1.2) (v := .int (σ.1 p2 0)) rfl dX4_oneBeat_95 ?_
      refine p_ic_ge C (X := y5.toInt) (Y := (σ.1 p2 0).toInt) rfl rfl dX4_oneBeat_98 (tgt := 127) rfl h (fun h => ?_) (fun h => ?_)
      ·
        refine a_aload_n C dX4_oneBeat_127 (i := 2) rfl rfl ?_
        refine a_dup C dX4_oneBeat_128 rfl ?_
        refine a_get C fl_RX4_78 (i := p2) hp2.1.1 (hid _ hp2.1.2) (v := .int (σ.1 p2 4)) rfl dX4_oneBeat_129 ?_
        refine a_iconst C dX4_oneBeat_132 (v := 1) rfl ?_
        refine a_iadd C dX4_oneBeat_133 ?_
        refine p_put C fp_RX4_78 (i := p2) hp2.1.1 (hid _ hp2.1.2) rfl rfl dX4_oneBeat_134 h (fun σ1 h => ?_)
        refine a_aload_n C dX4_oneBeat_137 (i := 2) rfl rfl ?_
        refine a_iconst C dX4_oneBeat_138 (v := (-1)) rfl ?_
        refine p_put C fp_RX4_81 (i := p2) hp2.1.1 (hid _ hp2.1.2) rfl rfl dX4_oneBeat_139 h (fun σ2 h => ?_)
        exact a_vret Rt dX4_oneBeat_142 (retv_eq (h.trans (congrArg some hR.symm)))
      ·
        refine a_aload_n C dX4_oneBeat_101 (i := 2) rfl rfl ?_
        refine a_iload C dX4_oneBeat_102 rfl ?_
        refine p_callVi C (As := [.int y5]) (i := p2) hp2.1.1 (hid _ hp2.1.2) ⟨_, _, rfl⟩ (by decide) h (fun _ _ e => Z_X0_isUp hid hp2 e) mi_X0_isUp ml_RX4_71 rfl rfl (Nat.le_of_ble_eq_true rfl) (Nat.le_of_ble_eq_true rfl) (Nat.le_of_ble_eq_true rfl) dX4_oneBeat_104 (fun r4 σ3 h => ?_)
        refine p_if_eq C (X := r4.toInt) rfl dX4_oneBeat_107 (tgt := 121) rfl h (fun h => ?_) (fun h => ?_)
        ·
          exact j121 (f_X4_oneBeat_92 p1 p2 n) (fun y5 σ h => ih y5 σ h) _ _ h
        ·
          refine a_aload_n C dX4_oneBeat_110 (i := 2) rfl rfl ?_
          refine a_get C fl_RX4_74 (i := p2) hp2.1.1 (hid _ hp2.1.2) (v := .ref (ad (p2 + 2))) rfl dX4_oneBeat_111 ?_
          refine a_iload C dX4_oneBeat_114 rfl ?_
          refine a_dup2 C dX4_oneBeat_116 rfl rfl ?_
          refine p_iald C (i := (p2 + 2)) hp2.2.2.1.1 hid (by rw [hp2.2.2.1.2]; rfl) dX4_oneBeat_117 h (fun h => ?_)
          refine a_iconst C dX4_oneBeat_118 (v := 1) rfl ?_
          refine a_isub C dX4_oneBeat_119 ?_
          refine p_iast C (i := (p2 + 2)) hp2.2.2.1.1 hid (by rw [hp2.2.2.1.2]; rfl) dX4_oneBeat_120 h (fun σ5 h => ?_)
          exact j121 (f_X4_oneBeat_92 p1 p2 n) (fun y5 σ h => ih y5 σ h) _ _ h
  have j89 : ∀ (σ : HS), f_X4_oneBeat_89 p1 p2 σ = some R → AW ids ad ca Γ 89 [none, none, some (.ref (ad p2)), none, none, none] [] σ := by
    intro σ h
    unfold f_X4_oneBeat_89 at h
    refine a_iconst C dX4_oneBeat_89 (v := 0) rfl ?_
    refine a_istore C dX4_oneBeat_90 (by decide) rfl (vs1 := [none, none, some (.ref (ad p2)), none, none, some (.int 0)]) rfl ?_
    exact j92 _ _ _ h
  have j62 : ∀ (k38 : Int32 → Int32 → Int32 → HS → Option (HS)) (hk38 : ∀ (y3 : Int32) (y4 : Int32) (y5 : Int32) (σ : HS), k38 y3 y4 y5 σ = some R → AW ids ad ca Γ 38 [some (.ref (ad 8)), some (.ref (ad p1)), some (.ref (ad p2)), some (.int y3), some (.int y4), some (.int y5)] [] σ) (y3 : Int32) (y4 : Int32) (y5 : Int32) (σ : HS), f_X4_oneBeat_62 p1 p2 k38 y3 y4 y5 σ = some R → AW ids ad ca Γ 62 [some (.ref (ad 8)), some (.ref (ad p1)), some (.ref (ad p2)), some (.int y3), some (.int y4), some (.int y5)] [] σ := by
    intro k38 hk38 y3 y4 y5 σ h
    unfold f_X4_oneBeat_62 at h
    refine p_iinc C (y := (y5 + 1)) (fun z1 => [some (.ref (ad 8)), some (.ref (ad p1)), some (.ref (ad p2)), some (.int y3), some (.int y4), some (.int z1)]) dX4_oneBeat_62 rfl rfl (by decide) rfl (fun _ => rfl) h (fun z1 h => ?_)
    refine a_goto C dX4_oneBeat_65 (tgt := 38) rfl ?_
    exact hk38 _ _ _ _ h
  have j38 : ∀ (n : Nat) (y3 : Int32) (y4 : Int32) (y5 : Int32) (σ : HS), f_X4_oneBeat_38 p1 p2 n y3 y4 y5 σ = some R → AW ids ad ca Γ 38 [some (.ref (ad 8)), some (.ref (ad p1)), some (.ref (ad p2)), some (.int y3), some (.int y4), some (.int y5)] [] σ := by
    intro n
    induction n with
    | zero => intro y3 y4 y5 σ h; exact nn h
    | succ n ih =>
      intro y3 y4 y5 σ h
      have h : b_X4_oneBeat_38 p1 p2 (f_X4_oneBeat_38 p1 p2 n) y3 y4 y5 σ = some R := h
      unfold b_X4_oneBeat_38 at h
      refine a_iload C dX4_oneBeat_38 rfl ?_
      refine a_aload_n C dX4_oneBeat_40 (i := 2) rfl rfl ?_
      refine a_get C fl_RX4_57 (i := p2) hp2.1.1 (hid _ hp2.1.2) (v := .int (σ.1 p2 0)) rfl dX4_oneBeat_41 ?_
      refine p_ic_ge C (X := y5.toInt) (Y := (σ.1 p2 0).toInt) rfl rfl dX4_oneBeat_44 (tgt := 68) rfl h (fun h => ?_) (fun h => ?_)
      ·
        refine a_aload_n C dX4_oneBeat_68 (i := 0) rfl rfl ?_
        refine a_aload_n C dX4_oneBeat_69 (i := 1) rfl rfl ?_
        refine a_aload_n C dX4_oneBeat_70 (i := 2) rfl rfl ?_
        refine a_iload C dX4_oneBeat_71 rfl ?_
        refine a_aload_n C dX4_oneBeat_73 (i := 2) rfl rfl ?_
        refine p_callVi C (As := []) (i := p2) hp2.1.1 (hid _ hp2.1.2) ⟨_, _, rfl⟩ (by decide) h (fun _ _ e => Z_X0_howManyUp hid hp2 e) mi_X0_howManyUp ml_RX4_28 rfl rfl (Nat.le_of_ble_eq_true rfl) (Nat.le_of_ble_eq_true rfl) (Nat.le_of_ble_eq_true rfl) dX4_oneBeat_74 (fun r2 σ1 h => ?_)
        refine p_callVv C (As := [.ref (ad p1), .ref (ad p2), .int y4, .int r2]) (i := 8) kd_8 (hid 8 (by decide)) ⟨_, _, rfl⟩ (by decide) h (fun _ e => Z_X4_lookAt hid hp1 hp2 e) mi_X4_lookAt ml_RX4_34 rfl rfl (Nat.le_of_ble_eq_true rfl) (Nat.le_of_ble_eq_true rfl) (Nat.le_of_ble_eq_true rfl) dX4_oneBeat_77 (fun σ3 h => ?_)
        refine a_aload_n C dX4_oneBeat_80 (i := 0) rfl rfl ?_
        refine a_aload_n C dX4_oneBeat_81 (i := 1) rfl rfl ?_
        refine a_aload_n C dX4_oneBeat_82 (i := 2) rfl rfl ?_
        refine a_iload C dX4_oneBeat_83 rfl ?_
        refine a_iload_n C dX4_oneBeat_85 (i := 3) rfl rfl ?_
        refine p_callVv C (As := [.ref (ad p1), .ref (ad p2), .int y4, .int y3]) (i := 8) kd_8 (hid 8 (by decide)) ⟨_, _, rfl⟩ (by decide) h (fun _ e => Z_X4_catchOne hid hp1 hp2 e) mi_X4_catchOne ml_RX4_68 rfl rfl (Nat.le_of_ble_eq_true rfl) (Nat.le_of_ble_eq_true rfl) (Nat.le_of_ble_eq_true rfl) dX4_oneBeat_86 (fun σ5 h => ?_)
        refine AW.sub (vs' := [none, none, some (.ref (ad p2)), none, none, none]) (lsub_of (by simp [lsubB])) ?_
        exact j89 _ h
      ·
        refine a_aload_n C dX4_oneBeat_47 (i := 2) rfl rfl ?_
        refine a_iload C dX4_oneBeat_48 rfl ?_
        refine p_callVi C (As := [.int y5]) (i := p2) hp2.1.1 (hid _ hp2.1.2) ⟨_, _, rfl⟩ (by decide) h (fun _ _ e => Z_X0_landsNow hid hp2 e) mi_X0_landsNow ml_RX4_60 rfl rfl (Nat.le_of_ble_eq_true rfl) (Nat.le_of_ble_eq_true rfl) (Nat.le_of_ble_eq_true rfl) dX4_oneBeat_50 (fun r8 σ7 h => ?_)
        refine p_if_eq C (X := r8.toInt) rfl dX4_oneBeat_53 (tgt := 62) rfl h (fun h => ?_) (fun h => ?_)
        ·
          exact j62 (f_X4_oneBeat_38 p1 p2 n) (fun y3 y4 y5 σ h => ih y3 y4 y5 σ h) _ _ _ _ h
        ·
          refine a_aload_n C dX4_oneBeat_56 (i := 2) rfl rfl ?_
          refine a_iload C dX4_oneBeat_57 rfl ?_
          refine p_callVv C (As := [.int y5]) (i := p2) hp2.1.1 (hid _ hp2.1.2) ⟨_, _, rfl⟩ (by decide) h (fun _ e => Z_X0_drop hid hp2 e) mi_X0_drop ml_RX4_64 rfl rfl (Nat.le_of_ble_eq_true rfl) (Nat.le_of_ble_eq_true rfl) (Nat.le_of_ble_eq_true rfl) dX4_oneBeat_59 (fun σ9 h => ?_)
          exact j62 (f_X4_oneBeat_38 p1 p2 n) (fun y3 y4 y5 σ h => ih y3 y4 y5 σ h) _ _ _ _ h
  refine a_aload_n C dX4_oneBeat_0 (i := 2) rfl rfl ?_
  refine p_callVi C (As := []) (i := p2) hp2.1.1 (hid _ hp2.1.2) ⟨_, _, rfl⟩ (by decide) h (fun _ _ e => Z_X0_firstLanding hid hp2 e) mi_X0_firstLanding ml_RX4_22 rfl rfl (Nat.le_of_ble_eq_true rfl) (Nat.le_of_ble_eq_true rfl) (Nat.le_of_ble_eq_true rfl) dX4_oneBeat_1 (fun r2 σ1 h => ?_)
  refine a_istore C dX4_oneBeat_4 (by decide) rfl (vs1 := [some (.ref (ad 8)), some (.ref (ad p1)), some (.ref (ad p2)), some (.int x3), some (.int r2), none]) rfl ?_
  refine a_iload C dX4_oneBeat_6 rfl ?_
  refine a_iconst C dX4_oneBeat_8 (v := (-1)) rfl ?_
  refine p_ic_ne C (X := r2.toInt) (Y := (-1)) rfl (by decide) dX4_oneBeat_9 (tgt := 32) rfl h (fun h => ?_) (fun h => ?_)
  ·
    refine a_iload C dX4_oneBeat_32 rfl ?_
    refine a_iconst C dX4_oneBeat_34 (v := 1) rfl ?_
    refine a_iadd C dX4_oneBeat_35 ?_
    refine p_istore C (fun z3 => [some (.ref (ad 8)), some (.ref (ad p1)), some (.ref (ad p2)), some (.int x3), some (.int r2), some (.int z3)]) dX4_oneBeat_36 (by decide) rfl (fun _ => rfl) h (fun z3 h => ?_)
    exact j38 _ _ _ _ _ h
  ·
    refine a_aload_n C dX4_oneBeat_12 (i := 2) rfl rfl ?_
    refine a_iconst C dX4_oneBeat_13 (v := 0) rfl ?_
    refine a_aload_n C dX4_oneBeat_14 (i := 2) rfl rfl ?_
    refine a_get C fl_RX4_42 (i := p2) hp2.1.1 (hid _ hp2.1.2) (v := .int (σ1.1 p2 5)) rfl dX4_oneBeat_15 ?_
    refine a_aload_n C dX4_oneBeat_18 (i := 1) rfl rfl ?_
    refine a_get C fl_RX4_46 (i := p1) hp1.1.1 (hid _ hp1.1.2) (v := .int (σ1.1 p1 10)) rfl dX4_oneBeat_19 ?_
    refine a_isub C dX4_oneBeat_22 ?_
    refine a_mmax C dX4_oneBeat_23 mm_RX4_51 mm_max.1 mm_max.2.1 mm_max.2.2 (Nat.le_of_ble_eq_true rfl) (Nat.le_of_ble_eq_true rfl) ?_
    refine p_put C fp_RX4_42 (i := p2) hp2.1.1 (hid _ hp2.1.2) rfl rfl dX4_oneBeat_26 h (fun σ4 h => ?_)
    refine a_goto C dX4_oneBeat_29 (tgt := 89) rfl ?_
    refine AW.sub (vs' := [none, none, some (.ref (ad p2)), none, none, none]) (lsub_of (by simp [lsubB])) ?_
    exact j89 _ h
set_option maxHeartbeats 4000000 in
set_option maxRecDepth 100000 in
theorem Z_X4_goOn {l : Launch} {D : va_G} {ids : List Nat} {ad : Nat → Nat} {ca : Nat → ClassId} {σ : HS} {p1 : Nat} {p2 : Nat} {x3 : Int32} {x4 : Int32} {s0 : HS} (hid : ∀ i, i < 277 → i ∈ ids) (hp1 : txtOK p1) (hp2 : airOK p2) (h : f_X4_goOn p1 p2 x3 x4 σ = some s0) : Kv l D ids ad ca yX4_goOn cX4_goOn 6 5 124 [.ref (ad 8), .ref (ad p1), .ref (ad p2), .int x3, .int x4] σ (fun σ1 => σ1 = s0) := by
  obtain ⟨R, hR⟩ : ∃ R, s0 = R := ⟨_, rfl⟩
  replace h := h.trans (congrArg some hR)
  refine Kv.of (by decide) (Nat.le_of_ble_eq_true rfl) 1 (fun Γ C Rt => ?_)
  show AW ids ad ca Γ 0 [some (.ref (ad 8)), some (.ref (ad p1)), some (.ref (ad p2)), some (.int x3), some (.int x4), none] [] σ
  unfold f_X4_goOn at h
  have j3 : ∀ (n : Nat) (y3 : Int32) (y4 : Int32) (y5 : Int32) (σ : HS), f_X4_goOn_3 p1 p2 n y3 y4 y5 σ = some R → AW ids ad ca Γ 3 [some (.ref (ad 8)), some (.ref (ad p1)), some (.ref (ad p2)), some (.int y3), some (.int y4), some (.int y5)] [] σ := by
    intro n
    induction n with
    | zero => intro y3 y4 y5 σ h; exact nn h
    | succ n ih =>
      intro y3 y4 y5 σ h
      have h : b_X4_goOn_3 p1 p2 (f_X4_goOn_3 p1 p2 n) y3 y4 y5 σ = some R := h
      unfold b_X4_goOn_3 at h
      refine a_iload C dX4_goOn_3 rfl ?_
      refine a_iload_n C dX4_goOn_5 (i := 3) rfl rfl ?_
      refine p_ic_ge C (X := y5.toInt) (Y := y3.toInt) rfl rfl dX4_goOn_6 (tgt := 23) rfl h (fun h => ?_) (fun h => ?_)
      ·
        exact a_vret Rt dX4_goOn_23 (retv_eq (h.trans (congrArg some hR.symm)))
      ·
        refine a_aload_n C dX4_goOn_9 (i := 0) rfl rfl ?_
        refine a_aload_n C dX4_goOn_10 (i := 1) rfl rfl ?_
        refine a_aload_n C dX4_goOn_11 (i := 2) rfl rfl ?_
        refine a_iload C dX4_goOn_12 rfl ?_
        refine p_callVv C (As := [.ref (ad p1), .ref (ad p2), .int y4]) (i := 8) kd_8 (hid 8 (by decide)) ⟨_, _, rfl⟩ (by decide) h (fun _ e => Z_X4_oneBeat hid hp1 hp2 e) mi_X4_oneBeat ml_RX4_18 rfl rfl (Nat.le_of_ble_eq_true rfl) (Nat.le_of_ble_eq_true rfl) (Nat.le_of_ble_eq_true rfl) dX4_goOn_14 (fun σ1 h => ?_)
        refine p_iinc C (y := (y5 + 1)) (fun z3 => [some (.ref (ad 8)), some (.ref (ad p1)), some (.ref (ad p2)), some (.int y3), some (.int y4), some (.int z3)]) dX4_goOn_17 rfl rfl (by decide) rfl (fun _ => rfl) h (fun z3 h => ?_)
        refine a_goto C dX4_goOn_20 (tgt := 3) rfl ?_
        exact ih _ _ _ _ h
  refine a_iconst C dX4_goOn_0 (v := 0) rfl ?_
  refine a_istore C dX4_goOn_1 (by decide) rfl (vs1 := [some (.ref (ad 8)), some (.ref (ad p1)), some (.ref (ad p2)), some (.int x3), some (.int x4), some (.int 0)]) rfl ?_
  exact j3 _ _ _ _ _ h
set_option maxHeartbeats 4000000 in
set_option maxRecDepth 100000 in
theorem Z_X4_goOnSafely {l : Launch} {D : va_G} {ids : List Nat} {ad : Nat → Nat} {ca : Nat → ClassId} {σ : HS} {p1 : Nat} {p2 : Nat} {s0 : HS} (hid : ∀ i, i < 277 → i ∈ ids) (hp1 : txtOK p1) (hp2 : airOK p2) (h : f_X4_goOnSafely p1 p2 σ = some s0) : Kv l D ids ad ca yX4_goOnSafely cX4_goOnSafely 3 5 124 [.ref (ad 8), .ref (ad p1), .ref (ad p2)] σ (fun σ1 => σ1 = s0) := by
  obtain ⟨R, hR⟩ : ∃ R, s0 = R := ⟨_, rfl⟩
  replace h := h.trans (congrArg some hR)
  refine Kv.of (by decide) (Nat.le_of_ble_eq_true rfl) 0 (fun Γ C Rt => ?_)
  show AW ids ad ca Γ 0 [some (.ref (ad 8)), some (.ref (ad p1)), some (.ref (ad p2))] [] σ
  unfold f_X4_goOnSafely at h
  refine a_aload_n C dX4_goOnSafely_0 (i := 0) rfl rfl ?_
  refine a_aload_n C dX4_goOnSafely_1 (i := 1) rfl rfl ?_
  refine a_aload_n C dX4_goOnSafely_2 (i := 2) rfl rfl ?_
  refine a_iconst C dX4_goOnSafely_3 (v := (-1)) rfl ?_
  refine p_callVv C (As := [.ref (ad p1), .ref (ad p2), .int (-1)]) (i := 8) kd_8 (hid 8 (by decide)) ⟨_, _, rfl⟩ (by decide) h (fun _ e => Z_X4_oneBeat hid hp1 hp2 e) mi_X4_oneBeat ml_RX4_18 rfl rfl (Nat.le_of_ble_eq_true rfl) (Nat.le_of_ble_eq_true rfl) (Nat.le_of_ble_eq_true rfl) dX4_goOnSafely_4 (fun σ1 h => ?_)
  exact a_vret Rt dX4_goOnSafely_7 (retv_eq (h.trans (congrArg some hR.symm)))
set_option maxHeartbeats 4000000 in
set_option maxRecDepth 100000 in
theorem Z_X4_inForce {l : Launch} {D : va_G} {ids : List Nat} {ad : Nat → Nat} {ca : Nat → ClassId} {σ : HS} {p1 : Nat} {p2 : Nat} {r0 : Int32} {s0 : HS} (hid : ∀ i, i < 277 → i ∈ ids) (hp1 : txtOK p1) (hp2 : airOK p2) (h : f_X4_inForce p1 p2 σ = some (r0, s0)) : Ki l D ids ad ca yX4_inForce cX4_inForce 4 .int 3 74 [.ref (ad 8), .ref (ad p1), .ref (ad p2)] σ (fun r σ1 => r = r0 ∧ σ1 = s0) := by
  obtain ⟨R, hR⟩ : ∃ R, (r0, s0) = R := ⟨_, rfl⟩
  replace h := h.trans (congrArg some hR)
  refine Ki.of (by decide) (Nat.le_of_ble_eq_true rfl) 1 (fun Γ C Rt => ?_)
  show AW ids ad ca Γ 0 [some (.ref (ad 8)), some (.ref (ad p1)), some (.ref (ad p2)), none] [] σ
  unfold f_X4_inForce at h
  refine a_aload_n C dX4_inForce_0 (i := 2) rfl rfl ?_
  refine p_callVi C (As := []) (i := p2) hp2.1.1 (hid _ hp2.1.2) ⟨_, _, rfl⟩ (by decide) h (fun _ _ e => Z_X0_firstLanding hid hp2 e) mi_X0_firstLanding ml_RX4_22 rfl rfl (Nat.le_of_ble_eq_true rfl) (Nat.le_of_ble_eq_true rfl) (Nat.le_of_ble_eq_true rfl) dX4_inForce_1 (fun r2 σ1 h => ?_)
  refine a_istore_n C dX4_inForce_4 (i := 3) rfl (by decide) rfl (vs1 := [some (.ref (ad 8)), some (.ref (ad p1)), some (.ref (ad p2)), some (.int r2)]) rfl ?_
  refine a_iload_n C dX4_inForce_5 (i := 3) rfl rfl ?_
  refine a_iconst C dX4_inForce_6 (v := (-1)) rfl ?_
  refine p_ic_ne C (X := r2.toInt) (Y := (-1)) rfl (by decide) dX4_inForce_7 (tgt := 12) rfl h (fun h => ?_) (fun h => ?_)
  ·
    refine a_aload_n C dX4_inForce_12 (i := 0) rfl rfl ?_
    refine a_aload_n C dX4_inForce_13 (i := 1) rfl rfl ?_
    refine a_aload_n C dX4_inForce_14 (i := 2) rfl rfl ?_
    refine a_iload_n C dX4_inForce_15 (i := 3) rfl rfl ?_
    refine a_aload_n C dX4_inForce_16 (i := 2) rfl rfl ?_
    refine p_callVi C (As := []) (i := p2) hp2.1.1 (hid _ hp2.1.2) ⟨_, _, rfl⟩ (by decide) h (fun _ _ e => Z_X0_howManyUp hid hp2 e) mi_X0_howManyUp ml_RX4_28 rfl rfl (Nat.le_of_ble_eq_true rfl) (Nat.le_of_ble_eq_true rfl) (Nat.le_of_ble_eq_true rfl) dX4_inForce_17 (fun r4 σ3 h => ?_)
    refine a_aload_n C dX4_inForce_20 (i := 2) rfl rfl ?_
    refine p_callVi C (As := []) (i := p2) hp2.1.1 (hid _ hp2.1.2) ⟨_, _, rfl⟩ (by decide) h (fun _ _ e => Z_X0_howManyLand hid hp2 e) mi_X0_howManyLand ml_RX4_31 rfl rfl (Nat.le_of_ble_eq_true rfl) (Nat.le_of_ble_eq_true rfl) (Nat.le_of_ble_eq_true rfl) dX4_inForce_21 (fun r6 σ5 h => ?_)
    refine a_iconst C dX4_inForce_24 (v := 1) rfl ?_
    refine a_isub C dX4_inForce_25 ?_
    refine a_isub C dX4_inForce_26 ?_
    refine p_callVv C (As := [.ref (ad p1), .ref (ad p2), .int r2, .int (r4 - (r6 - (1 : Int32)))]) (i := 8) kd_8 (hid 8 (by decide)) ⟨_, _, rfl⟩ (by decide) h (fun _ e => Z_X4_lookAt hid hp1 hp2 e) mi_X4_lookAt ml_RX4_34 rfl rfl (Nat.le_of_ble_eq_true rfl) (Nat.le_of_ble_eq_true rfl) (Nat.le_of_ble_eq_true rfl) dX4_inForce_27 (fun σ7 h => ?_)
    refine a_aload_n C dX4_inForce_30 (i := 0) rfl rfl ?_
    refine a_aload_n C dX4_inForce_31 (i := 1) rfl rfl ?_
    refine a_iconst C dX4_inForce_32 (v := 2) rfl ?_
    refine a_iconst C dX4_inForce_33 (v := 0) rfl ?_
    refine p_callVi C (As := [.ref (ad p1), .int 2, .int 0]) (i := 8) kd_8 (hid 8 (by decide)) ⟨_, _, rfl⟩ (by decide) h (fun _ _ e => Z_X4_asks hid hp1 e) mi_X4_asks ml_RX4_38 rfl rfl (Nat.le_of_ble_eq_true rfl) (Nat.le_of_ble_eq_true rfl) (Nat.le_of_ble_eq_true rfl) dX4_inForce_34 (fun r10 σ9 h => ?_)
    exact a_iret Rt dX4_inForce_37 rfl (ret_eq (h.trans (congrArg some hR.symm)))
  ·
    refine a_iconst C dX4_inForce_10 (v := 0) rfl ?_
    exact a_iret Rt dX4_inForce_11 rfl (ret_eq (h.trans (congrArg some hR.symm)))
set_option maxHeartbeats 4000000 in
set_option maxRecDepth 100000 in
theorem Z_X5_clear {l : Launch} {D : va_G} {ids : List Nat} {ad : Nat → Nat} {ca : Nat → ClassId} {σ : HS} {s0 : HS} (hid : ∀ i, i < 277 → i ∈ ids) (h : f_X5_clear σ = some s0) : Kv l D ids ad ca yX5_clear cX5_clear 1 0 0 [.ref (ad 12)] σ (fun σ1 => σ1 = s0) := by
  obtain ⟨R, hR⟩ : ∃ R, s0 = R := ⟨_, rfl⟩
  replace h := h.trans (congrArg some hR)
  refine Kv.of (by decide) (Nat.le_of_ble_eq_true rfl) 0 (fun Γ C Rt => ?_)
  show AW ids ad ca Γ 0 [some (.ref (ad 12))] [] σ
  unfold f_X5_clear at h
  refine a_aload_n C dX5_clear_0 (i := 0) rfl rfl ?_
  refine a_iconst C dX5_clear_1 (v := 0) rfl ?_
  refine p_put C fp_RX5_18 (i := 12) kd_12 (hid 12 (by decide)) rfl rfl dX5_clear_2 h (fun σ1 h => ?_)
  exact a_vret Rt dX5_clear_5 (retv_eq (h.trans (congrArg some hR.symm)))
set_option maxHeartbeats 4000000 in
set_option maxRecDepth 100000 in
theorem Z_X5_keep {l : Launch} {D : va_G} {ids : List Nat} {ad : Nat → Nat} {ca : Nat → ClassId} {σ : HS} {p1 : Nat} {s0 : HS} (hid : ∀ i, i < 277 → i ∈ ids) (hp1 : airOK p1) (h : f_X5_keep p1 σ = some s0) : Kv l D ids ad ca yX5_keep cX5_keep 2 2 81 [.ref (ad 12), .ref (ad p1)] σ (fun σ1 => σ1 = s0) := by
  obtain ⟨R, hR⟩ : ∃ R, s0 = R := ⟨_, rfl⟩
  replace h := h.trans (congrArg some hR)
  refine Kv.of (by decide) (Nat.le_of_ble_eq_true rfl) 0 (fun Γ C Rt => ?_)
  show AW ids ad ca Γ 0 [some (.ref (ad 12)), some (.ref (ad p1))] [] σ
  unfold f_X5_keep at h
  refine a_aload_n C dX5_keep_0 (i := 0) rfl rfl ?_
  refine a_get C fl_RX5_11 (i := 12) kd_12 (hid 12 (by decide)) (v := .ref (ad 13)) rfl dX5_keep_1 ?_
  refine a_aload_n C dX5_keep_4 (i := 0) rfl rfl ?_
  refine a_get C fl_RX5_22 (i := 12) kd_12 (hid 12 (by decide)) (v := .int (σ.1 12 1)) rfl dX5_keep_5 ?_
  refine p_aaldR C hid dX5_keep_8 h (fun hr1 h => ?_)
  refine a_aload_n C dX5_keep_9 (i := 1) rfl rfl ?_
  refine p_callVv C (As := [.ref (ad p1)]) (i := (76 + 4 * (σ.1 12 1).toInt.toNat)) hr1.1.1 (hid _ hr1.1.2) ⟨_, _, rfl⟩ (by decide) h (fun _ e => Z_X0_copy hid hr1 hp1 e) mi_X0_copy ml_RX5_25 rfl rfl (Nat.le_of_ble_eq_true rfl) (Nat.le_of_ble_eq_true rfl) (Nat.le_of_ble_eq_true rfl) dX5_keep_10 (fun σ2 h => ?_)
  refine a_aload_n C dX5_keep_13 (i := 0) rfl rfl ?_
  refine a_aload_n C dX5_keep_14 (i := 0) rfl rfl ?_
  refine a_get C fl_RX5_22 (i := 12) kd_12 (hid 12 (by decide)) (v := .int (σ2.1 12 1)) rfl dX5_keep_15 ?_
  refine a_iconst C dX5_keep_18 (v := 1) rfl ?_
  refine a_iadd C dX5_keep_19 ?_
  refine a_bipush C dX5_keep_20 (v := 40) rfl ?_
  refine a_irem C dX5_keep_22 (by decide) ?_
  refine p_put C fp_RX5_22 (i := 12) kd_12 (hid 12 (by decide)) rfl rfl dX5_keep_23 h (fun σ4 h => ?_)
  refine a_aload_n C dX5_keep_26 (i := 0) rfl rfl ?_
  refine a_bipush C dX5_keep_27 (v := 40) rfl ?_
  refine a_aload_n C dX5_keep_29 (i := 0) rfl rfl ?_
  refine a_get C fl_RX5_18 (i := 12) kd_12 (hid 12 (by decide)) (v := .int (σ4.1 12 2)) rfl dX5_keep_30 ?_
  refine a_iconst C dX5_keep_33 (v := 1) rfl ?_
  refine a_iadd C dX5_keep_34 ?_
  refine a_mmin C dX5_keep_35 mm_RX5_29 mm_min.1 mm_min.2.1 mm_min.2.2 (Nat.le_of_ble_eq_true rfl) (Nat.le_of_ble_eq_true rfl) ?_
  refine p_put C fp_RX5_18 (i := 12) kd_12 (hid 12 (by decide)) rfl rfl dX5_keep_38 h (fun σ5 h => ?_)
  exact a_vret Rt dX5_keep_41 (retv_eq (h.trans (congrArg some hR.symm)))
set_option maxHeartbeats 4000000 in
set_option maxRecDepth 100000 in
theorem Z_X5_giveBack {l : Launch} {D : va_G} {ids : List Nat} {ad : Nat → Nat} {ca : Nat → ClassId} {σ : HS} {p1 : Nat} {r0 : Int32} {s0 : HS} (hid : ∀ i, i < 277 → i ∈ ids) (hp1 : airOK p1) (h : f_X5_giveBack p1 σ = some (r0, s0)) : Ki l D ids ad ca yX5_giveBack cX5_giveBack 2 .boolean 2 81 [.ref (ad 12), .ref (ad p1)] σ (fun r σ1 => r = r0 ∧ σ1 = s0) := by
  obtain ⟨R, hR⟩ : ∃ R, (r0, s0) = R := ⟨_, rfl⟩
  replace h := h.trans (congrArg some hR)
  refine Ki.of (by decide) (Nat.le_of_ble_eq_true rfl) 0 (fun Γ C Rt => ?_)
  show AW ids ad ca Γ 0 [some (.ref (ad 12)), some (.ref (ad p1))] [] σ
  unfold f_X5_giveBack at h
  refine a_aload_n C dX5_giveBack_0 (i := 0) rfl rfl ?_
  refine a_get C fl_RX5_18 (i := 12) kd_12 (hid 12 (by decide)) (v := .int (σ.1 12 2)) rfl dX5_giveBack_1 ?_
  refine p_if_ne C (X := (σ.1 12 2).toInt) rfl dX5_giveBack_4 (tgt := 9) rfl h (fun h => ?_) (fun h => ?_)
  ·
    refine a_aload_n C dX5_giveBack_9 (i := 0) rfl rfl ?_
    refine a_aload_n C dX5_giveBack_10 (i := 0) rfl rfl ?_
    refine a_get C fl_RX5_22 (i := 12) kd_12 (hid 12 (by decide)) (v := .int (σ.1 12 1)) rfl dX5_giveBack_11 ?_
    refine a_bipush C dX5_giveBack_14 (v := 40) rfl ?_
    refine a_iadd C dX5_giveBack_16 ?_
    refine a_iconst C dX5_giveBack_17 (v := 1) rfl ?_
    refine a_isub C dX5_giveBack_18 ?_
    refine a_bipush C dX5_giveBack_19 (v := 40) rfl ?_
    refine a_irem C dX5_giveBack_21 (by decide) ?_
    refine p_put C fp_RX5_22 (i := 12) kd_12 (hid 12 (by decide)) rfl rfl dX5_giveBack_22 h (fun σ1 h => ?_)
    refine a_aload_n C dX5_giveBack_25 (i := 1) rfl rfl ?_
    refine a_aload_n C dX5_giveBack_26 (i := 0) rfl rfl ?_
    refine a_get C fl_RX5_11 (i := 12) kd_12 (hid 12 (by decide)) (v := .ref (ad 13)) rfl dX5_giveBack_27 ?_
    refine a_aload_n C dX5_giveBack_30 (i := 0) rfl rfl ?_
    refine a_get C fl_RX5_22 (i := 12) kd_12 (hid 12 (by decide)) (v := .int (σ1.1 12 1)) rfl dX5_giveBack_31 ?_
    refine p_aaldR C hid dX5_giveBack_34 h (fun hr2 h => ?_)
    refine p_callVv C (As := [.ref (ad (76 + 4 * (σ1.1 12 1).toInt.toNat))]) (i := p1) hp1.1.1 (hid _ hp1.1.2) ⟨_, _, rfl⟩ (by decide) h (fun _ e => Z_X0_copy hid hp1 hr2 e) mi_X0_copy ml_RX5_25 rfl rfl (Nat.le_of_ble_eq_true rfl) (Nat.le_of_ble_eq_true rfl) (Nat.le_of_ble_eq_true rfl) dX5_giveBack_35 (fun σ3 h => ?_)
    refine a_aload_n C dX5_giveBack_38 (i := 0) rfl rfl ?_
    refine a_dup C dX5_giveBack_39 rfl ?_
    refine a_get C fl_RX5_18 (i := 12) kd_12 (hid 12 (by decide)) (v := .int (σ3.1 12 2)) rfl dX5_giveBack_40 ?_
    refine a_iconst C dX5_giveBack_43 (v := 1) rfl ?_
    refine a_isub C dX5_giveBack_44 ?_
    refine p_put C fp_RX5_18 (i := 12) kd_12 (hid 12 (by decide)) rfl rfl dX5_giveBack_45 h (fun σ5 h => ?_)
    refine a_iconst C dX5_giveBack_48 (v := 1) rfl ?_
    exact a_iret Rt dX5_giveBack_49 (nar_z (by decide)).1 (ret_eq (h.trans (congrArg some hR.symm)))
  ·
    refine a_iconst C dX5_giveBack_7 (v := 0) rfl ?_
    exact a_iret Rt dX5_giveBack_8 (nar_z (by decide)).1 (ret_eq (h.trans (congrArg some hR.symm)))
set_option maxHeartbeats 4000000 in
set_option maxRecDepth 100000 in
theorem Z_X10_emit {l : Launch} {D : va_G} {ids : List Nat} {ad : Nat → Nat} {ca : Nat → ClassId} {σ : HS} {t : Nat} {x1 : Int32} {s0 : HS} (hid : ∀ i, i < 277 → i ∈ ids) (ht : txtOK t) (h : f_X10_emit t x1 σ = some s0) : Kv l D ids ad ca yX10_emit cX10_emit 2 0 0 [.ref (ad t), .int x1] σ (fun σ1 => σ1 = s0) := by
  obtain ⟨R, hR⟩ : ∃ R, s0 = R := ⟨_, rfl⟩
  replace h := h.trans (congrArg some hR)
  refine Kv.of (by decide) (Nat.le_of_ble_eq_true rfl) 0 (fun Γ C Rt => ?_)
  show AW ids ad ca Γ 0 [some (.ref (ad t)), some (.int x1)] [] σ
  unfold f_X10_emit at h
  refine a_aload_n C dX10_emit_0 (i := 0) rfl rfl ?_
  refine a_get C fl_RX10_51 (i := t) ht.1.1 (hid _ ht.1.2) (v := .int (σ.1 t 8)) rfl dX10_emit_1 ?_
  refine a_aload_n C dX10_emit_4 (i := 0) rfl rfl ?_
  refine a_get C fl_RX10_29 (i := t) ht.1.1 (hid _ ht.1.2) (v := .ref (ad (t + 11))) rfl dX10_emit_5 ?_
  refine a_alen C (by rw [ht.2.2.2.2.2.1.1.1]; decide) (hid _ ht.2.2.2.2.2.1.1.2) rfl dX10_emit_8 ?_
  refine p_ic_ge C (X := (σ.1 t 8).toInt) (Y := (Int32.ofNat (al (t + 11))).toInt) rfl rfl dX10_emit_9 (tgt := 32) rfl h (fun h => ?_) (fun h => ?_)
  ·
    exact a_vret Rt dX10_emit_32 (retv_eq (h.trans (congrArg some hR.symm)))
  ·
    refine a_aload_n C dX10_emit_12 (i := 0) rfl rfl ?_
    refine a_get C fl_RX10_29 (i := t) ht.1.1 (hid _ ht.1.2) (v := .ref (ad (t + 11))) rfl dX10_emit_13 ?_
    refine a_aload_n C dX10_emit_16 (i := 0) rfl rfl ?_
    refine a_get C fl_RX10_51 (i := t) ht.1.1 (hid _ ht.1.2) (v := .int (σ.1 t 8)) rfl dX10_emit_17 ?_
    refine a_iload_n C dX10_emit_20 (i := 1) rfl rfl ?_
    refine p_iast C (i := (t + 11)) ht.2.2.2.2.2.1.1 hid (by rw [ht.2.2.2.2.2.1.2]; rfl) dX10_emit_21 h (fun σ1 h => ?_)
    refine a_aload_n C dX10_emit_22 (i := 0) rfl rfl ?_
    refine a_dup C dX10_emit_23 rfl ?_
    refine a_get C fl_RX10_51 (i := t) ht.1.1 (hid _ ht.1.2) (v := .int (σ1.1 t 8)) rfl dX10_emit_24 ?_
    refine a_iconst C dX10_emit_27 (v := 1) rfl ?_
    refine a_iadd C dX10_emit_28 ?_
    refine p_put C fp_RX10_51 (i := t) ht.1.1 (hid _ ht.1.2) rfl rfl dX10_emit_29 h (fun σ2 h => ?_)
    exact a_vret Rt dX10_emit_32 (retv_eq (h.trans (congrArg some hR.symm)))

set_option maxHeartbeats 4000000 in
set_option maxRecDepth 100000 in
theorem Z_X10_clear {l : Launch} {D : va_G} {ids : List Nat} {ad : Nat → Nat} {ca : Nat → ClassId} {σ : HS} {t : Nat} {s0 : HS} (hid : ∀ i, i < 277 → i ∈ ids) (ht : txtOK t) (h : f_X10_clear t σ = some s0) : Kv l D ids ad ca yX10_clear cX10_clear 2 1 21 [.ref (ad t)] σ (fun σ1 => σ1 = s0) := by
  obtain ⟨R, hR⟩ : ∃ R, s0 = R := ⟨_, rfl⟩
  replace h := h.trans (congrArg some hR)
  refine Kv.of (by decide) (Nat.le_of_ble_eq_true rfl) 1 (fun Γ C Rt => ?_)
  show AW ids ad ca Γ 0 [some (.ref (ad t)), none] [] σ
  unfold f_X10_clear at h
  have j54 : ∀ (k27 : Int32 → HS → Option (HS)) (hk27 : ∀ (y1 : Int32) (σ : HS), k27 y1 σ = some R → AW ids ad ca Γ 27 [some (.ref (ad t)), some (.int y1)] [] σ) (y1 : Int32) (v0 : Int32) (σ : HS), f_X10_clear_54 t k27 y1 v0 σ = some R → AW ids ad ca Γ 54 [some (.ref (ad t)), some (.int y1)] [.int v0, .ref (ad t)] σ := by
    intro k27 hk27 y1 v0 σ h
    unfold f_X10_clear_54 at h
    refine p_callVv C (As := [.int v0]) (i := t) ht.1.1 (hid _ ht.1.2) ⟨_, _, rfl⟩ (by decide) h (fun _ e => Z_X10_emit hid ht e) mi_X10_emit ml_RX10_54 rfl rfl (Nat.le_of_ble_eq_true rfl) (Nat.le_of_ble_eq_true rfl) (Nat.le_of_ble_eq_true rfl) dX10_clear_54 (fun σ1 h => ?_)
    refine a_aload_n C dX10_clear_57 (i := 0) rfl rfl ?_
    refine a_bipush C dX10_clear_58 (v := (-6)) rfl ?_
    refine p_callVv C (As := [.int (-6)]) (i := t) ht.1.1 (hid _ ht.1.2) ⟨_, _, rfl⟩ (by decide) h (fun _ e => Z_X10_emit hid ht e) mi_X10_emit ml_RX10_54 rfl rfl (Nat.le_of_ble_eq_true rfl) (Nat.le_of_ble_eq_true rfl) (Nat.le_of_ble_eq_true rfl) dX10_clear_60 (fun σ3 h => ?_)
    refine p_iinc C (y := (y1 + 1)) (fun z5 => [some (.ref (ad t)), some (.int z5)]) dX10_clear_63 rfl rfl (by decide) rfl (fun _ => rfl) h (fun z5 h => ?_)
    refine a_goto C dX10_clear_66 (tgt := 27) rfl ?_
    exact hk27 _ _ h
  have j27 : ∀ (n : Nat) (y1 : Int32) (σ : HS), f_X10_clear_27 t n y1 σ = some R → AW ids ad ca Γ 27 [some (.ref (ad t)), some (.int y1)] [] σ := by
    intro n
    induction n with
    | zero => intro y1 σ h; exact nn h
    | succ n ih =>
      intro y1 σ h
      have h : b_X10_clear_27 t (f_X10_clear_27 t n) y1 σ = some R := h
      unfold b_X10_clear_27 at h
      refine a_iload_n C dX10_clear_27 (i := 1) rfl rfl ?_
      refine a_iconst C dX10_clear_28 (v := 4) rfl ?_
      refine p_ic_ge C (X := y1.toInt) (Y := 4) rfl (by decide) dX10_clear_29 (tgt := 69) rfl h (fun h => ?_) (fun h => ?_)
      ·
        exact a_vret Rt dX10_clear_69 (retv_eq (h.trans (congrArg some hR.symm)))
      ·
        refine a_aload_n C dX10_clear_32 (i := 0) rfl rfl ?_
        refine a_get C fl_RX10_32 (i := t) ht.1.1 (hid _ ht.1.2) (v := .ref (ad (t + 12))) rfl dX10_clear_33 ?_
        refine a_iload_n C dX10_clear_36 (i := 1) rfl rfl ?_
        refine a_aload_n C dX10_clear_37 (i := 0) rfl rfl ?_
        refine a_get C fl_RX10_51 (i := t) ht.1.1 (hid _ ht.1.2) (v := .int (σ.1 t 8)) rfl dX10_clear_38 ?_
        refine p_iast C (i := (t + 12)) ht.2.2.2.2.2.2.1.1 hid (by rw [ht.2.2.2.2.2.2.1.2]; rfl) dX10_clear_41 h (fun σ1 h => ?_)
        refine a_aload_n C dX10_clear_42 (i := 0) rfl rfl ?_
        refine a_iload_n C dX10_clear_43 (i := 1) rfl rfl ?_
        refine a_iconst C dX10_clear_44 (v := 2) rfl ?_
        refine p_ic_ne C (X := y1.toInt) (Y := 2) rfl (by decide) dX10_clear_45 (tgt := 53) rfl h (fun h => ?_) (fun h => ?_)
        ·
          refine a_iconst C dX10_clear_53 (v := 0) rfl ?_
          exact j54 (f_X10_clear_27 t n) (fun y1 σ h => ih y1 σ h) _ _ _ h
        ·
          refine a_bipush C dX10_clear_48 (v := (-11)) rfl ?_
          refine a_goto C dX10_clear_50 (tgt := 54) rfl ?_
          exact j54 (f_X10_clear_27 t n) (fun y1 σ h => ih y1 σ h) _ _ _ h
  refine a_aload_n C dX10_clear_0 (i := 0) rfl rfl ?_
  refine a_iconst C dX10_clear_1 (v := 0) rfl ?_
  refine p_put C fp_RX10_38 (i := t) ht.1.1 (hid _ ht.1.2) rfl rfl dX10_clear_2 h (fun σ1 h => ?_)
  refine a_aload_n C dX10_clear_5 (i := 0) rfl rfl ?_
  refine a_iconst C dX10_clear_6 (v := 0) rfl ?_
  refine p_put C fp_RX10_42 (i := t) ht.1.1 (hid _ ht.1.2) rfl rfl dX10_clear_7 h (fun σ2 h => ?_)
  refine a_aload_n C dX10_clear_10 (i := 0) rfl rfl ?_
  refine a_iconst C dX10_clear_11 (v := 1) rfl ?_
  refine p_put C fp_RX10_45 (i := t) ht.1.1 (hid _ ht.1.2) rfl rfl dX10_clear_12 h (fun σ3 h => ?_)
  refine a_aload_n C dX10_clear_15 (i := 0) rfl rfl ?_
  refine a_iconst C dX10_clear_16 (v := 0) rfl ?_
  refine p_put C fp_RX10_48 (i := t) ht.1.1 (hid _ ht.1.2) rfl rfl dX10_clear_17 h (fun σ4 h => ?_)
  refine a_aload_n C dX10_clear_20 (i := 0) rfl rfl ?_
  refine a_iconst C dX10_clear_21 (v := 0) rfl ?_
  refine p_put C fp_RX10_51 (i := t) ht.1.1 (hid _ ht.1.2) rfl rfl dX10_clear_22 h (fun σ5 h => ?_)
  refine a_iconst C dX10_clear_25 (v := 0) rfl ?_
  refine a_istore_n C dX10_clear_26 (i := 1) rfl (by decide) rfl (vs1 := [some (.ref (ad t)), some (.int 0)]) rfl ?_
  exact j27 _ _ _ h
set_option maxHeartbeats 4000000 in
set_option maxRecDepth 100000 in
theorem Z_X9_isLetter {l : Launch} {D : va_G} {ids : List Nat} {ad : Nat → Nat} {ca : Nat → ClassId} {σ : HS} {x1 : Int32} {r0 : Int32} {s0 : HS} (hid : ∀ i, i < 277 → i ∈ ids) (h : f_X9_isLetter x1 σ = some (r0, s0)) : Ki l D ids ad ca yX9_isLetter cX9_isLetter 1 .boolean 0 0 [.int x1] σ (fun r σ1 => r = r0 ∧ σ1 = s0) := by
  obtain ⟨R, hR⟩ : ∃ R, (r0, s0) = R := ⟨_, rfl⟩
  replace h := h.trans (congrArg some hR)
  refine Ki.of (by decide) (Nat.le_of_ble_eq_true rfl) 0 (fun Γ C Rt => ?_)
  show AW ids ad ca Γ 0 [some (.int x1)] [] σ
  unfold f_X9_isLetter at h
  refine a_iload_n C dX9_isLetter_0 (i := 0) rfl rfl ?_
  refine a_bipush C dX9_isLetter_1 (v := 97) rfl ?_
  refine p_ic_lt C (X := x1.toInt) (Y := 97) rfl (by decide) dX9_isLetter_3 (tgt := 16) rfl h (fun h => ?_) (fun h => ?_)
  ·
    refine a_iconst C dX9_isLetter_16 (v := 0) rfl ?_
    exact a_iret Rt dX9_isLetter_17 (nar_z (by decide)).1 (ret_eq (h.trans (congrArg some hR.symm)))
  ·
    refine a_iload_n C dX9_isLetter_6 (i := 0) rfl rfl ?_
    refine a_bipush C dX9_isLetter_7 (v := 122) rfl ?_
    refine p_ic_gt C (X := x1.toInt) (Y := 122) rfl (by decide) dX9_isLetter_9 (tgt := 16) rfl h (fun h => ?_) (fun h => ?_)
    ·
      refine a_iconst C dX9_isLetter_16 (v := 0) rfl ?_
      exact a_iret Rt dX9_isLetter_17 (nar_z (by decide)).1 (ret_eq (h.trans (congrArg some hR.symm)))
    ·
      refine a_iconst C dX9_isLetter_12 (v := 1) rfl ?_
      refine a_goto C dX9_isLetter_13 (tgt := 17) rfl ?_
      exact a_iret Rt dX9_isLetter_17 (nar_z (by decide)).1 (ret_eq (h.trans (congrArg some hR.symm)))
set_option maxHeartbeats 4000000 in
set_option maxRecDepth 100000 in
theorem Z_X9_isDigit {l : Launch} {D : va_G} {ids : List Nat} {ad : Nat → Nat} {ca : Nat → ClassId} {σ : HS} {x1 : Int32} {r0 : Int32} {s0 : HS} (hid : ∀ i, i < 277 → i ∈ ids) (h : f_X9_isDigit x1 σ = some (r0, s0)) : Ki l D ids ad ca yX9_isDigit cX9_isDigit 1 .boolean 0 0 [.int x1] σ (fun r σ1 => r = r0 ∧ σ1 = s0) := by
  obtain ⟨R, hR⟩ : ∃ R, (r0, s0) = R := ⟨_, rfl⟩
  replace h := h.trans (congrArg some hR)
  refine Ki.of (by decide) (Nat.le_of_ble_eq_true rfl) 0 (fun Γ C Rt => ?_)
  show AW ids ad ca Γ 0 [some (.int x1)] [] σ
  unfold f_X9_isDigit at h
  refine a_iload_n C dX9_isDigit_0 (i := 0) rfl rfl ?_
  refine a_bipush C dX9_isDigit_1 (v := 48) rfl ?_
  refine p_ic_lt C (X := x1.toInt) (Y := 48) rfl (by decide) dX9_isDigit_3 (tgt := 16) rfl h (fun h => ?_) (fun h => ?_)
  ·
    refine a_iconst C dX9_isDigit_16 (v := 0) rfl ?_
    exact a_iret Rt dX9_isDigit_17 (nar_z (by decide)).1 (ret_eq (h.trans (congrArg some hR.symm)))
  ·
    refine a_iload_n C dX9_isDigit_6 (i := 0) rfl rfl ?_
    refine a_bipush C dX9_isDigit_7 (v := 57) rfl ?_
    refine p_ic_gt C (X := x1.toInt) (Y := 57) rfl (by decide) dX9_isDigit_9 (tgt := 16) rfl h (fun h => ?_) (fun h => ?_)
    ·
      refine a_iconst C dX9_isDigit_16 (v := 0) rfl ?_
      exact a_iret Rt dX9_isDigit_17 (nar_z (by decide)).1 (ret_eq (h.trans (congrArg some hR.symm)))
    ·
      refine a_iconst C dX9_isDigit_12 (v := 1) rfl ?_
      refine a_goto C dX9_isDigit_13 (tgt := 17) rfl ?_
      exact a_iret Rt dX9_isDigit_17 (nar_z (by decide)).1 (ret_eq (h.trans (congrArg some hR.symm)))
set_option maxHeartbeats 4000000 in
set_option maxRecDepth 100000 in
theorem Z_J1_canEncode_9a6ad {l : Launch} {D : va_G} {ids : List Nat} {ad : Nat → Nat} {ca : Nat → ClassId} {K : (Nat → Nat) × (Nat → Nat)} {σ : HS} {x1 : Int32} {r0 : Int32} {s0 : HS} (hid : ∀ i, i < 277 → i ∈ ids) (h : f_J1_canEncode_9a6ad x1 σ = some (r0, s0)) : KiS l D ids ad ca K yJ1_canEncode_9a6ad cJ1_canEncode_9a6ad 1 .boolean 0 0 [.int x1] σ (fun r σ1 => r = r0 ∧ σ1 = s0) := by
  obtain ⟨R, hR⟩ : ∃ R, (r0, s0) = R := ⟨_, rfl⟩
  replace h := h.trans (congrArg some hR)
  refine KiS.ofF (by decide +kernel) (Nat.le_of_ble_eq_true rfl) 0 (fun Γ C E Rt => ?_)
  show AW ids ad ca Γ 0 [some (.int x1)] [] σ
  unfold f_J1_canEncode_9a6ad at h
  refine a_iload_n C dJ1_canEncode_9a6ad_0 (i := 0) rfl rfl ?_
  refine p_if_lt C (X := x1.toInt) rfl dJ1_canEncode_9a6ad_1 (tgt := 15) rfl h (fun h => ?_) (fun h => ?_)
  ·
    refine a_iconst C dJ1_canEncode_9a6ad_15 (v := 0) rfl ?_
    exact a_iret Rt dJ1_canEncode_9a6ad_16 (nar_z (by decide)).1 (ret_eq (h.trans (congrArg some hR.symm)))
  ·
    refine a_iload_n C dJ1_canEncode_9a6ad_4 (i := 0) rfl rfl ?_
    refine a_sipush C dJ1_canEncode_9a6ad_5 (v := 255) rfl ?_
    refine p_ic_gt C (X := x1.toInt) (Y := 255) rfl (by decide) dJ1_canEncode_9a6ad_8 (tgt := 15) rfl h (fun h => ?_) (fun h => ?_)
    ·
      refine a_iconst C dJ1_canEncode_9a6ad_15 (v := 0) rfl ?_
      exact a_iret Rt dJ1_canEncode_9a6ad_16 (nar_z (by decide)).1 (ret_eq (h.trans (congrArg some hR.symm)))
    ·
      refine a_iconst C dJ1_canEncode_9a6ad_11 (v := 1) rfl ?_
      refine a_goto C dJ1_canEncode_9a6ad_12 (tgt := 16) rfl ?_
      exact a_iret Rt dJ1_canEncode_9a6ad_16 (nar_z (by decide)).1 (ret_eq (h.trans (congrArg some hR.symm)))
set_option maxHeartbeats 4000000 in
set_option maxRecDepth 100000 in
theorem Z_J1_indexOfChar_4cfef {l : Launch} {D : va_G} {ids : List Nat} {ad : Nat → Nat} {ca : Nat → ClassId} {K : (Nat → Nat) × (Nat → Nat)} {σ : HS} {x2 : Int32} {x3 : Int32} {x4 : Int32} {r0 : Int32} {s0 : HS} (hid : ∀ i, i < 277 → i ∈ ids) (h : f_J1_indexOfChar_4cfef x2 x3 x4 σ = some (r0, s0)) : KiS l D ids ad ca K yJ1_indexOfChar_4cfef cJ1_indexOfChar_4cfef 6 .int 0 0 [.ref (K.2 1), .int x2, .int x3, .int x4] σ (fun r σ1 => r = r0 ∧ σ1 = s0) := by
  obtain ⟨R, hR⟩ : ∃ R, (r0, s0) = R := ⟨_, rfl⟩
  replace h := h.trans (congrArg some hR)
  refine KiS.ofF (by decide +kernel) (Nat.le_of_ble_eq_true rfl) 2 (fun Γ C E Rt => ?_)
  show AW ids ad ca Γ 0 [some (.ref (K.2 1)), some (.int x2), some (.int x3), some (.int x4), none, none] [] σ
  unfold f_J1_indexOfChar_4cfef at h
  have j7 : ∀ (n : Nat) (y3 : Int32) (y4 : Int32) (y5 : Int32) (σ : HS), f_J1_indexOfChar_4cfef_7 n y3 y4 y5 σ = some R → AW ids ad ca Γ 7 [some (.ref (K.2 1)), none, none, some (.int y3), some (.int y4), some (.int y5)] [] σ := by
    intro n
    induction n with
    | zero => intro y3 y4 y5 σ h; exact nn h
    | succ n ih =>
      intro y3 y4 y5 σ h
      have h : b_J1_indexOfChar_4cfef_7 (f_J1_indexOfChar_4cfef_7 n) y3 y4 y5 σ = some R := h
      unfold b_J1_indexOfChar_4cfef_7 at h
      refine a_iload C dJ1_indexOfChar_4cfef_7 rfl ?_
      refine a_iload_n C dJ1_indexOfChar_4cfef_9 (i := 3) rfl rfl ?_
      refine p_ic_ge C (X := y5.toInt) (Y := y3.toInt) rfl rfl dJ1_indexOfChar_4cfef_10 (tgt := 31) rfl h (fun h => ?_) (fun h => ?_)
      ·
        refine a_iconst C dJ1_indexOfChar_4cfef_31 (v := (-1)) rfl ?_
        exact a_iret Rt dJ1_indexOfChar_4cfef_32 rfl (ret_eq (h.trans (congrArg some hR.symm)))
      ·
        refine a_aload_n C dJ1_indexOfChar_4cfef_13 (i := 0) rfl rfl ?_
        refine a_iload C dJ1_indexOfChar_4cfef_14 rfl ?_
        refine p_sbald C E (i := 1) (by decide) (N := 9) rfl dJ1_indexOfChar_4cfef_16 h (fun h => ?_)
        refine a_iload C dJ1_indexOfChar_4cfef_17 rfl ?_
        refine p_ic_ne C (X := ((bytS.getD 1 []).getD y5.toInt.toNat 0).toInt) (Y := y4.toInt) rfl rfl dJ1_indexOfChar_4cfef_19 (tgt := 25) rfl h (fun h => ?_) (fun h => ?_)
        ·
          refine p_iinc C (y := (y5 + 1)) (fun z1 => [some (.ref (K.2 1)), none, none, some (.int y3), some (.int y4), some (.int z1)]) dJ1_indexOfChar_4cfef_25 rfl rfl (by decide) rfl (fun _ => rfl) h (fun z1 h => ?_)
          refine a_goto C dJ1_indexOfChar_4cfef_28 (tgt := 7) rfl ?_
          exact ih _ _ _ _ h
        ·
          refine a_iload C dJ1_indexOfChar_4cfef_22 rfl ?_
          exact a_iret Rt dJ1_indexOfChar_4cfef_24 rfl (ret_eq (h.trans (congrArg some hR.symm)))
  refine a_iload_n C dJ1_indexOfChar_4cfef_0 (i := 1) rfl rfl ?_
  refine a_i2b C dJ1_indexOfChar_4cfef_1 ?_
  refine p_istore C (fun z1 => [some (.ref (K.2 1)), some (.int x2), some (.int x3), some (.int x4), some (.int z1), none]) dJ1_indexOfChar_4cfef_2 (by decide) rfl (fun _ => rfl) h (fun z1 h => ?_)
  refine a_iload_n C dJ1_indexOfChar_4cfef_4 (i := 2) rfl rfl ?_
  refine a_istore C dJ1_indexOfChar_4cfef_5 (by decide) rfl (vs1 := [some (.ref (K.2 1)), some (.int x2), some (.int x3), some (.int x4), some (.int z1), some (.int x3)]) rfl ?_
  refine AW.sub (vs' := [some (.ref (K.2 1)), none, none, some (.int x4), some (.int z1), some (.int x3)]) (lsub_of (by simp [lsubB])) ?_
  exact j7 _ _ _ _ _ h
set_option maxHeartbeats 4000000 in
set_option maxRecDepth 100000 in
theorem Z_J1_indexOf_4cfef {l : Launch} {D : va_G} {ids : List Nat} {ad : Nat → Nat} {ca : Nat → ClassId} {K : (Nat → Nat) × (Nat → Nat)} {σ : HS} {x2 : Int32} {x3 : Int32} {x4 : Int32} {r0 : Int32} {s0 : HS} (hid : ∀ i, i < 277 → i ∈ ids) (h : f_J1_indexOf_4cfef x2 x3 x4 σ = some (r0, s0)) : KiS l D ids ad ca K yJ1_indexOf_4cfef cJ1_indexOf_4cfef 4 .int 1 25 [.ref (K.2 1), .int x2, .int x3, .int x4] σ (fun r σ1 => r = r0 ∧ σ1 = s0) := by
  obtain ⟨R, hR⟩ : ∃ R, (r0, s0) = R := ⟨_, rfl⟩
  replace h := h.trans (congrArg some hR)
  refine KiS.ofF (by decide +kernel) (Nat.le_of_ble_eq_true rfl) 0 (fun Γ C E Rt => ?_)
  show AW ids ad ca Γ 0 [some (.ref (K.2 1)), some (.int x2), some (.int x3), some (.int x4)] [] σ
  unfold f_J1_indexOf_4cfef at h
  refine a_iload_n C dJ1_indexOf_4cfef_0 (i := 1) rfl rfl ?_
  refine p_cSiS C E (As := [.int x2]) h (fun _ _ e => Z_J1_canEncode_9a6ad hid e) ms_J1_canEncode_9a6ad ml_RJ1_88 rfl rfl (Nat.le_of_ble_eq_true rfl) (Nat.le_of_ble_eq_true rfl) (Nat.le_of_ble_eq_true rfl) dJ1_indexOf_4cfef_1 (fun r2 σ1 h => ?_)
  refine p_if_ne C (X := r2.toInt) rfl dJ1_indexOf_4cfef_4 (tgt := 9) rfl h (fun h => ?_) (fun h => ?_)
  ·
    refine a_iload_n C dJ1_indexOf_4cfef_9 (i := 2) rfl rfl ?_
    refine a_iconst C dJ1_indexOf_4cfef_10 (v := 0) rfl ?_
    refine a_mmax C dJ1_indexOf_4cfef_11 mm_RJ1_92 mm_max.1 mm_max.2.1 mm_max.2.2 (Nat.le_of_ble_eq_true rfl) (Nat.le_of_ble_eq_true rfl) ?_
    refine p_istore_n C (fun z3 => [some (.ref (K.2 1)), some (.int x2), some (.int z3), some (.int x4)]) dJ1_indexOf_4cfef_14 (i := 2) rfl (by decide) rfl (fun _ => rfl) h (fun z3 h => ?_)
    refine a_iload_n C dJ1_indexOf_4cfef_15 (i := 3) rfl rfl ?_
    refine a_aload_n C dJ1_indexOf_4cfef_16 (i := 0) rfl rfl ?_
    refine a_slen C E (i := 1) (by decide) dJ1_indexOf_4cfef_17 ?_
    refine a_mmin C dJ1_indexOf_4cfef_18 mm_RJ1_38 mm_min.1 mm_min.2.1 mm_min.2.2 (Nat.le_of_ble_eq_true rfl) (Nat.le_of_ble_eq_true rfl) ?_
    refine p_istore_n C (fun z4 => [some (.ref (K.2 1)), some (.int x2), some (.int z3), some (.int z4)]) dJ1_indexOf_4cfef_21 (i := 3) rfl (by decide) rfl (fun _ => rfl) h (fun z4 h => ?_)
    refine a_iload_n C dJ1_indexOf_4cfef_22 (i := 2) rfl rfl ?_
    refine a_iload_n C dJ1_indexOf_4cfef_23 (i := 3) rfl rfl ?_
    refine p_ic_lt C (X := z3.toInt) (Y := z4.toInt) rfl rfl dJ1_indexOf_4cfef_24 (tgt := 29) rfl h (fun h => ?_) (fun h => ?_)
    ·
      refine a_aload_n C dJ1_indexOf_4cfef_29 (i := 0) rfl rfl ?_
      refine a_iload_n C dJ1_indexOf_4cfef_30 (i := 1) rfl rfl ?_
      refine a_iload_n C dJ1_indexOf_4cfef_31 (i := 2) rfl rfl ?_
      refine a_iload_n C dJ1_indexOf_4cfef_32 (i := 3) rfl rfl ?_
      refine p_cSiS C E (As := [.ref (K.2 1), .int x2, .int z3, .int z4]) h (fun _ _ e => Z_J1_indexOfChar_4cfef hid e) ms_J1_indexOfChar_4cfef ml_RJ1_95 rfl rfl (Nat.le_of_ble_eq_true rfl) (Nat.le_of_ble_eq_true rfl) (Nat.le_of_ble_eq_true rfl) dJ1_indexOf_4cfef_33 (fun r6 σ5 h => ?_)
      exact a_iret Rt dJ1_indexOf_4cfef_36 rfl (ret_eq (h.trans (congrArg some hR.symm)))
    ·
      refine a_iconst C dJ1_indexOf_4cfef_27 (v := (-1)) rfl ?_
      exact a_iret Rt dJ1_indexOf_4cfef_28 rfl (ret_eq (h.trans (congrArg some hR.symm)))
  ·
    refine a_iconst C dJ1_indexOf_4cfef_7 (v := (-1)) rfl ?_
    exact a_iret Rt dJ1_indexOf_4cfef_8 rfl (ret_eq (h.trans (congrArg some hR.symm)))
set_option maxHeartbeats 4000000 in
set_option maxRecDepth 100000 in
theorem Z_J0_indexOf_7cf53 {l : Launch} {D : va_G} {ids : List Nat} {ad : Nat → Nat} {ca : Nat → ClassId} {K : (Nat → Nat) × (Nat → Nat)} {σ : HS} {x1 : Int32} {x2 : Int32} {r0 : Int32} {s0 : HS} (hid : ∀ i, i < 277 → i ∈ ids) (h : f_J0_indexOf_7cf53 x1 x2 σ = some (r0, s0)) : KiS l D ids ad ca K yJ0_indexOf_7cf53 cJ0_indexOf_7cf53 3 .int 2 48 [.ref (K.1 1), .int x1, .int x2] σ (fun r σ1 => r = r0 ∧ σ1 = s0) := by
  obtain ⟨R, hR⟩ : ∃ R, (r0, s0) = R := ⟨_, rfl⟩
  replace h := h.trans (congrArg some hR)
  refine KiS.ofF (by decide +kernel) (Nat.le_of_ble_eq_true rfl) 0 (fun Γ C E Rt => ?_)
  show AW ids ad ca Γ 0 [some (.ref (K.1 1)), some (.int x1), some (.int x2)] [] σ
  unfold f_J0_indexOf_7cf53 at h
  refine a_aload_n C dJ0_indexOf_7cf53_0 (i := 0) rfl rfl ?_
  refine a_cTiS C E (As := []) (i := 1) (by decide) rfl (J_isLatin1 (by decide)) mi_J0_isLatin1_aae02 ml_RJ0_492 rfl rfl (Nat.le_of_ble_eq_true rfl) (Nat.le_of_ble_eq_true rfl) (Nat.le_of_ble_eq_true rfl) dJ0_indexOf_7cf53_1 (fun r s q => ?_)
  obtain ⟨rfl, rfl⟩ := q
  refine p_if_eq C (X := 1) (by decide) dJ0_indexOf_7cf53_4 (tgt := 23) rfl h (fun h => ?_) (fun h => ?_)
  ·
    refine a_aload_n C dJ0_indexOf_7cf53_23 (i := 0) rfl rfl ?_
    refine a_sval C E (i := 1) (by decide) fw_val dJ0_indexOf_7cf53_24 ?_
    refine a_iload_n C dJ0_indexOf_7cf53_27 (i := 1) rfl rfl ?_
    refine a_iload_n C dJ0_indexOf_7cf53_28 (i := 2) rfl rfl ?_
    refine a_aload_n C dJ0_indexOf_7cf53_29 (i := 0) rfl rfl ?_
    refine p_strlen C E (i := 1) (As := []) (by decide) mi_J0_length_8abf5 ml_RJ0_505 rfl (Nat.le_of_ble_eq_true rfl) (Nat.le_of_ble_eq_true rfl) (Nat.le_of_ble_eq_true rfl) dJ0_indexOf_7cf53_30 rfl ?_
    exact nn h
  ·
    refine a_aload_n C dJ0_indexOf_7cf53_7 (i := 0) rfl rfl ?_
    refine a_sval C E (i := 1) (by decide) fw_val dJ0_indexOf_7cf53_8 ?_
    refine a_iload_n C dJ0_indexOf_7cf53_11 (i := 1) rfl rfl ?_
    refine a_iload_n C dJ0_indexOf_7cf53_12 (i := 2) rfl rfl ?_
    refine a_aload_n C dJ0_indexOf_7cf53_13 (i := 0) rfl rfl ?_
    refine p_strlen C E (i := 1) (As := []) (by decide) mi_J0_length_8abf5 ml_RJ0_505 rfl (Nat.le_of_ble_eq_true rfl) (Nat.le_of_ble_eq_true rfl) (Nat.le_of_ble_eq_true rfl) dJ0_indexOf_7cf53_14 rfl ?_
    refine p_cSiS C E (As := [.ref (K.2 1), .int x1, .int x2, .int (Int32.ofNat (lenS.getD 1 0))]) h (fun _ _ e => Z_J1_indexOf_4cfef hid e) ms_J1_indexOf_4cfef ml_RJ0_637 rfl rfl (Nat.le_of_ble_eq_true rfl) (Nat.le_of_ble_eq_true rfl) (Nat.le_of_ble_eq_true rfl) dJ0_indexOf_7cf53_17 (fun r4 σ3 h => ?_)
    refine a_goto C dJ0_indexOf_7cf53_20 (tgt := 36) rfl ?_
    exact a_iret Rt dJ0_indexOf_7cf53_36 rfl (ret_eq (h.trans (congrArg some hR.symm)))
set_option maxHeartbeats 4000000 in
set_option maxRecDepth 100000 in
theorem Z_J0_indexOf_0f7a4 {l : Launch} {D : va_G} {ids : List Nat} {ad : Nat → Nat} {ca : Nat → ClassId} {K : (Nat → Nat) × (Nat → Nat)} {σ : HS} {x1 : Int32} {r0 : Int32} {s0 : HS} (hid : ∀ i, i < 277 → i ∈ ids) (h : f_J0_indexOf_0f7a4 x1 σ = some (r0, s0)) : KiS l D ids ad ca K yJ0_indexOf_0f7a4 cJ0_indexOf_0f7a4 2 .int 3 70 [.ref (K.1 1), .int x1] σ (fun r σ1 => r = r0 ∧ σ1 = s0) := by
  obtain ⟨R, hR⟩ : ∃ R, (r0, s0) = R := ⟨_, rfl⟩
  replace h := h.trans (congrArg some hR)
  refine KiS.ofF (by decide +kernel) (Nat.le_of_ble_eq_true rfl) 0 (fun Γ C E Rt => ?_)
  show AW ids ad ca Γ 0 [some (.ref (K.1 1)), some (.int x1)] [] σ
  unfold f_J0_indexOf_0f7a4 at h
  refine a_aload_n C dJ0_indexOf_0f7a4_0 (i := 0) rfl rfl ?_
  refine a_iload_n C dJ0_indexOf_0f7a4_1 (i := 1) rfl rfl ?_
  refine a_iconst C dJ0_indexOf_0f7a4_2 (v := 0) rfl ?_
  refine p_cTiS C E (As := [.int x1, .int 0]) (i := 1) (by decide) rfl h (fun _ _ e => Z_J0_indexOf_7cf53 hid e) mi_J0_indexOf_7cf53 ml_RJ0_633 rfl rfl (Nat.le_of_ble_eq_true rfl) (Nat.le_of_ble_eq_true rfl) (Nat.le_of_ble_eq_true rfl) dJ0_indexOf_0f7a4_3 (fun r2 σ1 h => ?_)
  exact a_iret Rt dJ0_indexOf_0f7a4_6 rfl (ret_eq (h.trans (congrArg some hR.symm)))
set_option maxHeartbeats 4000000 in
set_option maxRecDepth 100000 in
theorem Z_X9_cutInt {l : Launch} {D : va_G} {ids : List Nat} {ad : Nat → Nat} {ca : Nat → ClassId} {σ : HS} {x1 : Int32} {r0 : Int32} {s0 : HS} (hid : ∀ i, i < 277 → i ∈ ids) (h : f_X9_cutInt x1 σ = some (r0, s0)) : Ki l D ids ad ca yX9_cutInt cX9_cutInt 5 .int 1 20 [.ref (ad 2), .int x1] σ (fun r σ1 => r = r0 ∧ σ1 = s0) := by
  obtain ⟨R, hR⟩ : ∃ R, (r0, s0) = R := ⟨_, rfl⟩
  replace h := h.trans (congrArg some hR)
  refine Ki.of (by decide) (Nat.le_of_ble_eq_true rfl) 3 (fun Γ C Rt => ?_)
  show AW ids ad ca Γ 0 [some (.ref (ad 2)), some (.int x1), none, none, none] [] σ
  unfold f_X9_cutInt at h
  have j66 : ∀ (y1 : Int32) (y2 : Int32) (y3 : Int64) (σ : HS), f_X9_cutInt_66 y1 y2 y3 σ = some R → AW ids ad ca Γ 66 [some (.ref (ad 2)), some (.int y1), some (.int y2), some (.long y3), none] [] σ := by
    intro y1 y2 y3 σ h
    unfold f_X9_cutInt_66 at h
    refine a_aload_n C dX9_cutInt_66 (i := 0) rfl rfl ?_
    refine a_get C fl_RX9_21 (i := 2) kd_2 (hid 2 (by decide)) (v := .ref (ad 6)) rfl dX9_cutInt_67 ?_
    refine a_iload_n C dX9_cutInt_70 (i := 1) rfl rfl ?_
    refine a_lload_n C dX9_cutInt_71 (i := 3) rfl rfl ?_
    refine p_last C (i := 6) kd_6 (hid 6 (by decide)) (by rw [al_6]; rfl) dX9_cutInt_72 h (fun σ1 h => ?_)
    refine a_aload_n C dX9_cutInt_73 (i := 0) rfl rfl ?_
    refine a_get C fl_RX9_29 (i := 2) kd_2 (hid 2 (by decide)) (v := .int (σ1.1 2 5)) rfl dX9_cutInt_74 ?_
    refine a_iload_n C dX9_cutInt_77 (i := 2) rfl rfl ?_
    refine a_isub C dX9_cutInt_78 ?_
    refine a_iconst C dX9_cutInt_79 (v := 4) rfl ?_
    refine p_ic_gt C (X := ((σ1.1 2 5) - y2).toInt) (Y := 4) rfl (by decide) dX9_cutInt_80 (tgt := 88) rfl h (fun h => ?_) (fun h => ?_)
    ·
      refine a_bipush C dX9_cutInt_88 (v := 23) rfl ?_
      exact a_iret Rt dX9_cutInt_90 rfl (ret_eq (h.trans (congrArg some hR.symm)))
    ·
      refine a_bipush C dX9_cutInt_83 (v := 21) rfl ?_
      refine a_goto C dX9_cutInt_85 (tgt := 90) rfl ?_
      exact a_iret Rt dX9_cutInt_90 rfl (ret_eq (h.trans (congrArg some hR.symm)))
  have j7 : ∀ (n : Nat) (y1 : Int32) (y2 : Int32) (y3 : Int64) (σ : HS), f_X9_cutInt_7 n y1 y2 y3 σ = some R → AW ids ad ca Γ 7 [some (.ref (ad 2)), some (.int y1), some (.int y2), some (.long y3), none] [] σ := by
    intro n
    induction n with
    | zero => intro y1 y2 y3 σ h; exact nn h
    | succ n ih =>
      intro y1 y2 y3 σ h
      have h : b_X9_cutInt_7 (f_X9_cutInt_7 n) y1 y2 y3 σ = some R := h
      unfold b_X9_cutInt_7 at h
      refine a_aload_n C dX9_cutInt_7 (i := 0) rfl rfl ?_
      refine a_get C fl_RX9_29 (i := 2) kd_2 (hid 2 (by decide)) (v := .int (σ.1 2 5)) rfl dX9_cutInt_8 ?_
      refine a_aload_n C dX9_cutInt_11 (i := 0) rfl rfl ?_
      refine a_get C fl_RX9_25 (i := 2) kd_2 (hid 2 (by decide)) (v := .int (σ.1 2 1)) rfl dX9_cutInt_12 ?_
      refine p_ic_ge C (X := (σ.1 2 5).toInt) (Y := (σ.1 2 1).toInt) rfl rfl dX9_cutInt_15 (tgt := 66) rfl h (fun h => ?_) (fun h => ?_)
      ·
        exact j66 _ _ _ _ h
      ·
        refine a_aload_n C dX9_cutInt_18 (i := 0) rfl rfl ?_
        refine a_get C fl_RX9_9 (i := 2) kd_2 (hid 2 (by decide)) (v := .ref (ad 3)) rfl dX9_cutInt_19 ?_
        refine a_aload_n C dX9_cutInt_22 (i := 0) rfl rfl ?_
        refine a_get C fl_RX9_29 (i := 2) kd_2 (hid 2 (by decide)) (v := .int (σ.1 2 5)) rfl dX9_cutInt_23 ?_
        refine p_iald C (i := 3) (show rowOK 3 from ⟨kd_3, by decide⟩) hid (by rw [al_3]; rfl) dX9_cutInt_26 h (fun h => ?_)
        refine p_callSi C (As := [.int (σ.1 3 (σ.1 2 5).toInt.toNat)]) h (fun _ _ e => Z_X9_isDigit hid e) ms_X9_isDigit ml_RX9_46 rfl rfl (Nat.le_of_ble_eq_true rfl) (Nat.le_of_ble_eq_true rfl) (Nat.le_of_ble_eq_true rfl) dX9_cutInt_27 (fun r2 σ1 h => ?_)
        refine p_if_eq C (X := r2.toInt) rfl dX9_cutInt_30 (tgt := 66) rfl h (fun h => ?_) (fun h => ?_)
        ·
          exact j66 _ _ _ _ h
        ·
          refine a_lload_n C dX9_cutInt_33 (i := 3) rfl rfl ?_
          refine a_ldc2 C dX9_cutInt_34 ko_RX9_65 ?_
          refine a_lmul C dX9_cutInt_37 ?_
          refine a_aload_n C dX9_cutInt_38 (i := 0) rfl rfl ?_
          refine a_get C fl_RX9_9 (i := 2) kd_2 (hid 2 (by decide)) (v := .ref (ad 3)) rfl dX9_cutInt_39 ?_
          refine a_aload_n C dX9_cutInt_42 (i := 0) rfl rfl ?_
          refine a_get C fl_RX9_29 (i := 2) kd_2 (hid 2 (by decide)) (v := .int (σ1.1 2 5)) rfl dX9_cutInt_43 ?_
          refine p_iald C (i := 3) (show rowOK 3 from ⟨kd_3, by decide⟩) hid (by rw [al_3]; rfl) dX9_cutInt_46 h (fun h => ?_)
          refine a_bipush C dX9_cutInt_47 (v := 48) rfl ?_
          refine a_isub C dX9_cutInt_49 ?_
          refine a_i2l C dX9_cutInt_50 ?_
          refine a_ladd C dX9_cutInt_51 ?_
          refine p_lstore_n C (fun z3 => [some (.ref (ad 2)), some (.int y1), some (.int y2), some (.long z3), none]) dX9_cutInt_52 (i := 3) rfl (by decide) rfl (fun _ => rfl) h (fun z3 h => ?_)
          refine a_aload_n C dX9_cutInt_53 (i := 0) rfl rfl ?_
          refine a_dup C dX9_cutInt_54 rfl ?_
          refine a_get C fl_RX9_29 (i := 2) kd_2 (hid 2 (by decide)) (v := .int (σ1.1 2 5)) rfl dX9_cutInt_55 ?_
          refine a_iconst C dX9_cutInt_58 (v := 1) rfl ?_
          refine a_iadd C dX9_cutInt_59 ?_
          refine p_put C fp_RX9_29 (i := 2) kd_2 (hid 2 (by decide)) rfl rfl dX9_cutInt_60 h (fun σ4 h => ?_)
          refine a_goto C dX9_cutInt_63 (tgt := 7) rfl ?_
          exact ih _ _ _ _ h
  refine a_aload_n C dX9_cutInt_0 (i := 0) rfl rfl ?_
  refine a_get C fl_RX9_29 (i := 2) kd_2 (hid 2 (by decide)) (v := .int (σ.1 2 5)) rfl dX9_cutInt_1 ?_
  refine p_istore_n C (fun z1 => [some (.ref (ad 2)), some (.int x1), some (.int z1), none, none]) dX9_cutInt_4 (i := 2) rfl (by decide) rfl (fun _ => rfl) h (fun z1 h => ?_)
  refine a_lconst C dX9_cutInt_5 (v := 0) rfl ?_
  refine a_lstore_n C dX9_cutInt_6 (i := 3) rfl (by decide) rfl (vs1 := [some (.ref (ad 2)), some (.int x1), some (.int z1), some (.long 0), none]) rfl ?_
  exact j7 _ _ _ _ _ h
set_option maxHeartbeats 4000000 in
set_option maxRecDepth 100000 in
theorem Z_X9_wordAt {l : Launch} {D : va_G} {ids : List Nat} {ad : Nat → Nat} {ca : Nat → ClassId} {K : (Nat → Nat) × (Nat → Nat)} {σ : HS} {x1 : Int32} {x2 : Int32} {r0 : Int32} {s0 : HS} (hid : ∀ i, i < 277 → i ∈ ids) (h : f_X9_wordAt x1 x2 σ = some (r0, s0)) : KiS l D ids ad ca K yX9_wordAt cX9_wordAt 7 .int 4 91 [.ref (ad 2), .int x1, .int x2] σ (fun r σ1 => r = r0 ∧ σ1 = s0) := by
  obtain ⟨R, hR⟩ : ∃ R, (r0, s0) = R := ⟨_, rfl⟩
  replace h := h.trans (congrArg some hR)
  refine KiS.of (by decide) (Nat.le_of_ble_eq_true rfl) 4 (fun Γ C E Rt => ?_)
  show AW ids ad ca Γ 0 [some (.ref (ad 2)), some (.int x1), some (.int x2), none, none, none, none] [] σ
  unfold f_X9_wordAt at h
  have j85 : ∀ (k8 : Int32 → Int32 → Int32 → Int32 → Int32 → HS → Option (Int32 × HS)) (hk8 : ∀ (y1 : Int32) (y2 : Int32) (y3 : Int32) (y4 : Int32) (y5 : Int32) (σ : HS), k8 y1 y2 y3 y4 y5 σ = some R → AW ids ad ca Γ 8 [some (.ref (ad 2)), some (.int y1), some (.int y2), some (.int y3), some (.int y4), some (.int y5), none] [] σ) (y1 : Int32) (y2 : Int32) (y3 : Int32) (y4 : Int32) (y5 : Int32) (σ : HS), f_X9_wordAt_85 k8 y1 y2 y3 y4 y5 σ = some R → AW ids ad ca Γ 85 [some (.ref (ad 2)), some (.int y1), some (.int y2), some (.int y3), some (.int y4), some (.int y5), none] [] σ := by
    intro k8 hk8 y1 y2 y3 y4 y5 σ h
    unfold f_X9_wordAt_85 at h
    refine p_iinc C (y := (y5 + 1)) (fun z1 => [some (.ref (ad 2)), some (.int y1), some (.int y2), some (.int y3), some (.int y4), some (.int z1), none]) dX9_wordAt_85 rfl rfl (by decide) rfl (fun _ => rfl) h (fun z1 h => ?_)
    refine a_goto C dX9_wordAt_88 (tgt := 8) rfl ?_
    exact hk8 _ _ _ _ _ _ h
  have j82 : ∀ (k8 : Int32 → Int32 → Int32 → Int32 → Int32 → HS → Option (Int32 × HS)) (hk8 : ∀ (y1 : Int32) (y2 : Int32) (y3 : Int32) (y4 : Int32) (y5 : Int32) (σ : HS), k8 y1 y2 y3 y4 y5 σ = some R → AW ids ad ca Γ 8 [some (.ref (ad 2)), some (.int y1), some (.int y2), some (.int y3), some (.int y4), some (.int y5), none] [] σ) (y1 : Int32) (y2 : Int32) (y3 : Int32) (y5 : Int32) (σ : HS), f_X9_wordAt_82 k8 y1 y2 y3 y5 σ = some R → AW ids ad ca Γ 82 [some (.ref (ad 2)), some (.int y1), some (.int y2), some (.int y3), none, some (.int y5), none] [] σ := by
    intro k8 hk8 y1 y2 y3 y5 σ h
    unfold f_X9_wordAt_82 at h
    refine a_iconst C dX9_wordAt_82 (v := (-1)) rfl ?_
    refine a_istore C dX9_wordAt_83 (by decide) rfl (vs1 := [some (.ref (ad 2)), some (.int y1), some (.int y2), some (.int y3), some (.int (-1)), some (.int y5), none]) rfl ?_
    exact j85 k8 hk8 _ _ _ _ _ _ h
  have j8 : ∀ (n : Nat) (y1 : Int32) (y2 : Int32) (y3 : Int32) (y4 : Int32) (y5 : Int32) (σ : HS), f_X9_wordAt_8 n y1 y2 y3 y4 y5 σ = some R → AW ids ad ca Γ 8 [some (.ref (ad 2)), some (.int y1), some (.int y2), some (.int y3), some (.int y4), some (.int y5), none] [] σ := by
    intro n
    induction n with
    | zero => intro y1 y2 y3 y4 y5 σ h; exact nn h
    | succ n ih =>
      intro y1 y2 y3 y4 y5 σ h
      have h : b_X9_wordAt_8 (f_X9_wordAt_8 n) y1 y2 y3 y4 y5 σ = some R := h
      unfold b_X9_wordAt_8 at h
      refine a_iload C dX9_wordAt_8 rfl ?_
      refine a_ldcW C E rfl dX9_wordAt_10 ?_
      refine p_strlen C E (i := 0) (As := []) (by decide) mi_J0_length_8abf5 ml_RX9_69 rfl (Nat.le_of_ble_eq_true rfl) (Nat.le_of_ble_eq_true rfl) (Nat.le_of_ble_eq_true rfl) dX9_wordAt_12 rfl ?_
      refine p_ic_ge C (X := y5.toInt) (Y := (Int32.ofNat (lenS.getD 0 0)).toInt) rfl rfl dX9_wordAt_15 (tgt := 91) rfl h (fun h => ?_) (fun h => ?_)
      ·
        refine a_iconst C dX9_wordAt_91 (v := (-1)) rfl ?_
        exact a_iret Rt dX9_wordAt_92 rfl (ret_eq (h.trans (congrArg some hR.symm)))
      ·
        refine a_ldcW C E rfl dX9_wordAt_18 ?_
        refine a_iload C dX9_wordAt_20 rfl ?_
        refine p_charAt C E (i := 0) (N := 112) (by decide) rfl mi_J0_charAt_5068e ml_RX9_73 rfl (Nat.le_of_ble_eq_true rfl) (Nat.le_of_ble_eq_true rfl) (Nat.le_of_ble_eq_true rfl) dX9_wordAt_22 h (fun h => ?_)
        refine p_istore C (fun z1 => [some (.ref (ad 2)), some (.int y1), some (.int y2), some (.int y3), some (.int y4), some (.int y5), some (.int z1)]) dX9_wordAt_25 (by decide) rfl (fun _ => rfl) h (fun z1 h => ?_)
        refine a_iload C dX9_wordAt_27 rfl ?_
        refine a_bipush C dX9_wordAt_29 (v := 32) rfl ?_
        refine p_ic_ne C (X := z1.toInt) (Y := 32) rfl (by decide) dX9_wordAt_31 (tgt := 51) rfl h (fun h => ?_) (fun h => ?_)
        ·
          refine a_iload C dX9_wordAt_51 rfl ?_
          refine p_if_lt C (X := y4.toInt) rfl dX9_wordAt_53 (tgt := 82) rfl h (fun h => ?_) (fun h => ?_)
          ·
            refine AW.sub (vs' := [some (.ref (ad 2)), some (.int y1), some (.int y2), some (.int y3), none, some (.int y5), none]) (lsub_of (by simp [lsubB])) ?_
            exact j82 (f_X9_wordAt_8 n) (fun y1 y2 y3 y4 y5 σ h => ih y1 y2 y3 y4 y5 σ h) _ _ _ _ _ h
          ·
            refine a_iload C dX9_wordAt_56 rfl ?_
            refine a_iload_n C dX9_wordAt_58 (i := 2) rfl rfl ?_
            refine p_ic_ge C (X := y4.toInt) (Y := y2.toInt) rfl rfl dX9_wordAt_59 (tgt := 82) rfl h (fun h => ?_) (fun h => ?_)
            ·
              refine AW.sub (vs' := [some (.ref (ad 2)), some (.int y1), some (.int y2), some (.int y3), none, some (.int y5), none]) (lsub_of (by simp [lsubB])) ?_
              exact j82 (f_X9_wordAt_8 n) (fun y1 y2 y3 y4 y5 σ h => ih y1 y2 y3 y4 y5 σ h) _ _ _ _ _ h
            ·
              refine a_aload_n C dX9_wordAt_62 (i := 0) rfl rfl ?_
              refine a_get C fl_RX9_9 (i := 2) kd_2 (hid 2 (by decide)) (v := .ref (ad 3)) rfl dX9_wordAt_63 ?_
              refine a_iload_n C dX9_wordAt_66 (i := 1) rfl rfl ?_
              refine a_iload C dX9_wordAt_67 rfl ?_
              refine a_iadd C dX9_wordAt_69 ?_
              refine p_iald C (i := 3) (show rowOK 3 from ⟨kd_3, by decide⟩) hid (by rw [al_3]; rfl) dX9_wordAt_70 h (fun h => ?_)
              refine a_iload C dX9_wordAt_71 rfl ?_
              refine p_ic_ne C (X := (σ.1 3 (y1 + y4).toInt.toNat).toInt) (Y := z1.toInt) rfl rfl dX9_wordAt_73 (tgt := 82) rfl h (fun h => ?_) (fun h => ?_)
              ·
                refine AW.sub (vs' := [some (.ref (ad 2)), some (.int y1), some (.int y2), some (.int y3), none, some (.int y5), none]) (lsub_of (by simp [lsubB])) ?_
                exact j82 (f_X9_wordAt_8 n) (fun y1 y2 y3 y4 y5 σ h => ih y1 y2 y3 y4 y5 σ h) _ _ _ _ _ h
              ·
                refine p_iinc C (y := (y4 + 1)) (fun z2 => [some (.ref (ad 2)), some (.int y1), some (.int y2), some (.int y3), some (.int z2), some (.int y5), some (.int z1)]) dX9_wordAt_76 rfl rfl (by decide) rfl (fun _ => rfl) h (fun z2 h => ?_)
                refine a_goto C dX9_wordAt_79 (tgt := 85) rfl ?_
                refine AW.sub (vs' := [some (.ref (ad 2)), some (.int y1), some (.int y2), some (.int y3), some (.int z2), some (.int y5), none]) (lsub_of (by simp [lsubB])) ?_
                exact j85 (f_X9_wordAt_8 n) (fun y1 y2 y3 y4 y5 σ h => ih y1 y2 y3 y4 y5 σ h) _ _ _ _ _ _ h
        ·
          refine a_iload C dX9_wordAt_34 rfl ?_
          refine a_iload_n C dX9_wordAt_36 (i := 2) rfl rfl ?_
          refine p_ic_ne C (X := y4.toInt) (Y := y2.toInt) rfl rfl dX9_wordAt_37 (tgt := 42) rfl h (fun h => ?_) (fun h => ?_)
          ·
            refine p_iinc C (y := (y3 + 1)) (fun z3 => [some (.ref (ad 2)), some (.int y1), some (.int y2), some (.int z3), some (.int y4), some (.int y5), some (.int z1)]) dX9_wordAt_42 rfl rfl (by decide) rfl (fun _ => rfl) h (fun z3 h => ?_)
            refine a_iconst C dX9_wordAt_45 (v := 0) rfl ?_
            refine a_istore C dX9_wordAt_46 (by decide) rfl (vs1 := [some (.ref (ad 2)), some (.int y1), some (.int y2), some (.int z3), some (.int 0), some (.int y5), some (.int z1)]) rfl ?_
            refine a_goto C dX9_wordAt_48 (tgt := 85) rfl ?_
            refine AW.sub (vs' := [some (.ref (ad 2)), some (.int y1), some (.int y2), some (.int z3), some (.int 0), some (.int y5), none]) (lsub_of (by simp [lsubB])) ?_
            exact j85 (f_X9_wordAt_8 n) (fun y1 y2 y3 y4 y5 σ h => ih y1 y2 y3 y4 y5 σ h) _ _ _ _ _ _ h
          ·
            refine a_iload_n C dX9_wordAt_40 (i := 3) rfl rfl ?_
            exact a_iret Rt dX9_wordAt_41 rfl (ret_eq (h.trans (congrArg some hR.symm)))
  refine a_iconst C dX9_wordAt_0 (v := 0) rfl ?_
  refine a_istore_n C dX9_wordAt_1 (i := 3) rfl (by decide) rfl (vs1 := [some (.ref (ad 2)), some (.int x1), some (.int x2), some (.int 0), none, none, none]) rfl ?_
  refine a_iconst C dX9_wordAt_2 (v := 0) rfl ?_
  refine a_istore C dX9_wordAt_3 (by decide) rfl (vs1 := [some (.ref (ad 2)), some (.int x1), some (.int x2), some (.int 0), some (.int 0), none, none]) rfl ?_
  refine a_iconst C dX9_wordAt_5 (v := 0) rfl ?_
  refine a_istore C dX9_wordAt_6 (by decide) rfl (vs1 := [some (.ref (ad 2)), some (.int x1), some (.int x2), some (.int 0), some (.int 0), some (.int 0), none]) rfl ?_
  exact j8 _ _ _ _ _ _ _ h
set_option maxHeartbeats 4000000 in
set_option maxRecDepth 100000 in
theorem Z_X9_cutWord {l : Launch} {D : va_G} {ids : List Nat} {ad : Nat → Nat} {ca : Nat → ClassId} {K : (Nat → Nat) × (Nat → Nat)} {σ : HS} {x1 : Int32} {r0 : Int32} {s0 : HS} (hid : ∀ i, i < 277 → i ∈ ids) (h : f_X9_cutWord x1 σ = some (r0, s0)) : KiS l D ids ad ca K yX9_cutWord cX9_cutWord 6 .int 5 117 [.ref (ad 2), .int x1] σ (fun r σ1 => r = r0 ∧ σ1 = s0) := by
  obtain ⟨R, hR⟩ : ∃ R, (r0, s0) = R := ⟨_, rfl⟩
  replace h := h.trans (congrArg some hR)
  refine KiS.of (by decide) (Nat.le_of_ble_eq_true rfl) 4 (fun Γ C E Rt => ?_)
  show AW ids ad ca Γ 0 [some (.ref (ad 2)), some (.int x1), none, none, none, none] [] σ
  unfold f_X9_cutWord at h
  have j68 : ∀ (y1 : Int32) (y2 : Int32) (y3 : Int64) (σ : HS), f_X9_cutWord_68 y1 y2 y3 σ = some R → AW ids ad ca Γ 68 [some (.ref (ad 2)), some (.int y1), some (.int y2), some (.long y3), none, none] [] σ := by
    intro y1 y2 y3 σ h
    unfold f_X9_cutWord_68 at h
    refine a_aload_n C dX9_cutWord_68 (i := 0) rfl rfl ?_
    refine a_get C fl_RX9_21 (i := 2) kd_2 (hid 2 (by decide)) (v := .ref (ad 6)) rfl dX9_cutWord_69 ?_
    refine a_iload_n C dX9_cutWord_72 (i := 1) rfl rfl ?_
    refine a_lload_n C dX9_cutWord_73 (i := 3) rfl rfl ?_
    refine p_last C (i := 6) kd_6 (hid 6 (by decide)) (by rw [al_6]; rfl) dX9_cutWord_74 h (fun σ1 h => ?_)
    refine a_aload_n C dX9_cutWord_75 (i := 0) rfl rfl ?_
    refine a_iload_n C dX9_cutWord_76 (i := 2) rfl rfl ?_
    refine a_aload_n C dX9_cutWord_77 (i := 0) rfl rfl ?_
    refine a_get C fl_RX9_29 (i := 2) kd_2 (hid 2 (by decide)) (v := .int (σ1.1 2 5)) rfl dX9_cutWord_78 ?_
    refine a_iload_n C dX9_cutWord_81 (i := 2) rfl rfl ?_
    refine a_isub C dX9_cutWord_82 ?_
    refine p_cViS C E (As := [.int y2, .int ((σ1.1 2 5) - y2)]) (i := 2) kd_2 (hid 2 (by decide)) ⟨_, _, rfl⟩ (by decide) h (fun _ _ e => Z_X9_wordAt hid e) mi_X9_wordAt ml_RX9_61 rfl rfl (Nat.le_of_ble_eq_true rfl) (Nat.le_of_ble_eq_true rfl) (Nat.le_of_ble_eq_true rfl) dX9_cutWord_83 (fun r3 σ2 h => ?_)
    refine a_istore C dX9_cutWord_86 (by decide) rfl (vs1 := [some (.ref (ad 2)), some (.int y1), some (.int y2), some (.long y3), none, some (.int r3)]) rfl ?_
    refine a_iload C dX9_cutWord_88 rfl ?_
    refine a_iconst C dX9_cutWord_90 (v := (-1)) rfl ?_
    refine p_ic_eq C (X := r3.toInt) (Y := (-1)) rfl (by decide) dX9_cutWord_91 (tgt := 97) rfl h (fun h => ?_) (fun h => ?_)
    ·
      refine a_aload_n C dX9_cutWord_97 (i := 0) rfl rfl ?_
      refine a_get C fl_RX9_29 (i := 2) kd_2 (hid 2 (by decide)) (v := .int (σ2.1 2 5)) rfl dX9_cutWord_98 ?_
      refine a_iload_n C dX9_cutWord_101 (i := 2) rfl rfl ?_
      refine a_isub C dX9_cutWord_102 ?_
      refine a_bipush C dX9_cutWord_103 (v := 8) rfl ?_
      refine p_ic_gt C (X := ((σ2.1 2 5) - y2).toInt) (Y := 8) rfl (by decide) dX9_cutWord_105 (tgt := 113) rfl h (fun h => ?_) (fun h => ?_)
      ·
        refine a_bipush C dX9_cutWord_113 (v := 23) rfl ?_
        exact a_iret Rt dX9_cutWord_115 rfl (ret_eq (h.trans (congrArg some hR.symm)))
      ·
        refine a_bipush C dX9_cutWord_108 (v := 20) rfl ?_
        refine a_goto C dX9_cutWord_110 (tgt := 115) rfl ?_
        exact a_iret Rt dX9_cutWord_115 rfl (ret_eq (h.trans (congrArg some hR.symm)))
    ·
      refine a_iload C dX9_cutWord_94 rfl ?_
      exact a_iret Rt dX9_cutWord_96 rfl (ret_eq (h.trans (congrArg some hR.symm)))
  have j7 : ∀ (n : Nat) (y1 : Int32) (y2 : Int32) (y3 : Int64) (σ : HS), f_X9_cutWord_7 n y1 y2 y3 σ = some R → AW ids ad ca Γ 7 [some (.ref (ad 2)), some (.int y1), some (.int y2), some (.long y3), none, none] [] σ := by
    intro n
    induction n with
    | zero => intro y1 y2 y3 σ h; exact nn h
    | succ n ih =>
      intro y1 y2 y3 σ h
      have h : b_X9_cutWord_7 (f_X9_cutWord_7 n) y1 y2 y3 σ = some R := h
      unfold b_X9_cutWord_7 at h
      refine a_aload_n C dX9_cutWord_7 (i := 0) rfl rfl ?_
      refine a_get C fl_RX9_29 (i := 2) kd_2 (hid 2 (by decide)) (v := .int (σ.1 2 5)) rfl dX9_cutWord_8 ?_
      refine a_aload_n C dX9_cutWord_11 (i := 0) rfl rfl ?_
      refine a_get C fl_RX9_25 (i := 2) kd_2 (hid 2 (by decide)) (v := .int (σ.1 2 1)) rfl dX9_cutWord_12 ?_
      refine p_ic_ge C (X := (σ.1 2 5).toInt) (Y := (σ.1 2 1).toInt) rfl rfl dX9_cutWord_15 (tgt := 68) rfl h (fun h => ?_) (fun h => ?_)
      ·
        exact j68 _ _ _ _ h
      ·
        refine a_aload_n C dX9_cutWord_18 (i := 0) rfl rfl ?_
        refine a_get C fl_RX9_9 (i := 2) kd_2 (hid 2 (by decide)) (v := .ref (ad 3)) rfl dX9_cutWord_19 ?_
        refine a_aload_n C dX9_cutWord_22 (i := 0) rfl rfl ?_
        refine a_get C fl_RX9_29 (i := 2) kd_2 (hid 2 (by decide)) (v := .int (σ.1 2 5)) rfl dX9_cutWord_23 ?_
        refine p_iald C (i := 3) (show rowOK 3 from ⟨kd_3, by decide⟩) hid (by rw [al_3]; rfl) dX9_cutWord_26 h (fun h => ?_)
        refine p_callSi C (As := [.int (σ.1 3 (σ.1 2 5).toInt.toNat)]) h (fun _ _ e => Z_X9_isLetter hid e) ms_X9_isLetter ml_RX9_40 rfl rfl (Nat.le_of_ble_eq_true rfl) (Nat.le_of_ble_eq_true rfl) (Nat.le_of_ble_eq_true rfl) dX9_cutWord_27 (fun r2 σ1 h => ?_)
        refine p_if_eq C (X := r2.toInt) rfl dX9_cutWord_30 (tgt := 68) rfl h (fun h => ?_) (fun h => ?_)
        ·
          exact j68 _ _ _ _ h
        ·
          refine a_lload_n C dX9_cutWord_33 (i := 3) rfl rfl ?_
          refine a_ldc2 C dX9_cutWord_34 ko_RX9_59 ?_
          refine a_lmul C dX9_cutWord_37 ?_
          refine a_aload_n C dX9_cutWord_38 (i := 0) rfl rfl ?_
          refine a_get C fl_RX9_9 (i := 2) kd_2 (hid 2 (by decide)) (v := .ref (ad 3)) rfl dX9_cutWord_39 ?_
          refine a_aload_n C dX9_cutWord_42 (i := 0) rfl rfl ?_
          refine a_get C fl_RX9_29 (i := 2) kd_2 (hid 2 (by decide)) (v := .int (σ1.1 2 5)) rfl dX9_cutWord_43 ?_
          refine p_iald C (i := 3) (show rowOK 3 from ⟨kd_3, by decide⟩) hid (by rw [al_3]; rfl) dX9_cutWord_46 h (fun h => ?_)
          refine a_bipush C dX9_cutWord_47 (v := 97) rfl ?_
          refine a_isub C dX9_cutWord_49 ?_
          refine a_iconst C dX9_cutWord_50 (v := 1) rfl ?_
          refine a_iadd C dX9_cutWord_51 ?_
          refine a_i2l C dX9_cutWord_52 ?_
          refine a_ladd C dX9_cutWord_53 ?_
          refine p_lstore_n C (fun z3 => [some (.ref (ad 2)), some (.int y1), some (.int y2), some (.long z3), none, none]) dX9_cutWord_54 (i := 3) rfl (by decide) rfl (fun _ => rfl) h (fun z3 h => ?_)
          refine a_aload_n C dX9_cutWord_55 (i := 0) rfl rfl ?_
          refine a_dup C dX9_cutWord_56 rfl ?_
          refine a_get C fl_RX9_29 (i := 2) kd_2 (hid 2 (by decide)) (v := .int (σ1.1 2 5)) rfl dX9_cutWord_57 ?_
          refine a_iconst C dX9_cutWord_60 (v := 1) rfl ?_
          refine a_iadd C dX9_cutWord_61 ?_
          refine p_put C fp_RX9_29 (i := 2) kd_2 (hid 2 (by decide)) rfl rfl dX9_cutWord_62 h (fun σ4 h => ?_)
          refine a_goto C dX9_cutWord_65 (tgt := 7) rfl ?_
          exact ih _ _ _ _ h
  refine a_aload_n C dX9_cutWord_0 (i := 0) rfl rfl ?_
  refine a_get C fl_RX9_29 (i := 2) kd_2 (hid 2 (by decide)) (v := .int (σ.1 2 5)) rfl dX9_cutWord_1 ?_
  refine p_istore_n C (fun z1 => [some (.ref (ad 2)), some (.int x1), some (.int z1), none, none, none]) dX9_cutWord_4 (i := 2) rfl (by decide) rfl (fun _ => rfl) h (fun z1 h => ?_)
  refine a_lconst C dX9_cutWord_5 (v := 0) rfl ?_
  refine a_lstore_n C dX9_cutWord_6 (i := 3) rfl (by decide) rfl (vs1 := [some (.ref (ad 2)), some (.int x1), some (.int z1), some (.long 0), none, none]) rfl ?_
  exact j7 _ _ _ _ _ h
set_option maxHeartbeats 4000000 in
set_option maxRecDepth 100000 in
theorem Z_X9_cutOne {l : Launch} {D : va_G} {ids : List Nat} {ad : Nat → Nat} {ca : Nat → ClassId} {K : (Nat → Nat) × (Nat → Nat)} {σ : HS} {x1 : Int32} {r0 : Int32} {s0 : HS} (hid : ∀ i, i < 277 → i ∈ ids) (h : f_X9_cutOne x1 σ = some (r0, s0)) : KiS l D ids ad ca K yX9_cutOne cX9_cutOne 3 .int 6 142 [.ref (ad 2), .int x1] σ (fun r σ1 => r = r0 ∧ σ1 = s0) := by
  obtain ⟨R, hR⟩ : ∃ R, (r0, s0) = R := ⟨_, rfl⟩
  replace h := h.trans (congrArg some hR)
  refine KiS.of (by decide) (Nat.le_of_ble_eq_true rfl) 1 (fun Γ C E Rt => ?_)
  show AW ids ad ca Γ 0 [some (.ref (ad 2)), some (.int x1), none] [] σ
  unfold f_X9_cutOne at h
  refine a_aload_n C dX9_cutOne_0 (i := 0) rfl rfl ?_
  refine a_get C fl_RX9_29 (i := 2) kd_2 (hid 2 (by decide)) (v := .int (σ.1 2 5)) rfl dX9_cutOne_1 ?_
  refine a_aload_n C dX9_cutOne_4 (i := 0) rfl rfl ?_
  refine a_get C fl_RX9_25 (i := 2) kd_2 (hid 2 (by decide)) (v := .int (σ.1 2 1)) rfl dX9_cutOne_5 ?_
  refine p_ic_lt C (X := (σ.1 2 5).toInt) (Y := (σ.1 2 1).toInt) rfl rfl dX9_cutOne_8 (tgt := 14) rfl h (fun h => ?_) (fun h => ?_)
  ·
    refine a_aload_n C dX9_cutOne_14 (i := 0) rfl rfl ?_
    refine a_get C fl_RX9_9 (i := 2) kd_2 (hid 2 (by decide)) (v := .ref (ad 3)) rfl dX9_cutOne_15 ?_
    refine a_aload_n C dX9_cutOne_18 (i := 0) rfl rfl ?_
    refine a_get C fl_RX9_29 (i := 2) kd_2 (hid 2 (by decide)) (v := .int (σ.1 2 5)) rfl dX9_cutOne_19 ?_
    refine p_iald C (i := 3) (show rowOK 3 from ⟨kd_3, by decide⟩) hid (by rw [al_3]; rfl) dX9_cutOne_22 h (fun h => ?_)
    refine p_callSi C (As := [.int (σ.1 3 (σ.1 2 5).toInt.toNat)]) h (fun _ _ e => Z_X9_isLetter hid e) ms_X9_isLetter ml_RX9_40 rfl rfl (Nat.le_of_ble_eq_true rfl) (Nat.le_of_ble_eq_true rfl) (Nat.le_of_ble_eq_true rfl) dX9_cutOne_23 (fun r2 σ1 h => ?_)
    refine p_if_eq C (X := r2.toInt) rfl dX9_cutOne_26 (tgt := 35) rfl h (fun h => ?_) (fun h => ?_)
    ·
      refine a_aload_n C dX9_cutOne_35 (i := 0) rfl rfl ?_
      refine a_get C fl_RX9_9 (i := 2) kd_2 (hid 2 (by decide)) (v := .ref (ad 3)) rfl dX9_cutOne_36 ?_
      refine a_aload_n C dX9_cutOne_39 (i := 0) rfl rfl ?_
      refine a_get C fl_RX9_29 (i := 2) kd_2 (hid 2 (by decide)) (v := .int (σ1.1 2 5)) rfl dX9_cutOne_40 ?_
      refine p_iald C (i := 3) (show rowOK 3 from ⟨kd_3, by decide⟩) hid (by rw [al_3]; rfl) dX9_cutOne_43 h (fun h => ?_)
      refine p_callSi C (As := [.int (σ1.1 3 (σ1.1 2 5).toInt.toNat)]) h (fun _ _ e => Z_X9_isDigit hid e) ms_X9_isDigit ml_RX9_46 rfl rfl (Nat.le_of_ble_eq_true rfl) (Nat.le_of_ble_eq_true rfl) (Nat.le_of_ble_eq_true rfl) dX9_cutOne_44 (fun r4 σ3 h => ?_)
      refine p_if_eq C (X := r4.toInt) rfl dX9_cutOne_47 (tgt := 56) rfl h (fun h => ?_) (fun h => ?_)
      ·
        refine a_aload_n C dX9_cutOne_56 (i := 0) rfl rfl ?_
        refine a_get C fl_RX9_9 (i := 2) kd_2 (hid 2 (by decide)) (v := .ref (ad 3)) rfl dX9_cutOne_57 ?_
        refine a_aload_n C dX9_cutOne_60 (i := 0) rfl rfl ?_
        refine a_get C fl_RX9_29 (i := 2) kd_2 (hid 2 (by decide)) (v := .int (σ3.1 2 5)) rfl dX9_cutOne_61 ?_
        refine p_iald C (i := 3) (show rowOK 3 from ⟨kd_3, by decide⟩) hid (by rw [al_3]; rfl) dX9_cutOne_64 h (fun h => ?_)
        refine p_istore_n C (fun z5 => [some (.ref (ad 2)), some (.int x1), some (.int z5)]) dX9_cutOne_65 (i := 2) rfl (by decide) rfl (fun _ => rfl) h (fun z5 h => ?_)
        refine a_aload_n C dX9_cutOne_66 (i := 0) rfl rfl ?_
        refine a_dup C dX9_cutOne_67 rfl ?_
        refine a_get C fl_RX9_29 (i := 2) kd_2 (hid 2 (by decide)) (v := .int (σ3.1 2 5)) rfl dX9_cutOne_68 ?_
        refine a_iconst C dX9_cutOne_71 (v := 1) rfl ?_
        refine a_iadd C dX9_cutOne_72 ?_
        refine p_put C fp_RX9_29 (i := 2) kd_2 (hid 2 (by decide)) rfl rfl dX9_cutOne_73 h (fun σ6 h => ?_)
        refine a_ldcG C E rfl dX9_cutOne_76 ?_
        refine a_iload_n C dX9_cutOne_78 (i := 2) rfl rfl ?_
        refine a_i2c C dX9_cutOne_79 ?_
        refine p_cTiS C E (As := [.int ((z5.toUInt32 % 65536).toInt32)]) (i := 1) (by decide) rfl h (fun _ _ e => Z_J0_indexOf_0f7a4 hid e) mi_J0_indexOf_0f7a4 ml_RX9_54 rfl rfl (Nat.le_of_ble_eq_true rfl) (Nat.le_of_ble_eq_true rfl) (Nat.le_of_ble_eq_true rfl) dX9_cutOne_80 (fun r8 σ7 h => ?_)
        refine p_if_lt C (X := r8.toInt) rfl dX9_cutOne_83 (tgt := 90) rfl h (fun h => ?_) (fun h => ?_)
        ·
          refine a_bipush C dX9_cutOne_90 (v := 23) rfl ?_
          exact a_iret Rt dX9_cutOne_92 rfl (ret_eq (h.trans (congrArg some hR.symm)))
        ·
          refine a_iload_n C dX9_cutOne_86 (i := 2) rfl rfl ?_
          refine a_goto C dX9_cutOne_87 (tgt := 92) rfl ?_
          exact a_iret Rt dX9_cutOne_92 rfl (ret_eq (h.trans (congrArg some hR.symm)))
      ·
        refine a_aload_n C dX9_cutOne_50 (i := 0) rfl rfl ?_
        refine a_iload_n C dX9_cutOne_51 (i := 1) rfl rfl ?_
        refine p_callVi C (As := [.int x1]) (i := 2) kd_2 (hid 2 (by decide)) ⟨_, _, rfl⟩ (by decide) h (fun _ _ e => Z_X9_cutInt hid e) mi_X9_cutInt ml_RX9_49 rfl rfl (Nat.le_of_ble_eq_true rfl) (Nat.le_of_ble_eq_true rfl) (Nat.le_of_ble_eq_true rfl) dX9_cutOne_52 (fun r10 σ9 h => ?_)
        exact a_iret Rt dX9_cutOne_55 rfl (ret_eq (h.trans (congrArg some hR.symm)))
    ·
      refine a_aload_n C dX9_cutOne_29 (i := 0) rfl rfl ?_
      refine a_iload_n C dX9_cutOne_30 (i := 1) rfl rfl ?_
      refine p_cViS C E (As := [.int x1]) (i := 2) kd_2 (hid 2 (by decide)) ⟨_, _, rfl⟩ (by decide) h (fun _ _ e => Z_X9_cutWord hid e) mi_X9_cutWord ml_RX9_43 rfl rfl (Nat.le_of_ble_eq_true rfl) (Nat.le_of_ble_eq_true rfl) (Nat.le_of_ble_eq_true rfl) dX9_cutOne_31 (fun r12 σ11 h => ?_)
      exact a_iret Rt dX9_cutOne_34 rfl (ret_eq (h.trans (congrArg some hR.symm)))
  ·
    refine a_bipush C dX9_cutOne_11 (v := 22) rfl ?_
    exact a_iret Rt dX9_cutOne_13 rfl (ret_eq (h.trans (congrArg some hR.symm)))
set_option maxHeartbeats 4000000 in
set_option maxRecDepth 100000 in
theorem Z_X9_isBlank {l : Launch} {D : va_G} {ids : List Nat} {ad : Nat → Nat} {ca : Nat → ClassId} {σ : HS} {x1 : Int32} {r0 : Int32} {s0 : HS} (hid : ∀ i, i < 277 → i ∈ ids) (h : f_X9_isBlank x1 σ = some (r0, s0)) : Ki l D ids ad ca yX9_isBlank cX9_isBlank 1 .boolean 0 0 [.int x1] σ (fun r σ1 => r = r0 ∧ σ1 = s0) := by
  obtain ⟨R, hR⟩ : ∃ R, (r0, s0) = R := ⟨_, rfl⟩
  replace h := h.trans (congrArg some hR)
  refine Ki.of (by decide) (Nat.le_of_ble_eq_true rfl) 0 (fun Γ C Rt => ?_)
  show AW ids ad ca Γ 0 [some (.int x1)] [] σ
  unfold f_X9_isBlank at h
  have j24 : ∀ (σ : HS), f_X9_isBlank_24 σ = some R → AW ids ad ca Γ 24 [none] [] σ := by
    intro σ h
    unfold f_X9_isBlank_24 at h
    refine a_iconst C dX9_isBlank_24 (v := 1) rfl ?_
    refine a_goto C dX9_isBlank_25 (tgt := 29) rfl ?_
    exact a_iret Rt dX9_isBlank_29 (nar_z (by decide)).1 (ret_eq (h.trans (congrArg some hR.symm)))
  refine a_iload_n C dX9_isBlank_0 (i := 0) rfl rfl ?_
  refine a_bipush C dX9_isBlank_1 (v := 9) rfl ?_
  refine p_ic_eq C (X := x1.toInt) (Y := 9) rfl (by decide) dX9_isBlank_3 (tgt := 24) rfl h (fun h => ?_) (fun h => ?_)
  ·
    refine AW.sub (vs' := [none]) (lsub_of (by simp [lsubB])) ?_
    exact j24 _ h
  ·
    refine a_iload_n C dX9_isBlank_6 (i := 0) rfl rfl ?_
    refine a_bipush C dX9_isBlank_7 (v := 10) rfl ?_
    refine p_ic_eq C (X := x1.toInt) (Y := 10) rfl (by decide) dX9_isBlank_9 (tgt := 24) rfl h (fun h => ?_) (fun h => ?_)
    ·
      refine AW.sub (vs' := [none]) (lsub_of (by simp [lsubB])) ?_
      exact j24 _ h
    ·
      refine a_iload_n C dX9_isBlank_12 (i := 0) rfl rfl ?_
      refine a_bipush C dX9_isBlank_13 (v := 13) rfl ?_
      refine p_ic_eq C (X := x1.toInt) (Y := 13) rfl (by decide) dX9_isBlank_15 (tgt := 24) rfl h (fun h => ?_) (fun h => ?_)
      ·
        refine AW.sub (vs' := [none]) (lsub_of (by simp [lsubB])) ?_
        exact j24 _ h
      ·
        refine a_iload_n C dX9_isBlank_18 (i := 0) rfl rfl ?_
        refine a_bipush C dX9_isBlank_19 (v := 32) rfl ?_
        refine p_ic_ne C (X := x1.toInt) (Y := 32) rfl (by decide) dX9_isBlank_21 (tgt := 28) rfl h (fun h => ?_) (fun h => ?_)
        ·
          refine a_iconst C dX9_isBlank_28 (v := 0) rfl ?_
          exact a_iret Rt dX9_isBlank_29 (nar_z (by decide)).1 (ret_eq (h.trans (congrArg some hR.symm)))
        ·
          refine AW.sub (vs' := [none]) (lsub_of (by simp [lsubB])) ?_
          exact j24 _ h
set_option maxHeartbeats 4000000 in
set_option maxRecDepth 100000 in
theorem Z_X9_cut {l : Launch} {D : va_G} {ids : List Nat} {ad : Nat → Nat} {ca : Nat → ClassId} {K : (Nat → Nat) × (Nat → Nat)} {σ : HS} {s0 : HS} (hid : ∀ i, i < 277 → i ∈ ids) (h : f_X9_cut σ = some s0) : KvS l D ids ad ca K yX9_cut cX9_cut 3 7 164 [.ref (ad 2)] σ (fun σ1 => σ1 = s0) := by
  obtain ⟨R, hR⟩ : ∃ R, s0 = R := ⟨_, rfl⟩
  replace h := h.trans (congrArg some hR)
  refine KvS.of (by decide) (Nat.le_of_ble_eq_true rfl) 2 (fun Γ C E Rt => ?_)
  show AW ids ad ca Γ 0 [some (.ref (ad 2)), none, none] [] σ
  unfold f_X9_cut at h
  have j67 : ∀ (k9 : Int32 → Int32 → HS → Option (HS)) (hk9 : ∀ (y1 : Int32) (y2 : Int32) (σ : HS), k9 y1 y2 σ = some R → AW ids ad ca Γ 9 [some (.ref (ad 2)), some (.int y1), some (.int y2)] [] σ) (y2 : Int32) (σ : HS), f_X9_cut_67 k9 y2 σ = some R → AW ids ad ca Γ 67 [some (.ref (ad 2)), none, some (.int y2)] [] σ := by
    intro k9 hk9 y2 σ h
    unfold f_X9_cut_67 at h
    refine a_aload_n C dX9_cut_67 (i := 0) rfl rfl ?_
    refine a_get C fl_RX9_18 (i := 2) kd_2 (hid 2 (by decide)) (v := .ref (ad 5)) rfl dX9_cut_68 ?_
    refine a_iload_n C dX9_cut_71 (i := 2) rfl rfl ?_
    refine a_aload_n C dX9_cut_72 (i := 0) rfl rfl ?_
    refine a_get C fl_RX9_29 (i := 2) kd_2 (hid 2 (by decide)) (v := .int (σ.1 2 5)) rfl dX9_cut_73 ?_
    refine p_iast C (i := 5) (show rowOK 5 from ⟨kd_5, by decide⟩) hid (by rw [al_5]; rfl) dX9_cut_76 h (fun σ1 h => ?_)
    refine a_aload_n C dX9_cut_77 (i := 0) rfl rfl ?_
    refine a_iload_n C dX9_cut_78 (i := 2) rfl rfl ?_
    refine p_cViS C E (As := [.int y2]) (i := 2) kd_2 (hid 2 (by decide)) ⟨_, _, rfl⟩ (by decide) h (fun _ _ e => Z_X9_cutOne hid e) mi_X9_cutOne ml_RX9_36 rfl rfl (Nat.le_of_ble_eq_true rfl) (Nat.le_of_ble_eq_true rfl) (Nat.le_of_ble_eq_true rfl) dX9_cut_79 (fun r3 σ2 h => ?_)
    refine a_istore_n C dX9_cut_82 (i := 1) rfl (by decide) rfl (vs1 := [some (.ref (ad 2)), some (.int r3), some (.int y2)]) rfl ?_
    refine a_aload_n C dX9_cut_83 (i := 0) rfl rfl ?_
    refine a_get C fl_RX9_15 (i := 2) kd_2 (hid 2 (by decide)) (v := .ref (ad 4)) rfl dX9_cut_84 ?_
    refine a_iload_n C dX9_cut_87 (i := 2) rfl rfl ?_
    refine a_iload_n C dX9_cut_88 (i := 1) rfl rfl ?_
    refine p_iast C (i := 4) (show rowOK 4 from ⟨kd_4, by decide⟩) hid (by rw [al_4]; rfl) dX9_cut_89 h (fun σ4 h => ?_)
    refine p_iinc C (y := (y2 + 1)) (fun z5 => [some (.ref (ad 2)), some (.int r3), some (.int z5)]) dX9_cut_90 rfl rfl (by decide) rfl (fun _ => rfl) h (fun z5 h => ?_)
    refine a_goto C dX9_cut_93 (tgt := 9) rfl ?_
    exact hk9 _ _ _ h
  have j28 : ∀ (k9 : Int32 → Int32 → HS → Option (HS)) (hk9 : ∀ (y1 : Int32) (y2 : Int32) (σ : HS), k9 y1 y2 σ = some R → AW ids ad ca Γ 9 [some (.ref (ad 2)), some (.int y1), some (.int y2)] [] σ) (n : Nat) (y2 : Int32) (σ : HS), f_X9_cut_28 k9 n y2 σ = some R → AW ids ad ca Γ 28 [some (.ref (ad 2)), none, some (.int y2)] [] σ := by
    intro k9 hk9 n
    induction n with
    | zero => intro y2 σ h; exact nn h
    | succ n ih =>
      intro y2 σ h
      have h : b_X9_cut_28 k9 (f_X9_cut_28 k9 n) y2 σ = some R := h
      unfold b_X9_cut_28 at h
      refine a_aload_n C dX9_cut_28 (i := 0) rfl rfl ?_
      refine a_get C fl_RX9_29 (i := 2) kd_2 (hid 2 (by decide)) (v := .int (σ.1 2 5)) rfl dX9_cut_29 ?_
      refine a_aload_n C dX9_cut_32 (i := 0) rfl rfl ?_
      refine a_get C fl_RX9_25 (i := 2) kd_2 (hid 2 (by decide)) (v := .int (σ.1 2 1)) rfl dX9_cut_33 ?_
      refine p_ic_ge C (X := (σ.1 2 5).toInt) (Y := (σ.1 2 1).toInt) rfl rfl dX9_cut_36 (tgt := 67) rfl h (fun h => ?_) (fun h => ?_)
      ·
        exact j67 k9 hk9 _ _ h
      ·
        refine a_aload_n C dX9_cut_39 (i := 0) rfl rfl ?_
        refine a_get C fl_RX9_9 (i := 2) kd_2 (hid 2 (by decide)) (v := .ref (ad 3)) rfl dX9_cut_40 ?_
        refine a_aload_n C dX9_cut_43 (i := 0) rfl rfl ?_
        refine a_get C fl_RX9_29 (i := 2) kd_2 (hid 2 (by decide)) (v := .int (σ.1 2 5)) rfl dX9_cut_44 ?_
        refine p_iald C (i := 3) (show rowOK 3 from ⟨kd_3, by decide⟩) hid (by rw [al_3]; rfl) dX9_cut_47 h (fun h => ?_)
        refine p_callSi C (As := [.int (σ.1 3 (σ.1 2 5).toInt.toNat)]) h (fun _ _ e => Z_X9_isBlank hid e) ms_X9_isBlank ml_RX9_32 rfl rfl (Nat.le_of_ble_eq_true rfl) (Nat.le_of_ble_eq_true rfl) (Nat.le_of_ble_eq_true rfl) dX9_cut_48 (fun r2 σ1 h => ?_)
        refine p_if_eq C (X := r2.toInt) rfl dX9_cut_51 (tgt := 67) rfl h (fun h => ?_) (fun h => ?_)
        ·
          exact j67 k9 hk9 _ _ h
        ·
          refine a_aload_n C dX9_cut_54 (i := 0) rfl rfl ?_
          refine a_dup C dX9_cut_55 rfl ?_
          refine a_get C fl_RX9_29 (i := 2) kd_2 (hid 2 (by decide)) (v := .int (σ1.1 2 5)) rfl dX9_cut_56 ?_
          refine a_iconst C dX9_cut_59 (v := 1) rfl ?_
          refine a_iadd C dX9_cut_60 ?_
          refine p_put C fp_RX9_29 (i := 2) kd_2 (hid 2 (by decide)) rfl rfl dX9_cut_61 h (fun σ3 h => ?_)
          refine a_goto C dX9_cut_64 (tgt := 28) rfl ?_
          exact ih _ _ h
  have j9 : ∀ (n : Nat) (y1 : Int32) (y2 : Int32) (σ : HS), f_X9_cut_9 n y1 y2 σ = some R → AW ids ad ca Γ 9 [some (.ref (ad 2)), some (.int y1), some (.int y2)] [] σ := by
    intro n
    induction n with
    | zero => intro y1 y2 σ h; exact nn h
    | succ n ih =>
      intro y1 y2 σ h
      have h : b_X9_cut_9 (f_X9_cut_9 n) y1 y2 σ = some R := h
      unfold b_X9_cut_9 at h
      refine a_iload_n C dX9_cut_9 (i := 2) rfl rfl ?_
      refine a_sipush C dX9_cut_10 (v := 400) rfl ?_
      refine p_ic_gt C (X := y2.toInt) (Y := 400) rfl (by decide) dX9_cut_13 (tgt := 96) rfl h (fun h => ?_) (fun h => ?_)
      ·
        exact a_vret Rt dX9_cut_96 (retv_eq (h.trans (congrArg some hR.symm)))
      ·
        refine a_iload_n C dX9_cut_16 (i := 1) rfl rfl ?_
        refine a_bipush C dX9_cut_17 (v := 22) rfl ?_
        refine p_ic_eq C (X := y1.toInt) (Y := 22) rfl (by decide) dX9_cut_19 (tgt := 96) rfl h (fun h => ?_) (fun h => ?_)
        ·
          exact a_vret Rt dX9_cut_96 (retv_eq (h.trans (congrArg some hR.symm)))
        ·
          refine a_iload_n C dX9_cut_22 (i := 1) rfl rfl ?_
          refine a_bipush C dX9_cut_23 (v := 23) rfl ?_
          refine p_ic_eq C (X := y1.toInt) (Y := 23) rfl (by decide) dX9_cut_25 (tgt := 96) rfl h (fun h => ?_) (fun h => ?_)
          ·
            exact a_vret Rt dX9_cut_96 (retv_eq (h.trans (congrArg some hR.symm)))
          ·
            refine AW.sub (vs' := [some (.ref (ad 2)), none, some (.int y2)]) (lsub_of (by simp [lsubB])) ?_
            exact j28 (f_X9_cut_9 n) (fun y1 y2 σ h => ih y1 y2 σ h) _ _ _ h
  refine a_aload_n C dX9_cut_0 (i := 0) rfl rfl ?_
  refine a_iconst C dX9_cut_1 (v := 0) rfl ?_
  refine p_put C fp_RX9_29 (i := 2) kd_2 (hid 2 (by decide)) rfl rfl dX9_cut_2 h (fun σ1 h => ?_)
  refine a_iconst C dX9_cut_5 (v := (-1)) rfl ?_
  refine a_istore_n C dX9_cut_6 (i := 1) rfl (by decide) rfl (vs1 := [some (.ref (ad 2)), some (.int (-1)), none]) rfl ?_
  refine a_iconst C dX9_cut_7 (v := 0) rfl ?_
  refine a_istore_n C dX9_cut_8 (i := 2) rfl (by decide) rfl (vs1 := [some (.ref (ad 2)), some (.int (-1)), some (.int 0)]) rfl ?_
  exact j9 _ _ _ _ h
set_option maxHeartbeats 4000000 in
set_option maxRecDepth 100000 in
theorem Z_X6_refuse {l : Launch} {D : va_G} {ids : List Nat} {ad : Nat → Nat} {ca : Nat → ClassId} {σ : HS} {x1 : Int32} {r0 : Int32} {s0 : HS} (hid : ∀ i, i < 277 → i ∈ ids) (h : f_X6_refuse x1 σ = some (r0, s0)) : Ki l D ids ad ca yX6_refuse cX6_refuse 2 .boolean 0 0 [.ref (ad 1), .int x1] σ (fun r σ1 => r = r0 ∧ σ1 = s0) := by
  obtain ⟨R, hR⟩ : ∃ R, (r0, s0) = R := ⟨_, rfl⟩
  replace h := h.trans (congrArg some hR)
  refine Ki.of (by decide) (Nat.le_of_ble_eq_true rfl) 0 (fun Γ C Rt => ?_)
  show AW ids ad ca Γ 0 [some (.ref (ad 1)), some (.int x1)] [] σ
  unfold f_X6_refuse at h
  refine a_aload_n C dX6_refuse_0 (i := 0) rfl rfl ?_
  refine a_iload_n C dX6_refuse_1 (i := 1) rfl rfl ?_
  refine p_put C fp_RX6_34 (i := 1) kd_1 (hid 1 (by decide)) rfl rfl dX6_refuse_2 h (fun σ1 h => ?_)
  refine a_aload_n C dX6_refuse_5 (i := 0) rfl rfl ?_
  refine a_aload_n C dX6_refuse_6 (i := 0) rfl rfl ?_
  refine a_get C fl_RX6_12 (i := 1) kd_1 (hid 1 (by decide)) (v := .ref (ad 2)) rfl dX6_refuse_7 ?_
  refine a_get C fl_RX6_70 (i := 2) kd_2 (hid 2 (by decide)) (v := .ref (ad 5)) rfl dX6_refuse_10 ?_
  refine a_aload_n C dX6_refuse_13 (i := 0) rfl rfl ?_
  refine a_get C fl_RX6_46 (i := 1) kd_1 (hid 1 (by decide)) (v := .int (σ1.1 1 5)) rfl dX6_refuse_14 ?_
  refine p_iald C (i := 5) (show rowOK 5 from ⟨kd_5, by decide⟩) hid (by rw [al_5]; rfl) dX6_refuse_17 h (fun h => ?_)
  refine p_put C fp_RX6_18 (i := 1) kd_1 (hid 1 (by decide)) rfl rfl dX6_refuse_18 h (fun σ2 h => ?_)
  refine a_iconst C dX6_refuse_21 (v := 0) rfl ?_
  exact a_iret Rt dX6_refuse_22 (nar_z (by decide)).1 (ret_eq (h.trans (congrArg some hR.symm)))
set_option maxHeartbeats 4000000 in
set_option maxRecDepth 100000 in
theorem Z_X6_take {l : Launch} {D : va_G} {ids : List Nat} {ad : Nat → Nat} {ca : Nat → ClassId} {σ : HS} {x1 : Int32} {r0 : Int32} {s0 : HS} (hid : ∀ i, i < 277 → i ∈ ids) (h : f_X6_take x1 σ = some (r0, s0)) : Ki l D ids ad ca yX6_take cX6_take 2 .boolean 1 21 [.ref (ad 1), .int x1] σ (fun r σ1 => r = r0 ∧ σ1 = s0) := by
  obtain ⟨R, hR⟩ : ∃ R, (r0, s0) = R := ⟨_, rfl⟩
  replace h := h.trans (congrArg some hR)
  refine Ki.of (by decide) (Nat.le_of_ble_eq_true rfl) 0 (fun Γ C Rt => ?_)
  show AW ids ad ca Γ 0 [some (.ref (ad 1)), some (.int x1)] [] σ
  unfold f_X6_take at h
  have j31 : ∀ (σ : HS), f_X6_take_31 σ = some R → AW ids ad ca Γ 31 [some (.ref (ad 1)), none] [] σ := by
    intro σ h
    unfold f_X6_take_31 at h
    refine a_aload_n C dX6_take_31 (i := 0) rfl rfl ?_
    refine a_iconst C dX6_take_32 (v := 2) rfl ?_
    refine p_callVi C (As := [.int 2]) (i := 1) kd_1 (hid 1 (by decide)) ⟨_, _, rfl⟩ (by decide) h (fun _ _ e => Z_X6_refuse hid e) mi_X6_refuse ml_RX6_60 rfl rfl (Nat.le_of_ble_eq_true rfl) (Nat.le_of_ble_eq_true rfl) (Nat.le_of_ble_eq_true rfl) dX6_take_33 (fun r2 σ1 h => ?_)
    refine ite_n h (fun c h => ?_)
    exact a_iret Rt dX6_take_36 (nar_z c).1 (ret_eq (h.trans (congrArg some hR.symm)))
  refine a_aload_n C dX6_take_0 (i := 0) rfl rfl ?_
  refine a_get C fl_RX6_53 (i := 1) kd_1 (hid 1 (by decide)) (v := .int (σ.1 1 6)) rfl dX6_take_1 ?_
  refine a_iload_n C dX6_take_4 (i := 1) rfl rfl ?_
  refine p_ic_eq C (X := (σ.1 1 6).toInt) (Y := x1.toInt) rfl rfl dX6_take_5 (tgt := 14) rfl h (fun h => ?_) (fun h => ?_)
  ·
    refine a_aload_n C dX6_take_14 (i := 0) rfl rfl ?_
    refine a_get C fl_RX6_46 (i := 1) kd_1 (hid 1 (by decide)) (v := .int (σ.1 1 5)) rfl dX6_take_15 ?_
    refine p_if_lt C (X := (σ.1 1 5).toInt) rfl dX6_take_18 (tgt := 31) rfl h (fun h => ?_) (fun h => ?_)
    ·
      refine AW.sub (vs' := [some (.ref (ad 1)), none]) (lsub_of (by simp [lsubB])) ?_
      exact j31 _ h
    ·
      refine a_aload_n C dX6_take_21 (i := 0) rfl rfl ?_
      refine a_get C fl_RX6_46 (i := 1) kd_1 (hid 1 (by decide)) (v := .int (σ.1 1 5)) rfl dX6_take_22 ?_
      refine a_sipush C dX6_take_25 (v := 400) rfl ?_
      refine p_ic_lt C (X := (σ.1 1 5).toInt) (Y := 400) rfl (by decide) dX6_take_28 (tgt := 37) rfl h (fun h => ?_) (fun h => ?_)
      ·
        refine a_aload_n C dX6_take_37 (i := 0) rfl rfl ?_
        refine a_aload_n C dX6_take_38 (i := 0) rfl rfl ?_
        refine a_get C fl_RX6_12 (i := 1) kd_1 (hid 1 (by decide)) (v := .ref (ad 2)) rfl dX6_take_39 ?_
        refine a_get C fl_RX6_64 (i := 2) kd_2 (hid 2 (by decide)) (v := .ref (ad 6)) rfl dX6_take_42 ?_
        refine a_aload_n C dX6_take_45 (i := 0) rfl rfl ?_
        refine a_get C fl_RX6_46 (i := 1) kd_1 (hid 1 (by decide)) (v := .int (σ.1 1 5)) rfl dX6_take_46 ?_
        refine p_lald C (i := 6) kd_6 (hid 6 (by decide)) (by rw [al_6]; rfl) dX6_take_49 h (fun h => ?_)
        refine a_l2i C dX6_take_50 ?_
        refine p_put C fp_RX6_67 (i := 1) kd_1 (hid 1 (by decide)) rfl rfl dX6_take_51 h (fun σ1 h => ?_)
        refine a_aload_n C dX6_take_54 (i := 0) rfl rfl ?_
        refine a_dup C dX6_take_55 rfl ?_
        refine a_get C fl_RX6_46 (i := 1) kd_1 (hid 1 (by decide)) (v := .int (σ1.1 1 5)) rfl dX6_take_56 ?_
        refine a_iconst C dX6_take_59 (v := 1) rfl ?_
        refine a_iadd C dX6_take_60 ?_
        refine p_put C fp_RX6_46 (i := 1) kd_1 (hid 1 (by decide)) rfl rfl dX6_take_61 h (fun σ2 h => ?_)
        refine a_aload_n C dX6_take_64 (i := 0) rfl rfl ?_
        refine a_aload_n C dX6_take_65 (i := 0) rfl rfl ?_
        refine a_get C fl_RX6_12 (i := 1) kd_1 (hid 1 (by decide)) (v := .ref (ad 2)) rfl dX6_take_66 ?_
        refine a_get C fl_RX6_49 (i := 2) kd_2 (hid 2 (by decide)) (v := .ref (ad 4)) rfl dX6_take_69 ?_
        refine a_aload_n C dX6_take_72 (i := 0) rfl rfl ?_
        refine a_get C fl_RX6_46 (i := 1) kd_1 (hid 1 (by decide)) (v := .int (σ2.1 1 5)) rfl dX6_take_73 ?_
        refine p_iald C (i := 4) (show rowOK 4 from ⟨kd_4, by decide⟩) hid (by rw [al_4]; rfl) dX6_take_76 h (fun h => ?_)
        refine p_put C fp_RX6_53 (i := 1) kd_1 (hid 1 (by decide)) rfl rfl dX6_take_77 h (fun σ3 h => ?_)
        refine a_iconst C dX6_take_80 (v := 1) rfl ?_
        exact a_iret Rt dX6_take_81 (nar_z (by decide)).1 (ret_eq (h.trans (congrArg some hR.symm)))
      ·
        refine AW.sub (vs' := [some (.ref (ad 1)), none]) (lsub_of (by simp [lsubB])) ?_
        exact j31 _ h
  ·
    refine a_aload_n C dX6_take_8 (i := 0) rfl rfl ?_
    refine a_iconst C dX6_take_9 (v := 1) rfl ?_
    refine p_callVi C (As := [.int 1]) (i := 1) kd_1 (hid 1 (by decide)) ⟨_, _, rfl⟩ (by decide) h (fun _ _ e => Z_X6_refuse hid e) mi_X6_refuse ml_RX6_60 rfl rfl (Nat.le_of_ble_eq_true rfl) (Nat.le_of_ble_eq_true rfl) (Nat.le_of_ble_eq_true rfl) dX6_take_10 (fun r5 σ4 h => ?_)
    refine ite_n h (fun c h => ?_)
    exact a_iret Rt dX6_take_13 (nar_z c).1 (ret_eq (h.trans (congrArg some hR.symm)))
set_option maxHeartbeats 4000000 in
set_option maxRecDepth 100000 in
theorem Z_X6_noteLater {l : Launch} {D : va_G} {ids : List Nat} {ad : Nat → Nat} {ca : Nat → ClassId} {σ : HS} {x1 : Int32} {s0 : HS} (hid : ∀ i, i < 277 → i ∈ ids) (h : f_X6_noteLater x1 σ = some s0) : Kv l D ids ad ca yX6_noteLater cX6_noteLater 2 0 0 [.ref (ad 1), .int x1] σ (fun σ1 => σ1 = s0) := by
  obtain ⟨R, hR⟩ : ∃ R, s0 = R := ⟨_, rfl⟩
  replace h := h.trans (congrArg some hR)
  refine Kv.of (by decide) (Nat.le_of_ble_eq_true rfl) 0 (fun Γ C Rt => ?_)
  show AW ids ad ca Γ 0 [some (.ref (ad 1)), some (.int x1)] [] σ
  unfold f_X6_noteLater at h
  refine a_aload_n C dX6_noteLater_0 (i := 0) rfl rfl ?_
  refine a_get C fl_RX6_37 (i := 1) kd_1 (hid 1 (by decide)) (v := .int (σ.1 1 3)) rfl dX6_noteLater_1 ?_
  refine p_if_ne C (X := (σ.1 1 3).toInt) rfl dX6_noteLater_4 (tgt := 28) rfl h (fun h => ?_) (fun h => ?_)
  ·
    exact a_vret Rt dX6_noteLater_28 (retv_eq (h.trans (congrArg some hR.symm)))
  ·
    refine a_aload_n C dX6_noteLater_7 (i := 0) rfl rfl ?_
    refine a_iload_n C dX6_noteLater_8 (i := 1) rfl rfl ?_
    refine p_put C fp_RX6_37 (i := 1) kd_1 (hid 1 (by decide)) rfl rfl dX6_noteLater_9 h (fun σ1 h => ?_)
    refine a_aload_n C dX6_noteLater_12 (i := 0) rfl rfl ?_
    refine a_aload_n C dX6_noteLater_13 (i := 0) rfl rfl ?_
    refine a_get C fl_RX6_12 (i := 1) kd_1 (hid 1 (by decide)) (v := .ref (ad 2)) rfl dX6_noteLater_14 ?_
    refine a_get C fl_RX6_70 (i := 2) kd_2 (hid 2 (by decide)) (v := .ref (ad 5)) rfl dX6_noteLater_17 ?_
    refine a_aload_n C dX6_noteLater_20 (i := 0) rfl rfl ?_
    refine a_get C fl_RX6_46 (i := 1) kd_1 (hid 1 (by decide)) (v := .int (σ1.1 1 5)) rfl dX6_noteLater_21 ?_
    refine p_iald C (i := 5) (show rowOK 5 from ⟨kd_5, by decide⟩) hid (by rw [al_5]; rfl) dX6_noteLater_24 h (fun h => ?_)
    refine p_put C fp_RX6_40 (i := 1) kd_1 (hid 1 (by decide)) rfl rfl dX6_noteLater_25 h (fun σ2 h => ?_)
    exact a_vret Rt dX6_noteLater_28 (retv_eq (h.trans (congrArg some hR.symm)))
set_option maxHeartbeats 4000000 in
set_option maxRecDepth 100000 in
theorem Z_X6_takeNumber {l : Launch} {D : va_G} {ids : List Nat} {ad : Nat → Nat} {ca : Nat → ClassId} {σ : HS} {x1 : Int32} {x2 : Int32} {r0 : Int32} {s0 : HS} (hid : ∀ i, i < 277 → i ∈ ids) (h : f_X6_takeNumber x1 x2 σ = some (r0, s0)) : Ki l D ids ad ca yX6_takeNumber cX6_takeNumber 5 .boolean 2 42 [.ref (ad 1), .int x1, .int x2] σ (fun r σ1 => r = r0 ∧ σ1 = s0) := by
  obtain ⟨R, hR⟩ : ∃ R, (r0, s0) = R := ⟨_, rfl⟩
  replace h := h.trans (congrArg some hR)
  refine Ki.of (by decide) (Nat.le_of_ble_eq_true rfl) 2 (fun Γ C Rt => ?_)
  show AW ids ad ca Γ 0 [some (.ref (ad 1)), some (.int x1), some (.int x2), none, none] [] σ
  unfold f_X6_takeNumber at h
  have j41 : ∀ (σ : HS), f_X6_takeNumber_41 σ = some R → AW ids ad ca Γ 41 [some (.ref (ad 1)), none, none, none, none] [] σ := by
    intro σ h
    unfold f_X6_takeNumber_41 at h
    refine a_aload_n C dX6_takeNumber_41 (i := 0) rfl rfl ?_
    refine a_bipush C dX6_takeNumber_42 (v := 21) rfl ?_
    refine p_callVi C (As := [.int 21]) (i := 1) kd_1 (hid 1 (by decide)) ⟨_, _, rfl⟩ (by decide) h (fun _ _ e => Z_X6_take hid e) mi_X6_take ml_RX6_77 rfl rfl (Nat.le_of_ble_eq_true rfl) (Nat.le_of_ble_eq_true rfl) (Nat.le_of_ble_eq_true rfl) dX6_takeNumber_44 (fun r2 σ1 h => ?_)
    refine ite_n h (fun c h => ?_)
    exact a_iret Rt dX6_takeNumber_47 (nar_z c).1 (ret_eq (h.trans (congrArg some hR.symm)))
  have j36 : ∀ (σ : HS), f_X6_takeNumber_36 σ = some R → AW ids ad ca Γ 36 [some (.ref (ad 1)), none, none, none, none] [] σ := by
    intro σ h
    unfold f_X6_takeNumber_36 at h
    refine a_aload_n C dX6_takeNumber_36 (i := 0) rfl rfl ?_
    refine a_iconst C dX6_takeNumber_37 (v := 5) rfl ?_
    refine p_callVv C (As := [.int 5]) (i := 1) kd_1 (hid 1 (by decide)) ⟨_, _, rfl⟩ (by decide) h (fun _ e => Z_X6_noteLater hid e) mi_X6_noteLater ml_RX6_73 rfl rfl (Nat.le_of_ble_eq_true rfl) (Nat.le_of_ble_eq_true rfl) (Nat.le_of_ble_eq_true rfl) dX6_takeNumber_38 (fun σ1 h => ?_)
    exact j41 _ h
  refine a_aload_n C dX6_takeNumber_0 (i := 0) rfl rfl ?_
  refine a_get C fl_RX6_12 (i := 1) kd_1 (hid 1 (by decide)) (v := .ref (ad 2)) rfl dX6_takeNumber_1 ?_
  refine a_get C fl_RX6_64 (i := 2) kd_2 (hid 2 (by decide)) (v := .ref (ad 6)) rfl dX6_takeNumber_4 ?_
  refine a_aload_n C dX6_takeNumber_7 (i := 0) rfl rfl ?_
  refine a_get C fl_RX6_46 (i := 1) kd_1 (hid 1 (by decide)) (v := .int (σ.1 1 5)) rfl dX6_takeNumber_8 ?_
  refine p_lald C (i := 6) kd_6 (hid 6 (by decide)) (by rw [al_6]; rfl) dX6_takeNumber_11 h (fun h => ?_)
  refine p_lstore_n C (fun z1 => [some (.ref (ad 1)), some (.int x1), some (.int x2), some (.long z1), none]) dX6_takeNumber_12 (i := 3) rfl (by decide) rfl (fun _ => rfl) h (fun z1 h => ?_)
  refine a_aload_n C dX6_takeNumber_13 (i := 0) rfl rfl ?_
  refine a_get C fl_RX6_53 (i := 1) kd_1 (hid 1 (by decide)) (v := .int (σ.1 1 6)) rfl dX6_takeNumber_14 ?_
  refine a_bipush C dX6_takeNumber_17 (v := 21) rfl ?_
  refine p_ic_ne C (X := (σ.1 1 6).toInt) (Y := 21) rfl (by decide) dX6_takeNumber_19 (tgt := 41) rfl h (fun h => ?_) (fun h => ?_)
  ·
    refine AW.sub (vs' := [some (.ref (ad 1)), none, none, none, none]) (lsub_of (by simp [lsubB])) ?_
    exact j41 _ h
  ·
    refine a_lload_n C dX6_takeNumber_22 (i := 3) rfl rfl ?_
    refine a_iload_n C dX6_takeNumber_23 (i := 1) rfl rfl ?_
    refine a_i2l C dX6_takeNumber_24 ?_
    refine a_lcmp C dX6_takeNumber_25 ?_
    refine p_if_lt C (X := (lg_cmp z1 (x1.toInt64)).toInt) rfl dX6_takeNumber_26 (tgt := 36) rfl h (fun h => ?_) (fun h => ?_)
    ·
      refine AW.sub (vs' := [some (.ref (ad 1)), none, none, none, none]) (lsub_of (by simp [lsubB])) ?_
      exact j36 _ h
    ·
      refine a_lload_n C dX6_takeNumber_29 (i := 3) rfl rfl ?_
      refine a_iload_n C dX6_takeNumber_30 (i := 2) rfl rfl ?_
      refine a_i2l C dX6_takeNumber_31 ?_
      refine a_lcmp C dX6_takeNumber_32 ?_
      refine p_if_le C (X := (lg_cmp z1 (x2.toInt64)).toInt) rfl dX6_takeNumber_33 (tgt := 41) rfl h (fun h => ?_) (fun h => ?_)
      ·
        refine AW.sub (vs' := [some (.ref (ad 1)), none, none, none, none]) (lsub_of (by simp [lsubB])) ?_
        exact j41 _ h
      ·
        refine AW.sub (vs' := [some (.ref (ad 1)), none, none, none, none]) (lsub_of (by simp [lsubB])) ?_
        exact j36 _ h
set_option maxHeartbeats 4000000 in
set_option maxRecDepth 100000 in
theorem Z_X6_unit {l : Launch} {D : va_G} {ids : List Nat} {ad : Nat → Nat} {ca : Nat → ClassId} {σ : HS} {p1 : Nat} {x2 : Int32} {r0 : Int32} {s0 : HS} (hid : ∀ i, i < 277 → i ∈ ids) (fE : Nat → Int32 → HS → Option (Int32 × HS)) {fr0 lo0 : Nat} (hE : ∀ (p1 : Nat) (x2 : Int32) (σ s0 : HS) (r0 : Int32), txtOK p1 → fE p1 x2 σ = some (r0, s0) → Ki l D ids ad ca yX6_expression cX6_expression 6 .boolean fr0 lo0 [.ref (ad 1), .ref (ad p1), .int x2] σ (fun r σ1 => r = r0 ∧ σ1 = s0)) (hp1 : txtOK p1) (h : f_X6_unit fE p1 x2 σ = some (r0, s0)) : Ki l D ids ad ca yX6_unit cX6_unit 4 .boolean (fr0 + 2) (lo0 + 42) [.ref (ad 1), .ref (ad p1), .int x2] σ (fun r σ1 => r = r0 ∧ σ1 = s0) := by
  obtain ⟨R, hR⟩ : ∃ R, (r0, s0) = R := ⟨_, rfl⟩
  replace h := h.trans (congrArg some hR)
  refine Ki.of (by decide) (Nat.le_of_ble_eq_true rfl) 1 (fun Γ C Rt => ?_)
  show AW ids ad ca Γ 0 [some (.ref (ad 1)), some (.ref (ad p1)), some (.int x2), none] [] σ
  unfold f_X6_unit at h
  have j88 : ∀ (y2 : Int32) (σ : HS), f_X6_unit_88 fE p1 y2 σ = some R → AW ids ad ca Γ 88 [some (.ref (ad 1)), some (.ref (ad p1)), some (.int y2), none] [] σ := by
    intro y2 σ h
    unfold f_X6_unit_88 at h
    refine a_aload_n C dX6_unit_88 (i := 0) rfl rfl ?_
    refine a_bipush C dX6_unit_89 (v := 40) rfl ?_
    refine p_callVi C (As := [.int 40]) (i := 1) kd_1 (hid 1 (by decide)) ⟨_, _, rfl⟩ (by decide) h (fun _ _ e => Z_X6_take hid e) mi_X6_take ml_RX6_77 rfl rfl (by omega) (by omega) (Nat.le_of_ble_eq_true rfl) dX6_unit_91 (fun r2 σ1 h => ?_)
    refine p_if_eq C (X := r2.toInt) rfl dX6_unit_94 (tgt := 121) rfl h (fun h => ?_) (fun h => ?_)
    ·
      refine a_iconst C dX6_unit_121 (v := 0) rfl ?_
      exact a_iret Rt dX6_unit_122 (nar_z (by decide)).1 (ret_eq (h.trans (congrArg some hR.symm)))
    ·
      refine a_aload_n C dX6_unit_97 (i := 0) rfl rfl ?_
      refine a_aload_n C dX6_unit_98 (i := 1) rfl rfl ?_
      refine a_iload_n C dX6_unit_99 (i := 2) rfl rfl ?_
      refine a_iconst C dX6_unit_100 (v := 1) rfl ?_
      refine a_iadd C dX6_unit_101 ?_
      refine p_callVi C (As := [.ref (ad p1), .int (y2 + (1 : Int32))]) (i := 1) kd_1 (hid 1 (by decide)) ⟨_, _, rfl⟩ (by decide) h (fun _ _ e => hE _ _ _ _ _ hp1 e) mi_X6_expression ml_RX6_135 rfl rfl (by omega) (by omega) (Nat.le_of_ble_eq_true rfl) dX6_unit_102 (fun r4 σ3 h => ?_)
      refine p_if_eq C (X := r4.toInt) rfl dX6_unit_105 (tgt := 121) rfl h (fun h => ?_) (fun h => ?_)
      ·
        refine a_iconst C dX6_unit_121 (v := 0) rfl ?_
        exact a_iret Rt dX6_unit_122 (nar_z (by decide)).1 (ret_eq (h.trans (congrArg some hR.symm)))
      ·
        refine a_aload_n C dX6_unit_108 (i := 0) rfl rfl ?_
        refine a_bipush C dX6_unit_109 (v := 41) rfl ?_
        refine p_callVi C (As := [.int 41]) (i := 1) kd_1 (hid 1 (by decide)) ⟨_, _, rfl⟩ (by decide) h (fun _ _ e => Z_X6_take hid e) mi_X6_take ml_RX6_77 rfl rfl (by omega) (by omega) (Nat.le_of_ble_eq_true rfl) dX6_unit_111 (fun r6 σ5 h => ?_)
        refine p_if_eq C (X := r6.toInt) rfl dX6_unit_114 (tgt := 121) rfl h (fun h => ?_) (fun h => ?_)
        ·
          refine a_iconst C dX6_unit_121 (v := 0) rfl ?_
          exact a_iret Rt dX6_unit_122 (nar_z (by decide)).1 (ret_eq (h.trans (congrArg some hR.symm)))
        ·
          refine a_iconst C dX6_unit_117 (v := 1) rfl ?_
          refine a_goto C dX6_unit_118 (tgt := 122) rfl ?_
          exact a_iret Rt dX6_unit_122 (nar_z (by decide)).1 (ret_eq (h.trans (congrArg some hR.symm)))
  have j67 : ∀ (y2 : Int32) (σ : HS), f_X6_unit_67 fE p1 y2 σ = some R → AW ids ad ca Γ 67 [some (.ref (ad 1)), some (.ref (ad p1)), some (.int y2), none] [] σ := by
    intro y2 σ h
    unfold f_X6_unit_67 at h
    refine a_aload_n C dX6_unit_67 (i := 0) rfl rfl ?_
    refine a_get C fl_RX6_53 (i := 1) kd_1 (hid 1 (by decide)) (v := .int (σ.1 1 6)) rfl dX6_unit_68 ?_
    refine a_bipush C dX6_unit_71 (v := 40) rfl ?_
    refine p_ic_ne C (X := (σ.1 1 6).toInt) (Y := 40) rfl (by decide) dX6_unit_73 (tgt := 88) rfl h (fun h => ?_) (fun h => ?_)
    ·
      exact j88 _ _ h
    ·
      refine a_iload_n C dX6_unit_76 (i := 2) rfl rfl ?_
      refine a_bipush C dX6_unit_77 (v := 6) rfl ?_
      refine p_ic_lt C (X := y2.toInt) (Y := 6) rfl (by decide) dX6_unit_79 (tgt := 88) rfl h (fun h => ?_) (fun h => ?_)
      ·
        exact j88 _ _ h
      ·
        refine a_aload_n C dX6_unit_82 (i := 0) rfl rfl ?_
        refine a_iconst C dX6_unit_83 (v := 2) rfl ?_
        refine p_callVi C (As := [.int 2]) (i := 1) kd_1 (hid 1 (by decide)) ⟨_, _, rfl⟩ (by decide) h (fun _ _ e => Z_X6_refuse hid e) mi_X6_refuse ml_RX6_60 rfl rfl (by omega) (by omega) (Nat.le_of_ble_eq_true rfl) dX6_unit_84 (fun r2 σ1 h => ?_)
        refine ite_n h (fun c h => ?_)
        exact a_iret Rt dX6_unit_87 (nar_z c).1 (ret_eq (h.trans (congrArg some hR.symm)))
  refine a_aload_n C dX6_unit_0 (i := 0) rfl rfl ?_
  refine a_get C fl_RX6_53 (i := 1) kd_1 (hid 1 (by decide)) (v := .int (σ.1 1 6)) rfl dX6_unit_1 ?_
  refine a_bipush C dX6_unit_4 (v := 21) rfl ?_
  refine p_ic_ne C (X := (σ.1 1 6).toInt) (Y := 21) rfl (by decide) dX6_unit_6 (tgt := 26) rfl h (fun h => ?_) (fun h => ?_)
  ·
    refine a_aload_n C dX6_unit_26 (i := 0) rfl rfl ?_
    refine a_get C fl_RX6_53 (i := 1) kd_1 (hid 1 (by decide)) (v := .int (σ.1 1 6)) rfl dX6_unit_27 ?_
    refine a_bipush C dX6_unit_30 (v := 11) rfl ?_
    refine p_ic_lt C (X := (σ.1 1 6).toInt) (Y := 11) rfl (by decide) dX6_unit_32 (tgt := 67) rfl h (fun h => ?_) (fun h => ?_)
    ·
      exact j67 _ _ h
    ·
      refine a_aload_n C dX6_unit_35 (i := 0) rfl rfl ?_
      refine a_get C fl_RX6_53 (i := 1) kd_1 (hid 1 (by decide)) (v := .int (σ.1 1 6)) rfl dX6_unit_36 ?_
      refine a_bipush C dX6_unit_39 (v := 19) rfl ?_
      refine p_ic_gt C (X := (σ.1 1 6).toInt) (Y := 19) rfl (by decide) dX6_unit_41 (tgt := 67) rfl h (fun h => ?_) (fun h => ?_)
      ·
        exact j67 _ _ h
      ·
        refine a_aload_n C dX6_unit_44 (i := 1) rfl rfl ?_
        refine a_bipush C dX6_unit_45 (v := (-10)) rfl ?_
        refine a_aload_n C dX6_unit_47 (i := 0) rfl rfl ?_
        refine a_get C fl_RX6_53 (i := 1) kd_1 (hid 1 (by decide)) (v := .int (σ.1 1 6)) rfl dX6_unit_48 ?_
        refine a_bipush C dX6_unit_51 (v := 11) rfl ?_
        refine a_isub C dX6_unit_53 ?_
        refine a_isub C dX6_unit_54 ?_
        refine p_callVv C (As := [.int (((-10) : Int32) - ((σ.1 1 6) - (11 : Int32)))]) (i := p1) hp1.1.1 (hid _ hp1.1.2) ⟨_, _, rfl⟩ (by decide) h (fun _ e => Z_X10_emit hid hp1 e) mi_X10_emit ml_RX6_138 rfl rfl (by omega) (by omega) (Nat.le_of_ble_eq_true rfl) dX6_unit_55 (fun σ1 h => ?_)
        refine a_aload_n C dX6_unit_58 (i := 0) rfl rfl ?_
        refine a_aload_n C dX6_unit_59 (i := 0) rfl rfl ?_
        refine a_get C fl_RX6_53 (i := 1) kd_1 (hid 1 (by decide)) (v := .int (σ1.1 1 6)) rfl dX6_unit_60 ?_
        refine p_callVi C (As := [.int (σ1.1 1 6)]) (i := 1) kd_1 (hid 1 (by decide)) ⟨_, _, rfl⟩ (by decide) h (fun _ _ e => Z_X6_take hid e) mi_X6_take ml_RX6_77 rfl rfl (by omega) (by omega) (Nat.le_of_ble_eq_true rfl) dX6_unit_63 (fun r4 σ3 h => ?_)
        refine ite_n h (fun c h => ?_)
        exact a_iret Rt dX6_unit_66 (nar_z c).1 (ret_eq (h.trans (congrArg some hR.symm)))
  ·
    refine a_aload_n C dX6_unit_9 (i := 0) rfl rfl ?_
    refine a_bipush C dX6_unit_10 (v := 21) rfl ?_
    refine p_callVi C (As := [.int 21]) (i := 1) kd_1 (hid 1 (by decide)) ⟨_, _, rfl⟩ (by decide) h (fun _ _ e => Z_X6_take hid e) mi_X6_take ml_RX6_77 rfl rfl (by omega) (by omega) (Nat.le_of_ble_eq_true rfl) dX6_unit_12 (fun r6 σ5 h => ?_)
    refine a_istore_n C dX6_unit_15 (i := 3) rfl (by decide) rfl (vs1 := [some (.ref (ad 1)), some (.ref (ad p1)), some (.int x2), some (.int r6)]) rfl ?_
    refine a_aload_n C dX6_unit_16 (i := 1) rfl rfl ?_
    refine a_aload_n C dX6_unit_17 (i := 0) rfl rfl ?_
    refine a_get C fl_RX6_67 (i := 1) kd_1 (hid 1 (by decide)) (v := .int (σ5.1 1 7)) rfl dX6_unit_18 ?_
    refine p_callVv C (As := [.int (σ5.1 1 7)]) (i := p1) hp1.1.1 (hid _ hp1.1.2) ⟨_, _, rfl⟩ (by decide) h (fun _ e => Z_X10_emit hid hp1 e) mi_X10_emit ml_RX6_138 rfl rfl (by omega) (by omega) (Nat.le_of_ble_eq_true rfl) dX6_unit_21 (fun σ7 h => ?_)
    refine a_iload_n C dX6_unit_24 (i := 3) rfl rfl ?_
    refine ite_n h (fun c h => ?_)
    exact a_iret Rt dX6_unit_25 (nar_z c).1 (ret_eq (h.trans (congrArg some hR.symm)))

