set_option maxHeartbeats 4000000 in
set_option maxRecDepth 100000 in
theorem Z_X3_close {l : Launch} {D : va_G} {ids : List Nat} {ad : Nat → Nat} {ca : Nat → ClassId} {σ : HS} {p1 : Nat} {x2 : Int32} {r0 : Int32} {s0 : HS} (hid : ∀ i, i < 277 → i ∈ ids) (hp1 : rowOK p1) (h : f_X3_close p1 x2 σ = some (r0, s0)) : Ki l D ids ad ca yX3_close cX3_close 5 .boolean 0 0 [.ref (ad p1), .int x2] σ (fun r σ1 => r = r0 ∧ σ1 = s0) := by
  obtain ⟨R, hR⟩ : ∃ R, (r0, s0) = R := ⟨_, rfl⟩
  replace h := h.trans (congrArg some hR)
  refine Ki.of (by decide) (Nat.le_of_ble_eq_true rfl) 3 (fun Γ C Rt => ?_)
  show AW ids ad ca Γ 0 [some (.ref (ad p1)), some (.int x2), none, none, none] [] σ
  unfold f_X3_close at h
  have j4 : ∀ (n : Nat) (y1 : Int32) (y2 : Int32) (y3 : Int32) (σ : HS), f_X3_close_4 p1 n y1 y2 y3 σ = some R → AW ids ad ca Γ 4 [some (.ref (ad p1)), some (.int y1), some (.int y2), some (.int y3), none] [] σ := by
    intro n
    induction n with
    | zero => intro y1 y2 y3 σ h; exact nn h
    | succ n ih =>
      intro y1 y2 y3 σ h
      have h : b_X3_close_4 p1 (f_X3_close_4 p1 n) y1 y2 y3 σ = some R := h
      unfold b_X3_close_4 at h
      refine a_iload_n C dX3_close_4 (i := 3) rfl rfl ?_
      refine a_iload_n C dX3_close_5 (i := 1) rfl rfl ?_
      refine p_ic_ge C (X := y3.toInt) (Y := y1.toInt) rfl rfl dX3_close_6 (tgt := 40) rfl h (fun h => ?_) (fun h => ?_)
      ·
        refine a_iconst C dX3_close_40 (v := 1) rfl ?_
        exact a_iret Rt dX3_close_41 (nar_z (by decide)).1 (ret_eq (h.trans (congrArg some hR.symm)))
      ·
        refine a_iconst C dX3_close_9 (v := 1) rfl ?_
        refine a_iload_n C dX3_close_10 (i := 3) rfl rfl ?_
        refine a_aload_n C dX3_close_11 (i := 0) rfl rfl ?_
        refine a_iload_n C dX3_close_12 (i := 3) rfl rfl ?_
        refine p_iald C (i := p1) hp1 hid rfl dX3_close_13 h (fun h => ?_)
        refine a_iadd C dX3_close_14 ?_
        refine a_iload_n C dX3_close_15 (i := 1) rfl rfl ?_
        refine p_irem C rfl dX3_close_16 h (fun h => ?_)
        refine a_ishl C dX3_close_17 ?_
        refine p_istore C (fun z1 => [some (.ref (ad p1)), some (.int y1), some (.int y2), some (.int y3), some (.int z1)]) dX3_close_18 (by decide) rfl (fun _ => rfl) h (fun z1 h => ?_)
        refine a_iload_n C dX3_close_20 (i := 2) rfl rfl ?_
        refine a_iload C dX3_close_21 rfl ?_
        refine a_iand C dX3_close_23 ?_
        refine p_if_eq C (X := (y2 &&& z1).toInt) rfl dX3_close_24 (tgt := 29) rfl h (fun h => ?_) (fun h => ?_)
        ·
          refine a_iload_n C dX3_close_29 (i := 2) rfl rfl ?_
          refine a_iload C dX3_close_30 rfl ?_
          refine a_ior C dX3_close_32 ?_
          refine p_istore_n C (fun z2 => [some (.ref (ad p1)), some (.int y1), some (.int z2), some (.int y3), some (.int z1)]) dX3_close_33 (i := 2) rfl (by decide) rfl (fun _ => rfl) h (fun z2 h => ?_)
          refine p_iinc C (y := (y3 + 1)) (fun z3 => [some (.ref (ad p1)), some (.int y1), some (.int z2), some (.int z3), some (.int z1)]) dX3_close_34 rfl rfl (by decide) rfl (fun _ => rfl) h (fun z3 h => ?_)
          refine a_goto C dX3_close_37 (tgt := 4) rfl ?_
          refine AW.sub (vs' := [some (.ref (ad p1)), some (.int y1), some (.int z2), some (.int z3), none]) (lsub_of (by simp [lsubB])) ?_
          exact ih _ _ _ _ h
        ·
          refine a_iconst C dX3_close_27 (v := 0) rfl ?_
          exact a_iret Rt dX3_close_28 (nar_z (by decide)).1 (ret_eq (h.trans (congrArg some hR.symm)))
  refine a_iconst C dX3_close_0 (v := 0) rfl ?_
  refine a_istore_n C dX3_close_1 (i := 2) rfl (by decide) rfl (vs1 := [some (.ref (ad p1)), some (.int x2), some (.int 0), none, none]) rfl ?_
  refine a_iconst C dX3_close_2 (v := 0) rfl ?_
  refine a_istore_n C dX3_close_3 (i := 3) rfl (by decide) rfl (vs1 := [some (.ref (ad p1)), some (.int x2), some (.int 0), some (.int 0), none]) rfl ?_
  exact j4 _ _ _ _ _ h
set_option maxHeartbeats 4000000 in
set_option maxRecDepth 100000 in
theorem Z_X3_kept {l : Launch} {D : va_G} {ids : List Nat} {ad : Nat → Nat} {ca : Nat → ClassId} {σ : HS} {p1 : Nat} {x2 : Int32} {r0 : Int32} {s0 : HS} (hid : ∀ i, i < 277 → i ∈ ids) (hp1 : rowOK p1) (h : f_X3_kept p1 x2 σ = some (r0, s0)) : Ki l D ids ad ca yX3_kept cX3_kept 4 .int 0 0 [.ref (ad p1), .int x2] σ (fun r σ1 => r = r0 ∧ σ1 = s0) := by
  obtain ⟨R, hR⟩ : ∃ R, (r0, s0) = R := ⟨_, rfl⟩
  replace h := h.trans (congrArg some hR)
  refine Ki.of (by decide) (Nat.le_of_ble_eq_true rfl) 2 (fun Γ C Rt => ?_)
  show AW ids ad ca Γ 0 [some (.ref (ad p1)), some (.int x2), none, none] [] σ
  unfold f_X3_kept at h
  have j4 : ∀ (n : Nat) (y1 : Int32) (y2 : Int32) (y3 : Int32) (σ : HS), f_X3_kept_4 p1 n y1 y2 y3 σ = some R → AW ids ad ca Γ 4 [some (.ref (ad p1)), some (.int y1), some (.int y2), some (.int y3)] [] σ := by
    intro n
    induction n with
    | zero => intro y1 y2 y3 σ h; exact nn h
    | succ n ih =>
      intro y1 y2 y3 σ h
      have h : b_X3_kept_4 p1 (f_X3_kept_4 p1 n) y1 y2 y3 σ = some R := h
      unfold b_X3_kept_4 at h
      refine a_iload_n C dX3_kept_4 (i := 3) rfl rfl ?_
      refine a_iload_n C dX3_kept_5 (i := 1) rfl rfl ?_
      refine p_ic_ge C (X := y3.toInt) (Y := y1.toInt) rfl rfl dX3_kept_6 (tgt := 21) rfl h (fun h => ?_) (fun h => ?_)
      ·
        refine a_iload_n C dX3_kept_21 (i := 1) rfl rfl ?_
        refine a_iconst C dX3_kept_22 (v := 1) rfl ?_
        refine p_ic_ge C (X := y1.toInt) (Y := 1) rfl (by decide) dX3_kept_23 (tgt := 30) rfl h (fun h => ?_) (fun h => ?_)
        ·
          refine a_iload_n C dX3_kept_30 (i := 2) rfl rfl ?_
          refine a_iload_n C dX3_kept_31 (i := 1) rfl rfl ?_
          refine p_idiv C rfl dX3_kept_32 h (fun h => ?_)
          exact a_iret Rt dX3_kept_33 rfl (ret_eq (h.trans (congrArg some hR.symm)))
        ·
          refine a_iconst C dX3_kept_26 (v := 0) rfl ?_
          refine a_goto C dX3_kept_27 (tgt := 33) rfl ?_
          exact a_iret Rt dX3_kept_33 rfl (ret_eq (h.trans (congrArg some hR.symm)))
      ·
        refine a_iload_n C dX3_kept_9 (i := 2) rfl rfl ?_
        refine a_aload_n C dX3_kept_10 (i := 0) rfl rfl ?_
        refine a_iload_n C dX3_kept_11 (i := 3) rfl rfl ?_
        refine p_iald C (i := p1) hp1 hid rfl dX3_kept_12 h (fun h => ?_)
        refine a_iadd C dX3_kept_13 ?_
        refine p_istore_n C (fun z1 => [some (.ref (ad p1)), some (.int y1), some (.int z1), some (.int y3)]) dX3_kept_14 (i := 2) rfl (by decide) rfl (fun _ => rfl) h (fun z1 h => ?_)
        refine p_iinc C (y := (y3 + 1)) (fun z2 => [some (.ref (ad p1)), some (.int y1), some (.int z1), some (.int z2)]) dX3_kept_15 rfl rfl (by decide) rfl (fun _ => rfl) h (fun z2 h => ?_)
        refine a_goto C dX3_kept_18 (tgt := 4) rfl ?_
        exact ih _ _ _ _ h
  refine a_iconst C dX3_kept_0 (v := 0) rfl ?_
  refine a_istore_n C dX3_kept_1 (i := 2) rfl (by decide) rfl (vs1 := [some (.ref (ad p1)), some (.int x2), some (.int 0), none]) rfl ?_
  refine a_iconst C dX3_kept_2 (v := 0) rfl ?_
  refine a_istore_n C dX3_kept_3 (i := 3) rfl (by decide) rfl (vs1 := [some (.ref (ad p1)), some (.int x2), some (.int 0), some (.int 0)]) rfl ?_
  exact j4 _ _ _ _ _ h
set_option maxHeartbeats 4000000 in
set_option maxRecDepth 100000 in
theorem Z_X3_highest {l : Launch} {D : va_G} {ids : List Nat} {ad : Nat → Nat} {ca : Nat → ClassId} {σ : HS} {p1 : Nat} {x2 : Int32} {r0 : Int32} {s0 : HS} (hid : ∀ i, i < 277 → i ∈ ids) (hp1 : rowOK p1) (h : f_X3_highest p1 x2 σ = some (r0, s0)) : Ki l D ids ad ca yX3_highest cX3_highest 4 .int 1 21 [.ref (ad p1), .int x2] σ (fun r σ1 => r = r0 ∧ σ1 = s0) := by
  obtain ⟨R, hR⟩ : ∃ R, (r0, s0) = R := ⟨_, rfl⟩
  replace h := h.trans (congrArg some hR)
  refine Ki.of (by decide) (Nat.le_of_ble_eq_true rfl) 2 (fun Γ C Rt => ?_)
  show AW ids ad ca Γ 0 [some (.ref (ad p1)), some (.int x2), none, none] [] σ
  unfold f_X3_highest at h
  have j4 : ∀ (n : Nat) (y1 : Int32) (y2 : Int32) (y3 : Int32) (σ : HS), f_X3_highest_4 p1 n y1 y2 y3 σ = some R → AW ids ad ca Γ 4 [some (.ref (ad p1)), some (.int y1), some (.int y2), some (.int y3)] [] σ := by
    intro n
    induction n with
    | zero => intro y1 y2 y3 σ h; exact nn h
    | succ n ih =>
      intro y1 y2 y3 σ h
      have h : b_X3_highest_4 p1 (f_X3_highest_4 p1 n) y1 y2 y3 σ = some R := h
      unfold b_X3_highest_4 at h
      refine a_iload_n C dX3_highest_4 (i := 3) rfl rfl ?_
      refine a_iload_n C dX3_highest_5 (i := 1) rfl rfl ?_
      refine p_ic_ge C (X := y3.toInt) (Y := y1.toInt) rfl rfl dX3_highest_6 (tgt := 23) rfl h (fun h => ?_) (fun h => ?_)
      ·
        refine a_iload_n C dX3_highest_23 (i := 2) rfl rfl ?_
        exact a_iret Rt dX3_highest_24 rfl (ret_eq (h.trans (congrArg some hR.symm)))
      ·
        refine a_iload_n C dX3_highest_9 (i := 2) rfl rfl ?_
        refine a_aload_n C dX3_highest_10 (i := 0) rfl rfl ?_
        refine a_iload_n C dX3_highest_11 (i := 3) rfl rfl ?_
        refine p_iald C (i := p1) hp1 hid rfl dX3_highest_12 h (fun h => ?_)
        refine a_mmax C dX3_highest_13 mm_RX3_9 mm_max.1 mm_max.2.1 mm_max.2.2 (Nat.le_of_ble_eq_true rfl) (Nat.le_of_ble_eq_true rfl) ?_
        refine p_istore_n C (fun z1 => [some (.ref (ad p1)), some (.int y1), some (.int z1), some (.int y3)]) dX3_highest_16 (i := 2) rfl (by decide) rfl (fun _ => rfl) h (fun z1 h => ?_)
        refine p_iinc C (y := (y3 + 1)) (fun z2 => [some (.ref (ad p1)), some (.int y1), some (.int z1), some (.int z2)]) dX3_highest_17 rfl rfl (by decide) rfl (fun _ => rfl) h (fun z2 h => ?_)
        refine a_goto C dX3_highest_20 (tgt := 4) rfl ?_
        exact ih _ _ _ _ h
  refine a_iconst C dX3_highest_0 (v := 0) rfl ?_
  refine a_istore_n C dX3_highest_1 (i := 2) rfl (by decide) rfl (vs1 := [some (.ref (ad p1)), some (.int x2), some (.int 0), none]) rfl ?_
  refine a_iconst C dX3_highest_2 (v := 0) rfl ?_
  refine a_istore_n C dX3_highest_3 (i := 3) rfl (by decide) rfl (vs1 := [some (.ref (ad p1)), some (.int x2), some (.int 0), some (.int 0)]) rfl ?_
  exact j4 _ _ _ _ _ h
set_option maxHeartbeats 4000000 in
set_option maxRecDepth 100000 in
theorem Z_X3_turns {l : Launch} {D : va_G} {ids : List Nat} {ad : Nat → Nat} {ca : Nat → ClassId} {σ : HS} {p1 : Nat} {p2 : Nat} {x3 : Int32} {r0 : Int32} {s0 : HS} (hid : ∀ i, i < 277 → i ∈ ids) (hp1 : rowOK p1) (hp2 : rowOK p2) (h : f_X3_turns p1 p2 x3 σ = some (r0, s0)) : Ki l D ids ad ca yX3_turns cX3_turns 6 .int 0 0 [.ref (ad p1), .ref (ad p2), .int x3] σ (fun r σ1 => r = r0 ∧ σ1 = s0) := by
  obtain ⟨R, hR⟩ : ∃ R, (r0, s0) = R := ⟨_, rfl⟩
  replace h := h.trans (congrArg some hR)
  refine Ki.of (by decide) (Nat.le_of_ble_eq_true rfl) 3 (fun Γ C Rt => ?_)
  show AW ids ad ca Γ 0 [some (.ref (ad p1)), some (.ref (ad p2)), some (.int x3), none, none, none] [] σ
  unfold f_X3_turns at h
  have j44 : ∀ (k2 : Int32 → Int32 → HS → Option (Int32 × HS)) (hk2 : ∀ (y2 : Int32) (y3 : Int32) (σ : HS), k2 y2 y3 σ = some R → AW ids ad ca Γ 2 [some (.ref (ad p1)), some (.ref (ad p2)), some (.int y2), some (.int y3), none, none] [] σ) (k13 : Int32 → Int32 → Int32 → Int32 → HS → Option (Int32 × HS)) (hk13 : ∀ (y2 : Int32) (y3 : Int32) (y4 : Int32) (y5 : Int32) (σ : HS), k13 y2 y3 y4 y5 σ = some R → AW ids ad ca Γ 13 [some (.ref (ad p1)), some (.ref (ad p2)), some (.int y2), some (.int y3), some (.int y4), some (.int y5)] [] σ) (y2 : Int32) (y3 : Int32) (y5 : Int32) (v0 : Int32) (σ : HS), f_X3_turns_44 p1 p2 k2 k13 y2 y3 y5 v0 σ = some R → AW ids ad ca Γ 44 [some (.ref (ad p1)), some (.ref (ad p2)), some (.int y2), some (.int y3), none, some (.int y5)] [.int v0] σ := by
    intro k2 hk2 k13 hk13 y2 y3 y5 v0 σ h
    unfold f_X3_turns_44 at h
    refine a_istore C dX3_turns_44 (by decide) rfl (vs1 := [some (.ref (ad p1)), some (.ref (ad p2)), some (.int y2), some (.int y3), some (.int v0), some (.int y5)]) rfl ?_
    refine p_iinc C (y := (y5 + 1)) (fun z1 => [some (.ref (ad p1)), some (.ref (ad p2)), some (.int y2), some (.int y3), some (.int v0), some (.int z1)]) dX3_turns_46 rfl rfl (by decide) rfl (fun _ => rfl) h (fun z1 h => ?_)
    refine a_goto C dX3_turns_49 (tgt := 13) rfl ?_
    exact hk13 _ _ _ _ _ h
  have j43 : ∀ (k2 : Int32 → Int32 → HS → Option (Int32 × HS)) (hk2 : ∀ (y2 : Int32) (y3 : Int32) (σ : HS), k2 y2 y3 σ = some R → AW ids ad ca Γ 2 [some (.ref (ad p1)), some (.ref (ad p2)), some (.int y2), some (.int y3), none, none] [] σ) (k13 : Int32 → Int32 → Int32 → Int32 → HS → Option (Int32 × HS)) (hk13 : ∀ (y2 : Int32) (y3 : Int32) (y4 : Int32) (y5 : Int32) (σ : HS), k13 y2 y3 y4 y5 σ = some R → AW ids ad ca Γ 13 [some (.ref (ad p1)), some (.ref (ad p2)), some (.int y2), some (.int y3), some (.int y4), some (.int y5)] [] σ) (y2 : Int32) (y3 : Int32) (y5 : Int32) (σ : HS), f_X3_turns_43 p1 p2 k2 k13 y2 y3 y5 σ = some R → AW ids ad ca Γ 43 [some (.ref (ad p1)), some (.ref (ad p2)), some (.int y2), some (.int y3), none, some (.int y5)] [] σ := by
    intro k2 hk2 k13 hk13 y2 y3 y5 σ h
    unfold f_X3_turns_43 at h
    refine a_iconst C dX3_turns_43 (v := 0) rfl ?_
    exact j44 k2 hk2 k13 hk13 _ _ _ _ _ h
  have j13 : ∀ (k2 : Int32 → Int32 → HS → Option (Int32 × HS)) (hk2 : ∀ (y2 : Int32) (y3 : Int32) (σ : HS), k2 y2 y3 σ = some R → AW ids ad ca Γ 2 [some (.ref (ad p1)), some (.ref (ad p2)), some (.int y2), some (.int y3), none, none] [] σ) (n : Nat) (y2 : Int32) (y3 : Int32) (y4 : Int32) (y5 : Int32) (σ : HS), f_X3_turns_13 p1 p2 k2 n y2 y3 y4 y5 σ = some R → AW ids ad ca Γ 13 [some (.ref (ad p1)), some (.ref (ad p2)), some (.int y2), some (.int y3), some (.int y4), some (.int y5)] [] σ := by
    intro k2 hk2 n
    induction n with
    | zero => intro y2 y3 y4 y5 σ h; exact nn h
    | succ n ih =>
      intro y2 y3 y4 y5 σ h
      have h : b_X3_turns_13 p1 p2 k2 (f_X3_turns_13 p1 p2 k2 n) y2 y3 y4 y5 σ = some R := h
      unfold b_X3_turns_13 at h
      refine a_iload C dX3_turns_13 rfl ?_
      refine a_iload_n C dX3_turns_15 (i := 2) rfl rfl ?_
      refine p_ic_ge C (X := y5.toInt) (Y := y2.toInt) rfl rfl dX3_turns_16 (tgt := 52) rfl h (fun h => ?_) (fun h => ?_)
      ·
        refine a_iload C dX3_turns_52 rfl ?_
        refine p_if_eq C (X := y4.toInt) rfl dX3_turns_54 (tgt := 59) rfl h (fun h => ?_) (fun h => ?_)
        ·
          refine p_iinc C (y := (y3 + 1)) (fun z1 => [some (.ref (ad p1)), some (.ref (ad p2)), some (.int y2), some (.int z1), some (.int y4), some (.int y5)]) dX3_turns_59 rfl rfl (by decide) rfl (fun _ => rfl) h (fun z1 h => ?_)
          refine a_goto C dX3_turns_62 (tgt := 2) rfl ?_
          refine AW.sub (vs' := [some (.ref (ad p1)), some (.ref (ad p2)), some (.int y2), some (.int z1), none, none]) (lsub_of (by simp [lsubB])) ?_
          exact hk2 _ _ _ h
        ·
          refine a_iload_n C dX3_turns_57 (i := 3) rfl rfl ?_
          exact a_iret Rt dX3_turns_58 rfl (ret_eq (h.trans (congrArg some hR.symm)))
      ·
        refine a_iload C dX3_turns_19 rfl ?_
        refine p_if_eq C (X := y4.toInt) rfl dX3_turns_21 (tgt := 43) rfl h (fun h => ?_) (fun h => ?_)
        ·
          refine AW.sub (vs' := [some (.ref (ad p1)), some (.ref (ad p2)), some (.int y2), some (.int y3), none, some (.int y5)]) (lsub_of (by simp [lsubB])) ?_
          exact j43 k2 hk2 (f_X3_turns_13 p1 p2 k2 n) (fun y2 y3 y4 y5 σ h => ih y2 y3 y4 y5 σ h) _ _ _ _ h
        ·
          refine a_aload_n C dX3_turns_24 (i := 0) rfl rfl ?_
          refine a_iload C dX3_turns_25 rfl ?_
          refine a_iload_n C dX3_turns_27 (i := 3) rfl rfl ?_
          refine a_iadd C dX3_turns_28 ?_
          refine a_iload_n C dX3_turns_29 (i := 2) rfl rfl ?_
          refine p_irem C rfl dX3_turns_30 h (fun h => ?_)
          refine p_iald C (i := p1) hp1 hid rfl dX3_turns_31 h (fun h => ?_)
          refine a_aload_n C dX3_turns_32 (i := 1) rfl rfl ?_
          refine a_iload C dX3_turns_33 rfl ?_
          refine p_iald C (i := p2) hp2 hid rfl dX3_turns_35 h (fun h => ?_)
          refine p_ic_ne C (X := (σ.1 p1 ((y5 + y3) - (y5 + y3) / y2 * y2).toInt.toNat).toInt) (Y := (σ.1 p2 y5.toInt.toNat).toInt) rfl rfl dX3_turns_36 (tgt := 43) rfl h (fun h => ?_) (fun h => ?_)
          ·
            refine AW.sub (vs' := [some (.ref (ad p1)), some (.ref (ad p2)), some (.int y2), some (.int y3), none, some (.int y5)]) (lsub_of (by simp [lsubB])) ?_
            exact j43 k2 hk2 (f_X3_turns_13 p1 p2 k2 n) (fun y2 y3 y4 y5 σ h => ih y2 y3 y4 y5 σ h) _ _ _ _ h
          ·
            refine a_iconst C dX3_turns_39 (v := 1) rfl ?_
            refine a_goto C dX3_turns_40 (tgt := 44) rfl ?_
            refine AW.sub (vs' := [some (.ref (ad p1)), some (.ref (ad p2)), some (.int y2), some (.int y3), none, some (.int y5)]) (lsub_of (by simp [lsubB])) ?_
            exact j44 k2 hk2 (f_X3_turns_13 p1 p2 k2 n) (fun y2 y3 y4 y5 σ h => ih y2 y3 y4 y5 σ h) _ _ _ _ _ h
  have j2 : ∀ (n : Nat) (y2 : Int32) (y3 : Int32) (σ : HS), f_X3_turns_2 p1 p2 n y2 y3 σ = some R → AW ids ad ca Γ 2 [some (.ref (ad p1)), some (.ref (ad p2)), some (.int y2), some (.int y3), none, none] [] σ := by
    intro n
    induction n with
    | zero => intro y2 y3 σ h; exact nn h
    | succ n ih =>
      intro y2 y3 σ h
      have h : b_X3_turns_2 p1 p2 (f_X3_turns_2 p1 p2 n) y2 y3 σ = some R := h
      unfold b_X3_turns_2 at h
      refine a_iload_n C dX3_turns_2 (i := 3) rfl rfl ?_
      refine a_iload_n C dX3_turns_3 (i := 2) rfl rfl ?_
      refine p_ic_ge C (X := y3.toInt) (Y := y2.toInt) rfl rfl dX3_turns_4 (tgt := 65) rfl h (fun h => ?_) (fun h => ?_)
      ·
        refine a_bipush C dX3_turns_65 (v := (-2)) rfl ?_
        exact a_iret Rt dX3_turns_67 rfl (ret_eq (h.trans (congrArg some hR.symm)))
      ·
        refine a_iconst C dX3_turns_7 (v := 1) rfl ?_
        refine a_istore C dX3_turns_8 (by decide) rfl (vs1 := [some (.ref (ad p1)), some (.ref (ad p2)), some (.int y2), some (.int y3), some (.int 1), none]) rfl ?_
        refine a_iconst C dX3_turns_10 (v := 0) rfl ?_
        refine a_istore C dX3_turns_11 (by decide) rfl (vs1 := [some (.ref (ad p1)), some (.ref (ad p2)), some (.int y2), some (.int y3), some (.int 1), some (.int 0)]) rfl ?_
        exact j13 (f_X3_turns_2 p1 p2 n) (fun y2 y3 σ h => ih y2 y3 σ h) _ _ _ _ _ _ h
  refine a_iconst C dX3_turns_0 (v := 0) rfl ?_
  refine a_istore_n C dX3_turns_1 (i := 3) rfl (by decide) rfl (vs1 := [some (.ref (ad p1)), some (.ref (ad p2)), some (.int x3), some (.int 0), none, none]) rfl ?_
  exact j2 _ _ _ _ h
set_option maxHeartbeats 4000000 in
set_option maxRecDepth 100000 in
theorem Z_X3_rounds {l : Launch} {D : va_G} {ids : List Nat} {ad : Nat → Nat} {ca : Nat → ClassId} {σ : HS} {p1 : Nat} {x2 : Int32} {r0 : Int32} {s0 : HS} (hid : ∀ i, i < 277 → i ∈ ids) (hp1 : rowOK p1) (h : f_X3_rounds p1 x2 σ = some (r0, s0)) : Ki l D ids ad ca yX3_rounds cX3_rounds 7 .int 0 0 [.ref (ad p1), .int x2] σ (fun r σ1 => r = r0 ∧ σ1 = s0) := by
  obtain ⟨R, hR⟩ : ∃ R, (r0, s0) = R := ⟨_, rfl⟩
  replace h := h.trans (congrArg some hR)
  refine Ki.of (by decide) (Nat.le_of_ble_eq_true rfl) 5 (fun Γ C Rt => ?_)
  show AW ids ad ca Γ 0 [some (.ref (ad p1)), some (.int x2), none, none, none, none, none] [] σ
  unfold f_X3_rounds at h
  have j62 : ∀ (k7 : Int32 → Int32 → Int32 → Int32 → HS → Option (Int32 × HS)) (hk7 : ∀ (y1 : Int32) (y2 : Int32) (y3 : Int32) (y4 : Int32) (σ : HS), k7 y1 y2 y3 y4 σ = some R → AW ids ad ca Γ 7 [some (.ref (ad p1)), some (.int y1), some (.int y2), some (.int y3), some (.int y4), none, none] [] σ) (y1 : Int32) (y2 : Int32) (y3 : Int32) (y4 : Int32) (σ : HS), f_X3_rounds_62 p1 k7 y1 y2 y3 y4 σ = some R → AW ids ad ca Γ 62 [some (.ref (ad p1)), some (.int y1), some (.int y2), some (.int y3), some (.int y4), none, none] [] σ := by
    intro k7 hk7 y1 y2 y3 y4 σ h
    unfold f_X3_rounds_62 at h
    refine p_iinc C (y := (y4 + 1)) (fun z1 => [some (.ref (ad p1)), some (.int y1), some (.int y2), some (.int y3), some (.int z1), none, none]) dX3_rounds_62 rfl rfl (by decide) rfl (fun _ => rfl) h (fun z1 h => ?_)
    refine a_goto C dX3_rounds_65 (tgt := 7) rfl ?_
    exact hk7 _ _ _ _ _ h
  have j32 : ∀ (k7 : Int32 → Int32 → Int32 → Int32 → HS → Option (Int32 × HS)) (hk7 : ∀ (y1 : Int32) (y2 : Int32) (y3 : Int32) (y4 : Int32) (σ : HS), k7 y1 y2 y3 y4 σ = some R → AW ids ad ca Γ 7 [some (.ref (ad p1)), some (.int y1), some (.int y2), some (.int y3), some (.int y4), none, none] [] σ) (n : Nat) (y1 : Int32) (y2 : Int32) (y3 : Int32) (y4 : Int32) (y5 : Int32) (y6 : Int32) (σ : HS), f_X3_rounds_32 p1 k7 n y1 y2 y3 y4 y5 y6 σ = some R → AW ids ad ca Γ 32 [some (.ref (ad p1)), some (.int y1), some (.int y2), some (.int y3), some (.int y4), some (.int y5), some (.int y6)] [] σ := by
    intro k7 hk7 n
    induction n with
    | zero => intro y1 y2 y3 y4 y5 y6 σ h; exact nn h
    | succ n ih =>
      intro y1 y2 y3 y4 y5 y6 σ h
      have h : b_X3_rounds_32 p1 k7 (f_X3_rounds_32 p1 k7 n) y1 y2 y3 y4 y5 y6 σ = some R := h
      unfold b_X3_rounds_32 at h
      refine a_iload C dX3_rounds_32 rfl ?_
      refine a_iload_n C dX3_rounds_34 (i := 1) rfl rfl ?_
      refine p_ic_ge C (X := y6.toInt) (Y := y1.toInt) rfl rfl dX3_rounds_35 (tgt := 62) rfl h (fun h => ?_) (fun h => ?_)
      ·
        refine AW.sub (vs' := [some (.ref (ad p1)), some (.int y1), some (.int y2), some (.int y3), some (.int y4), none, none]) (lsub_of (by simp [lsubB])) ?_
        exact j62 k7 hk7 _ _ _ _ _ h
      ·
        refine a_iload_n C dX3_rounds_38 (i := 2) rfl rfl ?_
        refine a_iconst C dX3_rounds_39 (v := 1) rfl ?_
        refine a_iload C dX3_rounds_40 rfl ?_
        refine a_ishl C dX3_rounds_42 ?_
        refine a_ior C dX3_rounds_43 ?_
        refine p_istore_n C (fun z1 => [some (.ref (ad p1)), some (.int y1), some (.int z1), some (.int y3), some (.int y4), some (.int y5), some (.int y6)]) dX3_rounds_44 (i := 2) rfl (by decide) rfl (fun _ => rfl) h (fun z1 h => ?_)
        refine a_iload C dX3_rounds_45 rfl ?_
        refine a_aload_n C dX3_rounds_47 (i := 0) rfl rfl ?_
        refine a_iload C dX3_rounds_48 rfl ?_
        refine p_iald C (i := p1) hp1 hid rfl dX3_rounds_50 h (fun h => ?_)
        refine a_iadd C dX3_rounds_51 ?_
        refine a_iload_n C dX3_rounds_52 (i := 1) rfl rfl ?_
        refine p_irem C rfl dX3_rounds_53 h (fun h => ?_)
        refine p_istore C (fun z2 => [some (.ref (ad p1)), some (.int y1), some (.int z1), some (.int y3), some (.int y4), some (.int z2), some (.int y6)]) dX3_rounds_54 (by decide) rfl (fun _ => rfl) h (fun z2 h => ?_)
        refine p_iinc C (y := (y6 + 1)) (fun z3 => [some (.ref (ad p1)), some (.int y1), some (.int z1), some (.int y3), some (.int y4), some (.int z2), some (.int z3)]) dX3_rounds_56 rfl rfl (by decide) rfl (fun _ => rfl) h (fun z3 h => ?_)
        refine a_goto C dX3_rounds_59 (tgt := 32) rfl ?_
        exact ih _ _ _ _ _ _ _ h
  have j7 : ∀ (n : Nat) (y1 : Int32) (y2 : Int32) (y3 : Int32) (y4 : Int32) (σ : HS), f_X3_rounds_7 p1 n y1 y2 y3 y4 σ = some R → AW ids ad ca Γ 7 [some (.ref (ad p1)), some (.int y1), some (.int y2), some (.int y3), some (.int y4), none, none] [] σ := by
    intro n
    induction n with
    | zero => intro y1 y2 y3 y4 σ h; exact nn h
    | succ n ih =>
      intro y1 y2 y3 y4 σ h
      have h : b_X3_rounds_7 p1 (f_X3_rounds_7 p1 n) y1 y2 y3 y4 σ = some R := h
      unfold b_X3_rounds_7 at h
      refine a_iload C dX3_rounds_7 rfl ?_
      refine a_iload_n C dX3_rounds_9 (i := 1) rfl rfl ?_
      refine p_ic_ge C (X := y4.toInt) (Y := y1.toInt) rfl rfl dX3_rounds_10 (tgt := 68) rfl h (fun h => ?_) (fun h => ?_)
      ·
        refine a_iload_n C dX3_rounds_68 (i := 3) rfl rfl ?_
        exact a_iret Rt dX3_rounds_69 rfl (ret_eq (h.trans (congrArg some hR.symm)))
      ·
        refine a_iload_n C dX3_rounds_13 (i := 2) rfl rfl ?_
        refine a_iload C dX3_rounds_14 rfl ?_
        refine a_ishr C dX3_rounds_16 ?_
        refine a_iconst C dX3_rounds_17 (v := 1) rfl ?_
        refine a_iand C dX3_rounds_18 ?_
        refine p_if_ne C (X := ((y2 >>> (y4 &&& 31)) &&& (1 : Int32)).toInt) rfl dX3_rounds_19 (tgt := 62) rfl h (fun h => ?_) (fun h => ?_)
        ·
          exact j62 (f_X3_rounds_7 p1 n) (fun y1 y2 y3 y4 σ h => ih y1 y2 y3 y4 σ h) _ _ _ _ _ h
        ·
          refine p_iinc C (y := (y3 + 1)) (fun z1 => [some (.ref (ad p1)), some (.int y1), some (.int y2), some (.int z1), some (.int y4), none, none]) dX3_rounds_22 rfl rfl (by decide) rfl (fun _ => rfl) h (fun z1 h => ?_)
          refine a_iload C dX3_rounds_25 rfl ?_
          refine a_istore C dX3_rounds_27 (by decide) rfl (vs1 := [some (.ref (ad p1)), some (.int y1), some (.int y2), some (.int z1), some (.int y4), some (.int y4), none]) rfl ?_
          refine a_iconst C dX3_rounds_29 (v := 0) rfl ?_
          refine a_istore C dX3_rounds_30 (by decide) rfl (vs1 := [some (.ref (ad p1)), some (.int y1), some (.int y2), some (.int z1), some (.int y4), some (.int y4), some (.int 0)]) rfl ?_
          exact j32 (f_X3_rounds_7 p1 n) (fun y1 y2 y3 y4 σ h => ih y1 y2 y3 y4 σ h) _ _ _ _ _ _ _ _ h
  refine a_iconst C dX3_rounds_0 (v := 0) rfl ?_
  refine a_istore_n C dX3_rounds_1 (i := 2) rfl (by decide) rfl (vs1 := [some (.ref (ad p1)), some (.int x2), some (.int 0), none, none, none, none]) rfl ?_
  refine a_iconst C dX3_rounds_2 (v := 0) rfl ?_
  refine a_istore_n C dX3_rounds_3 (i := 3) rfl (by decide) rfl (vs1 := [some (.ref (ad p1)), some (.int x2), some (.int 0), some (.int 0), none, none, none]) rfl ?_
  refine a_iconst C dX3_rounds_4 (v := 0) rfl ?_
  refine a_istore C dX3_rounds_5 (by decide) rfl (vs1 := [some (.ref (ad p1)), some (.int x2), some (.int 0), some (.int 0), some (.int 0), none, none]) rfl ?_
  exact j7 _ _ _ _ _ _ h
set_option maxHeartbeats 4000000 in
set_option maxRecDepth 100000 in
theorem Z_X11_isHeight {l : Launch} {D : va_G} {ids : List Nat} {ad : Nat → Nat} {ca : Nat → ClassId} {σ : HS} {x1 : Int32} {r0 : Int32} {s0 : HS} (hid : ∀ i, i < 277 → i ∈ ids) (h : f_X11_isHeight x1 σ = some (r0, s0)) : Ki l D ids ad ca yX11_isHeight cX11_isHeight 1 .boolean 0 0 [.int x1] σ (fun r σ1 => r = r0 ∧ σ1 = s0) := by
  obtain ⟨R, hR⟩ : ∃ R, (r0, s0) = R := ⟨_, rfl⟩
  replace h := h.trans (congrArg some hR)
  refine Ki.of (by decide) (Nat.le_of_ble_eq_true rfl) 0 (fun Γ C Rt => ?_)
  show AW ids ad ca Γ 0 [some (.int x1)] [] σ
  unfold f_X11_isHeight at h
  refine a_iload_n C dX11_isHeight_0 (i := 0) rfl rfl ?_
  refine p_if_lt C (X := x1.toInt) rfl dX11_isHeight_1 (tgt := 14) rfl h (fun h => ?_) (fun h => ?_)
  ·
    refine a_iconst C dX11_isHeight_14 (v := 0) rfl ?_
    exact a_iret Rt dX11_isHeight_15 (nar_z (by decide)).1 (ret_eq (h.trans (congrArg some hR.symm)))
  ·
    refine a_iload_n C dX11_isHeight_4 (i := 0) rfl rfl ?_
    refine a_bipush C dX11_isHeight_5 (v := 9) rfl ?_
    refine p_ic_gt C (X := x1.toInt) (Y := 9) rfl (by decide) dX11_isHeight_7 (tgt := 14) rfl h (fun h => ?_) (fun h => ?_)
    ·
      refine a_iconst C dX11_isHeight_14 (v := 0) rfl ?_
      exact a_iret Rt dX11_isHeight_15 (nar_z (by decide)).1 (ret_eq (h.trans (congrArg some hR.symm)))
    ·
      refine a_iconst C dX11_isHeight_10 (v := 1) rfl ?_
      refine a_goto C dX11_isHeight_11 (tgt := 15) rfl ?_
      exact a_iret Rt dX11_isHeight_15 (nar_z (by decide)).1 (ret_eq (h.trans (congrArg some hR.symm)))
set_option maxHeartbeats 4000000 in
set_option maxRecDepth 100000 in
theorem Z_X3_pairsToSwap {l : Launch} {D : va_G} {ids : List Nat} {ad : Nat → Nat} {ca : Nat → ClassId} {σ : HS} {p1 : Nat} {x2 : Int32} {r0 : Int32} {s0 : HS} (hid : ∀ i, i < 277 → i ∈ ids) (hp1 : rowOK p1) (h : f_X3_pairsToSwap p1 x2 σ = some (r0, s0)) : Ki l D ids ad ca yX3_pairsToSwap cX3_pairsToSwap 5 .int 1 20 [.ref (ad p1), .int x2] σ (fun r σ1 => r = r0 ∧ σ1 = s0) := by
  obtain ⟨R, hR⟩ : ∃ R, (r0, s0) = R := ⟨_, rfl⟩
  replace h := h.trans (congrArg some hR)
  refine Ki.of (by decide) (Nat.le_of_ble_eq_true rfl) 3 (fun Γ C Rt => ?_)
  show AW ids ad ca Γ 0 [some (.ref (ad p1)), some (.int x2), none, none, none] [] σ
  unfold f_X3_pairsToSwap at h
  have j50 : ∀ (k4 : Int32 → Int32 → Int32 → HS → Option (Int32 × HS)) (hk4 : ∀ (y1 : Int32) (y2 : Int32) (y3 : Int32) (σ : HS), k4 y1 y2 y3 σ = some R → AW ids ad ca Γ 4 [some (.ref (ad p1)), some (.int y1), some (.int y2), some (.int y3), none] [] σ) (k12 : Int32 → Int32 → Int32 → Int32 → HS → Option (Int32 × HS)) (hk12 : ∀ (y1 : Int32) (y2 : Int32) (y3 : Int32) (y4 : Int32) (σ : HS), k12 y1 y2 y3 y4 σ = some R → AW ids ad ca Γ 12 [some (.ref (ad p1)), some (.int y1), some (.int y2), some (.int y3), some (.int y4)] [] σ) (y1 : Int32) (y2 : Int32) (y3 : Int32) (y4 : Int32) (σ : HS), f_X3_pairsToSwap_50 p1 k4 k12 y1 y2 y3 y4 σ = some R → AW ids ad ca Γ 50 [some (.ref (ad p1)), some (.int y1), some (.int y2), some (.int y3), some (.int y4)] [] σ := by
    intro k4 hk4 k12 hk12 y1 y2 y3 y4 σ h
    unfold f_X3_pairsToSwap_50 at h
    refine p_iinc C (y := (y4 + 1)) (fun z1 => [some (.ref (ad p1)), some (.int y1), some (.int y2), some (.int y3), some (.int z1)]) dX3_pairsToSwap_50 rfl rfl (by decide) rfl (fun _ => rfl) h (fun z1 h => ?_)
    refine a_goto C dX3_pairsToSwap_53 (tgt := 12) rfl ?_
    exact hk12 _ _ _ _ _ h
  have j12 : ∀ (k4 : Int32 → Int32 → Int32 → HS → Option (Int32 × HS)) (hk4 : ∀ (y1 : Int32) (y2 : Int32) (y3 : Int32) (σ : HS), k4 y1 y2 y3 σ = some R → AW ids ad ca Γ 4 [some (.ref (ad p1)), some (.int y1), some (.int y2), some (.int y3), none] [] σ) (n : Nat) (y1 : Int32) (y2 : Int32) (y3 : Int32) (y4 : Int32) (σ : HS), f_X3_pairsToSwap_12 p1 k4 n y1 y2 y3 y4 σ = some R → AW ids ad ca Γ 12 [some (.ref (ad p1)), some (.int y1), some (.int y2), some (.int y3), some (.int y4)] [] σ := by
    intro k4 hk4 n
    induction n with
    | zero => intro y1 y2 y3 y4 σ h; exact nn h
    | succ n ih =>
      intro y1 y2 y3 y4 σ h
      have h : b_X3_pairsToSwap_12 p1 k4 (f_X3_pairsToSwap_12 p1 k4 n) y1 y2 y3 y4 σ = some R := h
      unfold b_X3_pairsToSwap_12 at h
      refine a_iload C dX3_pairsToSwap_12 rfl ?_
      refine a_iload_n C dX3_pairsToSwap_14 (i := 3) rfl rfl ?_
      refine p_ic_ge C (X := y4.toInt) (Y := y3.toInt) rfl rfl dX3_pairsToSwap_15 (tgt := 56) rfl h (fun h => ?_) (fun h => ?_)
      ·
        refine p_iinc C (y := (y3 + 1)) (fun z1 => [some (.ref (ad p1)), some (.int y1), some (.int y2), some (.int z1), some (.int y4)]) dX3_pairsToSwap_56 rfl rfl (by decide) rfl (fun _ => rfl) h (fun z1 h => ?_)
        refine a_goto C dX3_pairsToSwap_59 (tgt := 4) rfl ?_
        refine AW.sub (vs' := [some (.ref (ad p1)), some (.int y1), some (.int y2), some (.int z1), none]) (lsub_of (by simp [lsubB])) ?_
        exact hk4 _ _ _ _ h
      ·
        refine a_aload_n C dX3_pairsToSwap_18 (i := 0) rfl rfl ?_
        refine a_iload_n C dX3_pairsToSwap_19 (i := 3) rfl rfl ?_
        refine p_iald C (i := p1) hp1 hid rfl dX3_pairsToSwap_20 h (fun h => ?_)
        refine a_iload_n C dX3_pairsToSwap_21 (i := 3) rfl rfl ?_
        refine a_iadd C dX3_pairsToSwap_22 ?_
        refine a_iload C dX3_pairsToSwap_23 rfl ?_
        refine a_isub C dX3_pairsToSwap_25 ?_
        refine p_callSNi C (As := [.int (((σ.1 p1 y3.toInt.toNat) + y3) - y4)]) h (fun _ _ e => Z_X11_isHeight hid e) ms_X11_isHeight (host := "StateJuggler") (by decide +kernel) rfl rfl (Nat.le_of_ble_eq_true rfl) (Nat.le_of_ble_eq_true rfl) (Nat.le_of_ble_eq_true rfl) dX3_pairsToSwap_26 (fun r3 σ2 h => ?_)
        refine p_if_eq C (X := r3.toInt) rfl dX3_pairsToSwap_29 (tgt := 50) rfl h (fun h => ?_) (fun h => ?_)
        ·
          exact j50 k4 hk4 (f_X3_pairsToSwap_12 p1 k4 n) (fun y1 y2 y3 y4 σ h => ih y1 y2 y3 y4 σ h) _ _ _ _ _ h
        ·
          refine a_aload_n C dX3_pairsToSwap_32 (i := 0) rfl rfl ?_
          refine a_iload C dX3_pairsToSwap_33 rfl ?_
          refine p_iald C (i := p1) hp1 hid rfl dX3_pairsToSwap_35 h (fun h => ?_)
          refine a_iload_n C dX3_pairsToSwap_36 (i := 3) rfl rfl ?_
          refine a_iload C dX3_pairsToSwap_37 rfl ?_
          refine a_isub C dX3_pairsToSwap_39 ?_
          refine a_isub C dX3_pairsToSwap_40 ?_
          refine p_callSNi C (As := [.int ((σ2.1 p1 y4.toInt.toNat) - (y3 - y4))]) h (fun _ _ e => Z_X11_isHeight hid e) ms_X11_isHeight (host := "StateJuggler") (by decide +kernel) rfl rfl (Nat.le_of_ble_eq_true rfl) (Nat.le_of_ble_eq_true rfl) (Nat.le_of_ble_eq_true rfl) dX3_pairsToSwap_41 (fun r5 σ4 h => ?_)
          refine p_if_eq C (X := r5.toInt) rfl dX3_pairsToSwap_44 (tgt := 50) rfl h (fun h => ?_) (fun h => ?_)
          ·
            exact j50 k4 hk4 (f_X3_pairsToSwap_12 p1 k4 n) (fun y1 y2 y3 y4 σ h => ih y1 y2 y3 y4 σ h) _ _ _ _ _ h
          ·
            refine p_iinc C (y := (y2 + 1)) (fun z6 => [some (.ref (ad p1)), some (.int y1), some (.int z6), some (.int y3), some (.int y4)]) dX3_pairsToSwap_47 rfl rfl (by decide) rfl (fun _ => rfl) h (fun z6 h => ?_)
            exact j50 k4 hk4 (f_X3_pairsToSwap_12 p1 k4 n) (fun y1 y2 y3 y4 σ h => ih y1 y2 y3 y4 σ h) _ _ _ _ _ h
  have j4 : ∀ (n : Nat) (y1 : Int32) (y2 : Int32) (y3 : Int32) (σ : HS), f_X3_pairsToSwap_4 p1 n y1 y2 y3 σ = some R → AW ids ad ca Γ 4 [some (.ref (ad p1)), some (.int y1), some (.int y2), some (.int y3), none] [] σ := by
    intro n
    induction n with
    | zero => intro y1 y2 y3 σ h; exact nn h
    | succ n ih =>
      intro y1 y2 y3 σ h
      have h : b_X3_pairsToSwap_4 p1 (f_X3_pairsToSwap_4 p1 n) y1 y2 y3 σ = some R := h
      unfold b_X3_pairsToSwap_4 at h
      refine a_iload_n C dX3_pairsToSwap_4 (i := 3) rfl rfl ?_
      refine a_iload_n C dX3_pairsToSwap_5 (i := 1) rfl rfl ?_
      refine p_ic_ge C (X := y3.toInt) (Y := y1.toInt) rfl rfl dX3_pairsToSwap_6 (tgt := 62) rfl h (fun h => ?_) (fun h => ?_)
      ·
        refine a_iload_n C dX3_pairsToSwap_62 (i := 2) rfl rfl ?_
        exact a_iret Rt dX3_pairsToSwap_63 rfl (ret_eq (h.trans (congrArg some hR.symm)))
      ·
        refine a_iconst C dX3_pairsToSwap_9 (v := 0) rfl ?_
        refine a_istore C dX3_pairsToSwap_10 (by decide) rfl (vs1 := [some (.ref (ad p1)), some (.int y1), some (.int y2), some (.int y3), some (.int 0)]) rfl ?_
        exact j12 (f_X3_pairsToSwap_4 p1 n) (fun y1 y2 y3 σ h => ih y1 y2 y3 σ h) _ _ _ _ _ _ h
  refine a_iconst C dX3_pairsToSwap_0 (v := 0) rfl ?_
  refine a_istore_n C dX3_pairsToSwap_1 (i := 2) rfl (by decide) rfl (vs1 := [some (.ref (ad p1)), some (.int x2), some (.int 0), none, none]) rfl ?_
  refine a_iconst C dX3_pairsToSwap_2 (v := 1) rfl ?_
  refine a_istore_n C dX3_pairsToSwap_3 (i := 3) rfl (by decide) rfl (vs1 := [some (.ref (ad p1)), some (.int x2), some (.int 0), some (.int 1), none]) rfl ?_
  exact j4 _ _ _ _ _ h
set_option maxHeartbeats 4000000 in
set_option maxRecDepth 100000 in
theorem Z_X3_landingBits {l : Launch} {D : va_G} {ids : List Nat} {ad : Nat → Nat} {ca : Nat → ClassId} {σ : HS} {p1 : Nat} {x2 : Int32} {r0 : Int32} {s0 : HS} (hid : ∀ i, i < 277 → i ∈ ids) (hp1 : rowOK p1) (h : f_X3_landingBits p1 x2 σ = some (r0, s0)) : Ki l D ids ad ca yX3_landingBits cX3_landingBits 5 .int 1 22 [.ref (ad p1), .int x2] σ (fun r σ1 => r = r0 ∧ σ1 = s0) := by
  obtain ⟨R, hR⟩ : ∃ R, (r0, s0) = R := ⟨_, rfl⟩
  replace h := h.trans (congrArg some hR)
  refine Ki.of (by decide) (Nat.le_of_ble_eq_true rfl) 3 (fun Γ C Rt => ?_)
  show AW ids ad ca Γ 0 [some (.ref (ad p1)), some (.int x2), none, none, none] [] σ
  unfold f_X3_landingBits at h
  have j38 : ∀ (k4 : Int32 → Int32 → Int32 → HS → Option (Int32 × HS)) (hk4 : ∀ (y1 : Int32) (y2 : Int32) (y3 : Int32) (σ : HS), k4 y1 y2 y3 σ = some R → AW ids ad ca Γ 4 [some (.ref (ad p1)), some (.int y1), some (.int y2), some (.int y3), none] [] σ) (y1 : Int32) (y2 : Int32) (y3 : Int32) (σ : HS), f_X3_landingBits_38 p1 k4 y1 y2 y3 σ = some R → AW ids ad ca Γ 38 [some (.ref (ad p1)), some (.int y1), some (.int y2), some (.int y3), none] [] σ := by
    intro k4 hk4 y1 y2 y3 σ h
    unfold f_X3_landingBits_38 at h
    refine p_iinc C (y := (y3 + 1)) (fun z1 => [some (.ref (ad p1)), some (.int y1), some (.int y2), some (.int z1), none]) dX3_landingBits_38 rfl rfl (by decide) rfl (fun _ => rfl) h (fun z1 h => ?_)
    refine a_goto C dX3_landingBits_41 (tgt := 4) rfl ?_
    exact hk4 _ _ _ _ h
  have j4 : ∀ (n : Nat) (y1 : Int32) (y2 : Int32) (y3 : Int32) (σ : HS), f_X3_landingBits_4 p1 n y1 y2 y3 σ = some R → AW ids ad ca Γ 4 [some (.ref (ad p1)), some (.int y1), some (.int y2), some (.int y3), none] [] σ := by
    intro n
    induction n with
    | zero => intro y1 y2 y3 σ h; exact nn h
    | succ n ih =>
      intro y1 y2 y3 σ h
      have h : b_X3_landingBits_4 p1 (f_X3_landingBits_4 p1 n) y1 y2 y3 σ = some R := h
      unfold b_X3_landingBits_4 at h
      refine a_iload_n C dX3_landingBits_4 (i := 3) rfl rfl ?_
      refine a_bipush C dX3_landingBits_5 (v := 9) rfl ?_
      refine p_ic_gt C (X := y3.toInt) (Y := 9) rfl (by decide) dX3_landingBits_7 (tgt := 44) rfl h (fun h => ?_) (fun h => ?_)
      ·
        refine a_iload_n C dX3_landingBits_44 (i := 2) rfl rfl ?_
        exact a_iret Rt dX3_landingBits_45 rfl (ret_eq (h.trans (congrArg some hR.symm)))
      ·
        refine a_iload_n C dX3_landingBits_10 (i := 1) rfl rfl ?_
        refine p_if_le C (X := y1.toInt) rfl dX3_landingBits_11 (tgt := 44) rfl h (fun h => ?_) (fun h => ?_)
        ·
          refine a_iload_n C dX3_landingBits_44 (i := 2) rfl rfl ?_
          exact a_iret Rt dX3_landingBits_45 rfl (ret_eq (h.trans (congrArg some hR.symm)))
        ·
          refine a_aload_n C dX3_landingBits_14 (i := 0) rfl rfl ?_
          refine a_iload_n C dX3_landingBits_15 (i := 3) rfl rfl ?_
          refine a_ineg C dX3_landingBits_16 ?_
          refine a_iload_n C dX3_landingBits_17 (i := 1) rfl rfl ?_
          refine p_callSi C (As := [.int (-y3), .int y1]) h (fun _ _ e => Z_J9_floorMod_7cf53 hid e) ms_J9_floorMod_7cf53 ml_RX3_19 rfl rfl (Nat.le_of_ble_eq_true rfl) (Nat.le_of_ble_eq_true rfl) (Nat.le_of_ble_eq_true rfl) dX3_landingBits_18 (fun r2 σ1 h => ?_)
          refine p_iald C (i := p1) hp1 hid rfl dX3_landingBits_21 h (fun h => ?_)
          refine a_iload_n C dX3_landingBits_22 (i := 3) rfl rfl ?_
          refine a_isub C dX3_landingBits_23 ?_
          refine p_istore C (fun z3 => [some (.ref (ad p1)), some (.int y1), some (.int y2), some (.int y3), some (.int z3)]) dX3_landingBits_24 (by decide) rfl (fun _ => rfl) h (fun z3 h => ?_)
          refine a_iload C dX3_landingBits_26 rfl ?_
          refine p_if_lt C (X := z3.toInt) rfl dX3_landingBits_28 (tgt := 38) rfl h (fun h => ?_) (fun h => ?_)
          ·
            refine AW.sub (vs' := [some (.ref (ad p1)), some (.int y1), some (.int y2), some (.int y3), none]) (lsub_of (by simp [lsubB])) ?_
            exact j38 (f_X3_landingBits_4 p1 n) (fun y1 y2 y3 σ h => ih y1 y2 y3 σ h) _ _ _ _ h
          ·
            refine a_iload_n C dX3_landingBits_31 (i := 2) rfl rfl ?_
            refine a_iconst C dX3_landingBits_32 (v := 1) rfl ?_
            refine a_iload C dX3_landingBits_33 rfl ?_
            refine a_ishl C dX3_landingBits_35 ?_
            refine a_ior C dX3_landingBits_36 ?_
            refine p_istore_n C (fun z4 => [some (.ref (ad p1)), some (.int y1), some (.int z4), some (.int y3), some (.int z3)]) dX3_landingBits_37 (i := 2) rfl (by decide) rfl (fun _ => rfl) h (fun z4 h => ?_)
            refine AW.sub (vs' := [some (.ref (ad p1)), some (.int y1), some (.int z4), some (.int y3), none]) (lsub_of (by simp [lsubB])) ?_
            exact j38 (f_X3_landingBits_4 p1 n) (fun y1 y2 y3 σ h => ih y1 y2 y3 σ h) _ _ _ _ h
  refine a_iconst C dX3_landingBits_0 (v := 0) rfl ?_
  refine a_istore_n C dX3_landingBits_1 (i := 2) rfl (by decide) rfl (vs1 := [some (.ref (ad p1)), some (.int x2), some (.int 0), none, none]) rfl ?_
  refine a_iconst C dX3_landingBits_2 (v := 1) rfl ?_
  refine a_istore_n C dX3_landingBits_3 (i := 3) rfl (by decide) rfl (vs1 := [some (.ref (ad p1)), some (.int x2), some (.int 0), some (.int 1), none]) rfl ?_
  exact j4 _ _ _ _ _ h
set_option maxHeartbeats 4000000 in
set_option maxRecDepth 100000 in
theorem Z_X4_lookAt {l : Launch} {D : va_G} {ids : List Nat} {ad : Nat → Nat} {ca : Nat → ClassId} {σ : HS} {p1 : Nat} {p2 : Nat} {x3 : Int32} {x4 : Int32} {s0 : HS} (hid : ∀ i, i < 277 → i ∈ ids) (hp1 : txtOK p1) (hp2 : airOK p2) (h : f_X4_lookAt p1 p2 x3 x4 σ = some s0) : Kv l D ids ad ca yX4_lookAt cX4_lookAt 5 0 0 [.ref (ad 8), .ref (ad p1), .ref (ad p2), .int x3, .int x4] σ (fun σ1 => σ1 = s0) := by
  obtain ⟨R, hR⟩ : ∃ R, s0 = R := ⟨_, rfl⟩
  replace h := h.trans (congrArg some hR)
  refine Kv.of (by decide) (Nat.le_of_ble_eq_true rfl) 0 (fun Γ C Rt => ?_)
  show AW ids ad ca Γ 0 [some (.ref (ad 8)), some (.ref (ad p1)), some (.ref (ad p2)), some (.int x3), some (.int x4)] [] σ
  unfold f_X4_lookAt at h
  refine a_aload_n C dX4_lookAt_0 (i := 0) rfl rfl ?_
  refine a_get C fl_RX4_12 (i := 8) kd_8 (hid 8 (by decide)) (v := .ref (ad 9)) rfl dX4_lookAt_1 ?_
  refine a_get C fl_RX4_107 (i := 9) kd_9 (hid 9 (by decide)) (v := .ref (ad 10)) rfl dX4_lookAt_4 ?_
  refine a_iconst C dX4_lookAt_7 (v := 0) rfl ?_
  refine a_aload_n C dX4_lookAt_8 (i := 1) rfl rfl ?_
  refine a_get C fl_RX4_110 (i := p1) hp1.1.1 (hid _ hp1.1.2) (v := .ref (ad (p1 + 1))) rfl dX4_lookAt_9 ?_
  refine a_iload_n C dX4_lookAt_12 (i := 3) rfl rfl ?_
  refine p_iald C (i := (p1 + 1)) hp1.2.1.1 hid (by rw [hp1.2.1.2]; rfl) dX4_lookAt_13 h (fun h => ?_)
  refine p_iastc C (i := 10) 0 (show rowOK 10 from ⟨kd_10, by decide⟩) hid (by decide) (by rw [al_10]; decide) dX4_lookAt_14 h (fun σ1 h => ?_)
  refine a_aload_n C dX4_lookAt_15 (i := 0) rfl rfl ?_
  refine a_get C fl_RX4_12 (i := 8) kd_8 (hid 8 (by decide)) (v := .ref (ad 9)) rfl dX4_lookAt_16 ?_
  refine a_get C fl_RX4_107 (i := 9) kd_9 (hid 9 (by decide)) (v := .ref (ad 10)) rfl dX4_lookAt_19 ?_
  refine a_iconst C dX4_lookAt_22 (v := 1) rfl ?_
  refine a_aload_n C dX4_lookAt_23 (i := 1) rfl rfl ?_
  refine a_get C fl_RX4_113 (i := p1) hp1.1.1 (hid _ hp1.1.2) (v := .ref (ad (p1 + 2))) rfl dX4_lookAt_24 ?_
  refine a_iload_n C dX4_lookAt_27 (i := 3) rfl rfl ?_
  refine p_iald C (i := (p1 + 2)) hp1.2.2.1.1 hid (by rw [hp1.2.2.1.2]; rfl) dX4_lookAt_28 h (fun h => ?_)
  refine p_iastc C (i := 10) 1 (show rowOK 10 from ⟨kd_10, by decide⟩) hid (by decide) (by rw [al_10]; decide) dX4_lookAt_29 h (fun σ2 h => ?_)
  refine a_aload_n C dX4_lookAt_30 (i := 0) rfl rfl ?_
  refine a_get C fl_RX4_12 (i := 8) kd_8 (hid 8 (by decide)) (v := .ref (ad 9)) rfl dX4_lookAt_31 ?_
  refine a_get C fl_RX4_107 (i := 9) kd_9 (hid 9 (by decide)) (v := .ref (ad 10)) rfl dX4_lookAt_34 ?_
  refine a_iconst C dX4_lookAt_37 (v := 3) rfl ?_
  refine a_aload_n C dX4_lookAt_38 (i := 2) rfl rfl ?_
  refine a_get C fl_RX4_78 (i := p2) hp2.1.1 (hid _ hp2.1.2) (v := .int (σ2.1 p2 4)) rfl dX4_lookAt_39 ?_
  refine p_iastc C (i := 10) 3 (show rowOK 10 from ⟨kd_10, by decide⟩) hid (by decide) (by rw [al_10]; decide) dX4_lookAt_42 h (fun σ3 h => ?_)
  refine a_aload_n C dX4_lookAt_43 (i := 0) rfl rfl ?_
  refine a_get C fl_RX4_12 (i := 8) kd_8 (hid 8 (by decide)) (v := .ref (ad 9)) rfl dX4_lookAt_44 ?_
  refine a_get C fl_RX4_107 (i := 9) kd_9 (hid 9 (by decide)) (v := .ref (ad 10)) rfl dX4_lookAt_47 ?_
  refine a_iconst C dX4_lookAt_50 (v := 4) rfl ?_
  refine a_aload_n C dX4_lookAt_51 (i := 2) rfl rfl ?_
  refine a_get C fl_RX4_42 (i := p2) hp2.1.1 (hid _ hp2.1.2) (v := .int (σ3.1 p2 5)) rfl dX4_lookAt_52 ?_
  refine p_iastc C (i := 10) 4 (show rowOK 10 from ⟨kd_10, by decide⟩) hid (by decide) (by rw [al_10]; decide) dX4_lookAt_55 h (fun σ4 h => ?_)
  refine a_aload_n C dX4_lookAt_56 (i := 0) rfl rfl ?_
  refine a_get C fl_RX4_12 (i := 8) kd_8 (hid 8 (by decide)) (v := .ref (ad 9)) rfl dX4_lookAt_57 ?_
  refine a_get C fl_RX4_107 (i := 9) kd_9 (hid 9 (by decide)) (v := .ref (ad 10)) rfl dX4_lookAt_60 ?_
  refine a_iconst C dX4_lookAt_63 (v := 5) rfl ?_
  refine a_iload C dX4_lookAt_64 rfl ?_
  refine p_iastc C (i := 10) 5 (show rowOK 10 from ⟨kd_10, by decide⟩) hid (by decide) (by rw [al_10]; decide) dX4_lookAt_66 h (fun σ5 h => ?_)
  refine a_aload_n C dX4_lookAt_67 (i := 0) rfl rfl ?_
  refine a_get C fl_RX4_12 (i := 8) kd_8 (hid 8 (by decide)) (v := .ref (ad 9)) rfl dX4_lookAt_68 ?_
  refine a_get C fl_RX4_107 (i := 9) kd_9 (hid 9 (by decide)) (v := .ref (ad 10)) rfl dX4_lookAt_71 ?_
  refine a_bipush C dX4_lookAt_74 (v := 6) rfl ?_
  refine a_iload_n C dX4_lookAt_76 (i := 3) rfl rfl ?_
  refine p_iastc C (i := 10) 6 (show rowOK 10 from ⟨kd_10, by decide⟩) hid (by decide) (by rw [al_10]; decide) dX4_lookAt_77 h (fun σ6 h => ?_)
  refine a_aload_n C dX4_lookAt_78 (i := 0) rfl rfl ?_
  refine a_get C fl_RX4_12 (i := 8) kd_8 (hid 8 (by decide)) (v := .ref (ad 9)) rfl dX4_lookAt_79 ?_
  refine a_get C fl_RX4_107 (i := 9) kd_9 (hid 9 (by decide)) (v := .ref (ad 10)) rfl dX4_lookAt_82 ?_
  refine a_bipush C dX4_lookAt_85 (v := 7) rfl ?_
  refine a_aload_n C dX4_lookAt_87 (i := 2) rfl rfl ?_
  refine a_get C fl_RX4_98 (i := p2) hp2.1.1 (hid _ hp2.1.2) (v := .int (σ6.1 p2 7)) rfl dX4_lookAt_88 ?_
  refine p_iastc C (i := 10) 7 (show rowOK 10 from ⟨kd_10, by decide⟩) hid (by decide) (by rw [al_10]; decide) dX4_lookAt_91 h (fun σ7 h => ?_)
  refine a_aload_n C dX4_lookAt_92 (i := 0) rfl rfl ?_
  refine a_get C fl_RX4_12 (i := 8) kd_8 (hid 8 (by decide)) (v := .ref (ad 9)) rfl dX4_lookAt_93 ?_
  refine a_get C fl_RX4_107 (i := 9) kd_9 (hid 9 (by decide)) (v := .ref (ad 10)) rfl dX4_lookAt_96 ?_
  refine a_bipush C dX4_lookAt_99 (v := 8) rfl ?_
  refine a_aload_n C dX4_lookAt_101 (i := 2) rfl rfl ?_
  refine a_get C fl_RX4_78 (i := p2) hp2.1.1 (hid _ hp2.1.2) (v := .int (σ7.1 p2 4)) rfl dX4_lookAt_102 ?_
  refine a_iconst C dX4_lookAt_105 (v := 1) rfl ?_
  refine a_iand C dX4_lookAt_106 ?_
  refine p_iastc C (i := 10) 8 (show rowOK 10 from ⟨kd_10, by decide⟩) hid (by decide) (by rw [al_10]; decide) dX4_lookAt_107 h (fun σ8 h => ?_)
  exact a_vret Rt dX4_lookAt_108 (retv_eq (h.trans (congrArg some hR.symm)))
set_option maxHeartbeats 4000000 in
set_option maxRecDepth 100000 in
theorem Z_X4_asks {l : Launch} {D : va_G} {ids : List Nat} {ad : Nat → Nat} {ca : Nat → ClassId} {σ : HS} {p1 : Nat} {x2 : Int32} {x3 : Int32} {r0 : Int32} {s0 : HS} (hid : ∀ i, i < 277 → i ∈ ids) (hp1 : txtOK p1) (h : f_X4_asks p1 x2 x3 σ = some (r0, s0)) : Ki l D ids ad ca yX4_asks cX4_asks 5 .int 2 50 [.ref (ad 8), .ref (ad p1), .int x2, .int x3] σ (fun r σ1 => r = r0 ∧ σ1 = s0) := by
  obtain ⟨R, hR⟩ : ∃ R, (r0, s0) = R := ⟨_, rfl⟩
  replace h := h.trans (congrArg some hR)
  refine Ki.of (by decide) (Nat.le_of_ble_eq_true rfl) 1 (fun Γ C Rt => ?_)
  show AW ids ad ca Γ 0 [some (.ref (ad 8)), some (.ref (ad p1)), some (.int x2), some (.int x3), none] [] σ
  unfold f_X4_asks at h
  refine a_aload_n C dX4_asks_0 (i := 0) rfl rfl ?_
  refine a_get C fl_RX4_12 (i := 8) kd_8 (hid 8 (by decide)) (v := .ref (ad 9)) rfl dX4_asks_1 ?_
  refine a_get C fl_RX4_107 (i := 9) kd_9 (hid 9 (by decide)) (v := .ref (ad 10)) rfl dX4_asks_4 ?_
  refine a_iconst C dX4_asks_7 (v := 2) rfl ?_
  refine a_iload_n C dX4_asks_8 (i := 3) rfl rfl ?_
  refine p_iastc C (i := 10) 2 (show rowOK 10 from ⟨kd_10, by decide⟩) hid (by decide) (by rw [al_10]; decide) dX4_asks_9 h (fun σ1 h => ?_)
  refine a_aload_n C dX4_asks_10 (i := 0) rfl rfl ?_
  refine a_get C fl_RX4_12 (i := 8) kd_8 (hid 8 (by decide)) (v := .ref (ad 9)) rfl dX4_asks_11 ?_
  refine a_aload_n C dX4_asks_14 (i := 1) rfl rfl ?_
  refine a_get C fl_RX4_116 (i := p1) hp1.1.1 (hid _ hp1.1.2) (v := .ref (ad (p1 + 11))) rfl dX4_asks_15 ?_
  refine a_aload_n C dX4_asks_18 (i := 1) rfl rfl ?_
  refine a_get C fl_RX4_119 (i := p1) hp1.1.1 (hid _ hp1.1.2) (v := .ref (ad (p1 + 12))) rfl dX4_asks_19 ?_
  refine a_iload_n C dX4_asks_22 (i := 2) rfl rfl ?_
  refine p_iald C (i := (p1 + 12)) hp1.2.2.2.2.2.2.1.1 hid (by rw [hp1.2.2.2.2.2.2.1.2]; rfl) dX4_asks_23 h (fun h => ?_)
  refine p_callVi C (As := [.ref (ad (p1 + 11)), .int (σ1.1 (p1 + 12) x2.toInt.toNat)]) (i := 9) kd_9 (hid 9 (by decide)) ⟨_, _, rfl⟩ (by decide) h (fun _ _ e => Z_X1_answer hid hp1.2.2.2.2.2.1.1 e) mi_X1_answer ml_RX4_122 rfl rfl (Nat.le_of_ble_eq_true rfl) (Nat.le_of_ble_eq_true rfl) (Nat.le_of_ble_eq_true rfl) dX4_asks_24 (fun r3 σ2 h => ?_)
  refine a_istore C dX4_asks_27 (by decide) rfl (vs1 := [some (.ref (ad 8)), some (.ref (ad p1)), some (.int x2), some (.int x3), some (.int r3)]) rfl ?_
  refine a_iload_n C dX4_asks_29 (i := 2) rfl rfl ?_
  refine ite_k h (fun c1 h => ?_) (fun c1 h => ?_)
  ·
    refine a_lookup C dX4_asks_30 (by decide) (by rw [c1] <;> rfl) (tgt := 56) rfl ?_
    refine a_iconst C dX4_asks_56 (v := 0) rfl ?_
    refine a_bipush C dX4_asks_57 (v := 100) rfl ?_
    refine a_iload C dX4_asks_59 rfl ?_
    refine a_mmin C dX4_asks_61 mm_RX4_95 mm_min.1 mm_min.2.1 mm_min.2.2 (Nat.le_of_ble_eq_true rfl) (Nat.le_of_ble_eq_true rfl) ?_
    refine a_mmax C dX4_asks_64 mm_RX4_51 mm_max.1 mm_max.2.1 mm_max.2.2 (Nat.le_of_ble_eq_true rfl) (Nat.le_of_ble_eq_true rfl) ?_
    exact a_iret Rt dX4_asks_67 rfl (ret_eq (h.trans (congrArg some hR.symm)))
  ·
    refine ite_k h (fun c2 h => ?_) (fun c2 h => ?_)
    ·
      refine a_lookup C dX4_asks_30 (by decide) (by rw [c2] <;> rfl) (tgt := 68) rfl ?_
      refine a_bipush C dX4_asks_68 (v := (-99)) rfl ?_
      refine a_bipush C dX4_asks_70 (v := 99) rfl ?_
      refine a_iload C dX4_asks_72 rfl ?_
      refine a_mmin C dX4_asks_74 mm_RX4_95 mm_min.1 mm_min.2.1 mm_min.2.2 (Nat.le_of_ble_eq_true rfl) (Nat.le_of_ble_eq_true rfl) ?_
      refine a_mmax C dX4_asks_77 mm_RX4_51 mm_max.1 mm_max.2.1 mm_max.2.2 (Nat.le_of_ble_eq_true rfl) (Nat.le_of_ble_eq_true rfl) ?_
      exact a_iret Rt dX4_asks_80 rfl (ret_eq (h.trans (congrArg some hR.symm)))
    ·
      refine a_lookup C dX4_asks_30 (by decide) (off := 51) (by simp [Op.lookupswitch.offset]; rw [if_neg (by omega), if_neg (by omega)]) (tgt := 81) rfl ?_
      refine a_iconst C dX4_asks_81 (v := 0) rfl ?_
      refine a_bipush C dX4_asks_82 (v := 99) rfl ?_
      refine a_iload C dX4_asks_84 rfl ?_
      refine a_mmin C dX4_asks_86 mm_RX4_95 mm_min.1 mm_min.2.1 mm_min.2.2 (Nat.le_of_ble_eq_true rfl) (Nat.le_of_ble_eq_true rfl) ?_
      refine a_mmax C dX4_asks_89 mm_RX4_51 mm_max.1 mm_max.2.1 mm_max.2.2 (Nat.le_of_ble_eq_true rfl) (Nat.le_of_ble_eq_true rfl) ?_
      exact a_iret Rt dX4_asks_92 rfl (ret_eq (h.trans (congrArg some hR.symm)))
set_option maxHeartbeats 4000000 in
set_option maxRecDepth 100000 in
theorem Z_X4_stir {l : Launch} {D : va_G} {ids : List Nat} {ad : Nat → Nat} {ca : Nat → ClassId} {σ : HS} {x1 : Int32} {x2 : Int32} {r0 : Int32} {s0 : HS} (hid : ∀ i, i < 277 → i ∈ ids) (h : f_X4_stir x1 x2 σ = some (r0, s0)) : Ki l D ids ad ca yX4_stir cX4_stir 3 .int 0 0 [.int x1, .int x2] σ (fun r σ1 => r = r0 ∧ σ1 = s0) := by
  obtain ⟨R, hR⟩ : ∃ R, (r0, s0) = R := ⟨_, rfl⟩
  replace h := h.trans (congrArg some hR)
  refine Ki.of (by decide) (Nat.le_of_ble_eq_true rfl) 1 (fun Γ C Rt => ?_)
  show AW ids ad ca Γ 0 [some (.int x1), some (.int x2), none] [] σ
  unfold f_X4_stir at h
  refine a_iload_n C dX4_stir_0 (i := 0) rfl rfl ?_
  refine a_iload_n C dX4_stir_1 (i := 1) rfl rfl ?_
  refine a_ixor C dX4_stir_2 ?_
  refine a_ldc C dX4_stir_3 ko_RX4_129 ?_
  refine a_imul C dX4_stir_5 ?_
  refine a_sipush C dX4_stir_6 (v := 12345) rfl ?_
  refine a_iadd C dX4_stir_9 ?_
  refine p_istore_n C (fun z1 => [some (.int x1), some (.int x2), some (.int z1)]) dX4_stir_10 (i := 2) rfl (by decide) rfl (fun _ => rfl) h (fun z1 h => ?_)
  refine a_iload_n C dX4_stir_11 (i := 2) rfl rfl ?_
  refine a_iload_n C dX4_stir_12 (i := 2) rfl rfl ?_
  refine a_bipush C dX4_stir_13 (v := 15) rfl ?_
  refine a_iushr C dX4_stir_15 ?_
  refine a_ixor C dX4_stir_16 ?_
  exact a_iret Rt dX4_stir_17 rfl (ret_eq (h.trans (congrArg some hR.symm)))
set_option maxHeartbeats 4000000 in
set_option maxRecDepth 100000 in
theorem Z_X4_lot {l : Launch} {D : va_G} {ids : List Nat} {ad : Nat → Nat} {ca : Nat → ClassId} {σ : HS} {x1 : Int32} {x2 : Int32} {x3 : Int32} {r0 : Int32} {s0 : HS} (hid : ∀ i, i < 277 → i ∈ ids) (h : f_X4_lot x1 x2 x3 σ = some (r0, s0)) : Ki l D ids ad ca yX4_lot cX4_lot 4 .int 1 22 [.int x1, .int x2, .int x3] σ (fun r σ1 => r = r0 ∧ σ1 = s0) := by
  obtain ⟨R, hR⟩ : ∃ R, (r0, s0) = R := ⟨_, rfl⟩
  replace h := h.trans (congrArg some hR)
  refine Ki.of (by decide) (Nat.le_of_ble_eq_true rfl) 1 (fun Γ C Rt => ?_)
  show AW ids ad ca Γ 0 [some (.int x1), some (.int x2), some (.int x3), none] [] σ
  unfold f_X4_lot at h
  refine a_iload_n C dX4_lot_0 (i := 1) rfl rfl ?_
  refine a_bipush C dX4_lot_1 (v := 125) rfl ?_
  refine p_callSi C (As := [.int x2, .int 125]) h (fun _ _ e => Z_X4_stir hid e) ms_X4_stir ml_RX4_126 rfl rfl (Nat.le_of_ble_eq_true rfl) (Nat.le_of_ble_eq_true rfl) (Nat.le_of_ble_eq_true rfl) dX4_lot_3 (fun r2 σ1 h => ?_)
  refine a_iload_n C dX4_lot_6 (i := 2) rfl rfl ?_
  refine p_callSi C (As := [.int r2, .int x3]) h (fun _ _ e => Z_X4_stir hid e) ms_X4_stir ml_RX4_126 rfl rfl (Nat.le_of_ble_eq_true rfl) (Nat.le_of_ble_eq_true rfl) (Nat.le_of_ble_eq_true rfl) dX4_lot_7 (fun r4 σ3 h => ?_)
  refine a_istore_n C dX4_lot_10 (i := 3) rfl (by decide) rfl (vs1 := [some (.int x1), some (.int x2), some (.int x3), some (.int r4)]) rfl ?_
  refine a_iload_n C dX4_lot_11 (i := 0) rfl rfl ?_
  refine a_iconst C dX4_lot_12 (v := 1) rfl ?_
  refine p_ic_ge C (X := x1.toInt) (Y := 1) rfl (by decide) dX4_lot_13 (tgt := 20) rfl h (fun h => ?_) (fun h => ?_)
  ·
    refine a_iload_n C dX4_lot_20 (i := 3) rfl rfl ?_
    refine a_iconst C dX4_lot_21 (v := 1) rfl ?_
    refine a_iushr C dX4_lot_22 ?_
    refine a_iload_n C dX4_lot_23 (i := 0) rfl rfl ?_
    refine p_irem C rfl dX4_lot_24 h (fun h => ?_)
    exact a_iret Rt dX4_lot_25 rfl (ret_eq (h.trans (congrArg some hR.symm)))
  ·
    refine a_iconst C dX4_lot_16 (v := 0) rfl ?_
    refine a_goto C dX4_lot_17 (tgt := 25) rfl ?_
    exact a_iret Rt dX4_lot_25 rfl (ret_eq (h.trans (congrArg some hR.symm)))
set_option maxHeartbeats 4000000 in
set_option maxRecDepth 100000 in
theorem Z_X4_catchOne {l : Launch} {D : va_G} {ids : List Nat} {ad : Nat → Nat} {ca : Nat → ClassId} {σ : HS} {p1 : Nat} {p2 : Nat} {x3 : Int32} {x4 : Int32} {s0 : HS} (hid : ∀ i, i < 277 → i ∈ ids) (hp1 : txtOK p1) (hp2 : airOK p2) (h : f_X4_catchOne p1 p2 x3 x4 σ = some s0) : Kv l D ids ad ca yX4_catchOne cX4_catchOne 6 3 74 [.ref (ad 8), .ref (ad p1), .ref (ad p2), .int x3, .int x4] σ (fun σ1 => σ1 = s0) := by
  obtain ⟨R, hR⟩ : ∃ R, s0 = R := ⟨_, rfl⟩
  replace h := h.trans (congrArg some hR)
  refine Kv.of (by decide) (Nat.le_of_ble_eq_true rfl) 1 (fun Γ C Rt => ?_)
  show AW ids ad ca Γ 0 [some (.ref (ad 8)), some (.ref (ad p1)), some (.ref (ad p2)), some (.int x3), some (.int x4), none] [] σ
  unfold f_X4_catchOne at h
  have j43 : ∀ (y3 : Int32) (y5 : Int32) (σ : HS), f_X4_catchOne_43 p1 p2 y3 y5 σ = some R → AW ids ad ca Γ 43 [some (.ref (ad 8)), some (.ref (ad p1)), some (.ref (ad p2)), some (.int y3), none, some (.int y5)] [] σ := by
    intro y3 y5 σ h
    unfold f_X4_catchOne_43 at h
    refine a_aload_n C dX4_catchOne_43 (i := 2) rfl rfl ?_
    refine a_dup C dX4_catchOne_44 rfl ?_
    refine a_get C fl_RX4_92 (i := p2) hp2.1.1 (hid _ hp2.1.2) (v := .int (σ.1 p2 8)) rfl dX4_catchOne_45 ?_
    refine a_aload_n C dX4_catchOne_48 (i := 0) rfl rfl ?_
    refine a_aload_n C dX4_catchOne_49 (i := 1) rfl rfl ?_
    refine a_iconst C dX4_catchOne_50 (v := 3) rfl ?_
    refine a_iconst C dX4_catchOne_51 (v := 0) rfl ?_
    refine p_callVi C (As := [.ref (ad p1), .int 3, .int 0]) (i := 8) kd_8 (hid 8 (by decide)) ⟨_, _, rfl⟩ (by decide) h (fun _ _ e => Z_X4_asks hid hp1 e) mi_X4_asks ml_RX4_38 rfl rfl (Nat.le_of_ble_eq_true rfl) (Nat.le_of_ble_eq_true rfl) (Nat.le_of_ble_eq_true rfl) dX4_catchOne_52 (fun r2 σ1 h => ?_)
    refine a_iadd C dX4_catchOne_55 ?_
    refine p_put C fp_RX4_92 (i := p2) hp2.1.1 (hid _ hp2.1.2) rfl rfl dX4_catchOne_56 h (fun σ3 h => ?_)
    refine a_aload_n C dX4_catchOne_59 (i := 2) rfl rfl ?_
    refine a_sipush C dX4_catchOne_60 (v := 999) rfl ?_
    refine a_aload_n C dX4_catchOne_63 (i := 2) rfl rfl ?_
    refine a_get C fl_RX4_42 (i := p2) hp2.1.1 (hid _ hp2.1.2) (v := .int (σ3.1 p2 5)) rfl dX4_catchOne_64 ?_
    refine a_aload_n C dX4_catchOne_67 (i := 0) rfl rfl ?_
    refine a_aload_n C dX4_catchOne_68 (i := 1) rfl rfl ?_
    refine a_iconst C dX4_catchOne_69 (v := 0) rfl ?_
    refine a_iload C dX4_catchOne_70 rfl ?_
    refine p_callVi C (As := [.ref (ad p1), .int 0, .int y5]) (i := 8) kd_8 (hid 8 (by decide)) ⟨_, _, rfl⟩ (by decide) h (fun _ _ e => Z_X4_asks hid hp1 e) mi_X4_asks ml_RX4_38 rfl rfl (Nat.le_of_ble_eq_true rfl) (Nat.le_of_ble_eq_true rfl) (Nat.le_of_ble_eq_true rfl) dX4_catchOne_72 (fun r5 σ4 h => ?_)
    refine a_iadd C dX4_catchOne_75 ?_
    refine a_mmin C dX4_catchOne_76 mm_RX4_95 mm_min.1 mm_min.2.1 mm_min.2.2 (Nat.le_of_ble_eq_true rfl) (Nat.le_of_ble_eq_true rfl) ?_
    refine p_put C fp_RX4_42 (i := p2) hp2.1.1 (hid _ hp2.1.2) rfl rfl dX4_catchOne_79 h (fun σ6 h => ?_)
    refine a_aload_n C dX4_catchOne_82 (i := 2) rfl rfl ?_
    refine a_dup C dX4_catchOne_83 rfl ?_
    refine a_get C fl_RX4_98 (i := p2) hp2.1.1 (hid _ hp2.1.2) (v := .int (σ6.1 p2 7)) rfl dX4_catchOne_84 ?_
    refine a_iconst C dX4_catchOne_87 (v := 1) rfl ?_
    refine a_iadd C dX4_catchOne_88 ?_
    refine p_put C fp_RX4_98 (i := p2) hp2.1.1 (hid _ hp2.1.2) rfl rfl dX4_catchOne_89 h (fun σ7 h => ?_)
    refine a_aload_n C dX4_catchOne_92 (i := 2) rfl rfl ?_
    refine a_get C fl_RX4_101 (i := p2) hp2.1.1 (hid _ hp2.1.2) (v := .ref (ad (p2 + 3))) rfl dX4_catchOne_93 ?_
    refine a_iload_n C dX4_catchOne_96 (i := 3) rfl rfl ?_
    refine a_dup2 C dX4_catchOne_97 rfl rfl ?_
    refine p_iald C (i := (p2 + 3)) hp2.2.2.2.1 hid (by rw [hp2.2.2.2.2]; rfl) dX4_catchOne_98 h (fun h => ?_)
    refine a_iconst C dX4_catchOne_99 (v := 1) rfl ?_
    refine a_iadd C dX4_catchOne_100 ?_
    refine p_iast C (i := (p2 + 3)) hp2.2.2.2.1 hid (by rw [hp2.2.2.2.2]; rfl) dX4_catchOne_101 h (fun σ8 h => ?_)
    refine a_aload_n C dX4_catchOne_102 (i := 2) rfl rfl ?_
    refine a_get C fl_RX4_74 (i := p2) hp2.1.1 (hid _ hp2.1.2) (v := .ref (ad (p2 + 2))) rfl dX4_catchOne_103 ?_
    refine a_iload_n C dX4_catchOne_106 (i := 3) rfl rfl ?_
    refine a_iload C dX4_catchOne_107 rfl ?_
    refine p_iast C (i := (p2 + 2)) hp2.2.2.1.1 hid (by rw [hp2.2.2.1.2]; rfl) dX4_catchOne_109 h (fun σ9 h => ?_)
    refine a_iload C dX4_catchOne_110 rfl ?_
    refine p_if_ne C (X := y5.toInt) rfl dX4_catchOne_112 (tgt := 122) rfl h (fun h => ?_) (fun h => ?_)
    ·
      exact a_vret Rt dX4_catchOne_122 (retv_eq (h.trans (congrArg some hR.symm)))
    ·
      refine a_aload_n C dX4_catchOne_115 (i := 2) rfl rfl ?_
      refine a_get C fl_RX4_104 (i := p2) hp2.1.1 (hid _ hp2.1.2) (v := .ref (ad (p2 + 1))) rfl dX4_catchOne_116 ?_
      refine a_iload_n C dX4_catchOne_119 (i := 3) rfl rfl ?_
      refine a_iconst C dX4_catchOne_120 (v := 1) rfl ?_
      refine p_iast C (i := (p2 + 1)) hp2.2.1.1 hid (by rw [hp2.2.1.2]; rfl) dX4_catchOne_121 h (fun σ10 h => ?_)
      exact a_vret Rt dX4_catchOne_122 (retv_eq (h.trans (congrArg some hR.symm)))
  refine a_aload_n C dX4_catchOne_0 (i := 2) rfl rfl ?_
  refine a_aload_n C dX4_catchOne_1 (i := 1) rfl rfl ?_
  refine p_callVi C (As := [.ref (ad p1)]) (i := p2) hp2.1.1 (hid _ hp2.1.2) ⟨_, _, rfl⟩ (by decide) h (fun _ _ e => Z_X0_heightBy hid hp2 hp1 e) mi_X0_heightBy ml_RX4_84 rfl rfl (Nat.le_of_ble_eq_true rfl) (Nat.le_of_ble_eq_true rfl) (Nat.le_of_ble_eq_true rfl) dX4_catchOne_2 (fun r2 σ1 h => ?_)
  refine a_istore C dX4_catchOne_5 (by decide) rfl (vs1 := [some (.ref (ad 8)), some (.ref (ad p1)), some (.ref (ad p2)), some (.int x3), some (.int x4), some (.int r2)]) rfl ?_
  refine a_iload C dX4_catchOne_7 rfl ?_
  refine a_iconst C dX4_catchOne_9 (v := (-1)) rfl ?_
  refine p_ic_eq C (X := x4.toInt) (Y := (-1)) rfl (by decide) dX4_catchOne_10 (tgt := 43) rfl h (fun h => ?_) (fun h => ?_)
  ·
    refine AW.sub (vs' := [some (.ref (ad 8)), some (.ref (ad p1)), some (.ref (ad p2)), some (.int x3), none, some (.int r2)]) (lsub_of (by simp [lsubB])) ?_
    exact j43 _ _ _ h
  ·
    refine a_bipush C dX4_catchOne_13 (v := 100) rfl ?_
    refine a_iload C dX4_catchOne_15 rfl ?_
    refine a_iconst C dX4_catchOne_17 (v := 4) rfl ?_
    refine a_aload_n C dX4_catchOne_18 (i := 2) rfl rfl ?_
    refine a_get C fl_RX4_78 (i := p2) hp2.1.1 (hid _ hp2.1.2) (v := .int (σ1.1 p2 4)) rfl dX4_catchOne_19 ?_
    refine a_imul C dX4_catchOne_22 ?_
    refine p_callSi C (As := [.int 100, .int x4, .int ((4 : Int32) * (σ1.1 p2 4))]) h (fun _ _ e => Z_X4_lot hid e) ms_X4_lot ml_RX4_88 rfl rfl (Nat.le_of_ble_eq_true rfl) (Nat.le_of_ble_eq_true rfl) (Nat.le_of_ble_eq_true rfl) dX4_catchOne_23 (fun r4 σ3 h => ?_)
    refine a_aload_n C dX4_catchOne_26 (i := 0) rfl rfl ?_
    refine a_aload_n C dX4_catchOne_27 (i := 1) rfl rfl ?_
    refine a_iconst C dX4_catchOne_28 (v := 1) rfl ?_
    refine a_iload C dX4_catchOne_29 rfl ?_
    refine p_callVi C (As := [.ref (ad p1), .int 1, .int r2]) (i := 8) kd_8 (hid 8 (by decide)) ⟨_, _, rfl⟩ (by decide) h (fun _ _ e => Z_X4_asks hid hp1 e) mi_X4_asks ml_RX4_38 rfl rfl (Nat.le_of_ble_eq_true rfl) (Nat.le_of_ble_eq_true rfl) (Nat.le_of_ble_eq_true rfl) dX4_catchOne_31 (fun r6 σ5 h => ?_)
    refine p_ic_ge C (X := r4.toInt) (Y := r6.toInt) rfl rfl dX4_catchOne_34 (tgt := 43) rfl h (fun h => ?_) (fun h => ?_)
    ·
      refine AW.sub (vs' := [some (.ref (ad 8)), some (.ref (ad p1)), some (.ref (ad p2)), some (.int x3), none, some (.int r2)]) (lsub_of (by simp [lsubB])) ?_
      exact j43 _ _ _ h
    ·
      refine a_aload_n C dX4_catchOne_37 (i := 2) rfl rfl ?_
      refine a_iload_n C dX4_catchOne_38 (i := 3) rfl rfl ?_
      refine p_callVv C (As := [.int x3]) (i := p2) hp2.1.1 (hid _ hp2.1.2) ⟨_, _, rfl⟩ (by decide) h (fun _ e => Z_X0_drop hid hp2 e) mi_X0_drop ml_RX4_64 rfl rfl (Nat.le_of_ble_eq_true rfl) (Nat.le_of_ble_eq_true rfl) (Nat.le_of_ble_eq_true rfl) dX4_catchOne_39 (fun σ7 h => ?_)
      exact a_vret Rt dX4_catchOne_42 (retv_eq (h.trans (congrArg some hR.symm)))
set_option maxHeartbeats 4000000 in
set_option maxRecDepth 100000 in
theorem Z_X4_oneBeat {l : Launch} {D : va_G} {ids : List Nat} {ad : Nat → Nat} {ca : Nat → ClassId} {σ : HS} {p1 : Nat} {p2 : Nat} {x3 : Int32} {s0 : HS} (hid : ∀ i, i < 277 → i ∈ ids) (hp1 : txtOK p1) (hp2 : airOK p2) (h : f_X4_oneBeat p1 p2 x3 σ = some s0) : Kv l D ids ad ca yX4_oneBeat cX4_oneBeat 6 4 99 [.ref (ad 8), .ref (ad p1), .ref (ad p2), .int x3] σ (fun σ1 => σ1 = s0) := by
  obtain ⟨R, hR⟩ : ∃ R, s0 = R := ⟨_, rfl⟩
  replace h := h.trans (congrArg some hR)
  refine Kv.of (by decide) (Nat.le_of_ble_eq_true rfl) 2 (fun Γ C Rt => ?_)
  show AW ids ad ca Γ 0 [some (.ref (ad 8)), some (.ref (ad p1)), some (.ref (ad p2)), some (.int x3), none, none] [] σ
  unfold f_X4_oneBeat at h
  have j121 : ∀ (k92 : Int32 → HS → Option (HS)) (hk92 : ∀ (y5 : Int32) (σ : HS), k92 y5 σ = some R → AW ids ad ca Γ 92 [none, none, some (.ref (ad p2)), none, none, some (.int y5)] [] σ) (y5 : Int32) (σ : HS), f_X4_oneBeat_121 p1 p2 k92 y5 σ = some R → AW ids ad ca Γ 121 [none, none, some (.ref (ad p2)), none, none, some (.int y5)] [] σ := by
    intro k92 hk92 y5 σ h
    unfold f_X4_oneBeat_121 at h
    refine p_iinc C (y := (y5 + 1)) (fun z1 => [none, none, some (.ref (ad p2)), none, none, some (.int z1)]) dX4_oneBeat_121 rfl rfl (by decide) rfl (fun _ => rfl) h (fun z1 h => ?_)
    refine a_goto C dX4_oneBeat_124 (tgt := 92) rfl ?_
    exact hk92 _ _ h
  have j92 : ∀ (n : Nat) (y5 : Int32) (σ : HS), f_X4_oneBeat_92 p1 p2 n y5 σ = some R → AW ids ad ca Γ 92 [none, none, some (.ref (ad p2)), none, none, some (.int y5)] [] σ := by
    intro n
    induction n with
    | zero => intro y5 σ h; exact nn h
    | succ n ih =>
      intro y5 σ h
      have h : b_X4_oneBeat_92 p1 p2 (f_X4_oneBeat_92 p1 p2 n) y5 σ = some R := h
      unfold b_X4_oneBeat_92 at h
      refine a_iload C dX4_oneBeat_92 rfl ?_
      refine a_aload_n C dX4_oneBeat_94 (i := 2) rfl rfl ?_
      refine a_get C fl_RX4_57 (i := p2) hp2.1.1 (hid _ hp2.1.2) (v := .int (σ.1 p2 0)) rfl dX4_oneBeat_95 ?_
      refine p_ic_ge C (X := y5.toInt) (Y := (σ.1 p2 0).toInt) rfl rfl dX4_oneBeat_98 (tgt := 127) rfl h (fun h => ?_) (fun h => ?_)
      ·
        refine a_aload_n C dX4_oneBeat_127 (i := 2) rfl rfl ?_
        refine a_dup C dX4_oneBeat_128 rfl ?_
        refine a_get C fl_RX4_78 (i := p2) hp2.1.1 (hid _ hp2.1.2) (v := .int (σ.1 p2 4)) rfl dX4_oneBeat_129 ?_
        refine a_iconst C dX4_oneBeat_132 (v := 1) rfl ?_
        refine a_iadd C dX4_oneBeat_133 ?_
        refine p_put C fp_RX4_78 (i := p2) hp2.1.1 (hid _ hp2.1.2) rfl rfl dX4_oneBeat_134 h (fun σ1 h => ?_)
        refine a_aload_n C dX4_oneBeat_137 (i := 2) rfl rfl ?_
        refine a_iconst C dX4_oneBeat_138 (v := (-1)) rfl ?_
        refine p_put C fp_RX4_81 (i := p2) hp2.1.1 (hid _ hp2.1.2) rfl rfl dX4_oneBeat_139 h (fun σ2 h => ?_)
        exact a_vret Rt dX4_oneBeat_142 (retv_eq (h.trans (congrArg some hR.symm)))
      ·
        refine a_aload_n C dX4_oneBeat_101 (i := 2) rfl rfl ?_
        refine a_iload C dX4_oneBeat_102 rfl ?_
        refine p_callVi C (As := [.int y5]) (i := p2) hp2.1.1 (hid _ hp2.1.2) ⟨_, _, rfl⟩ (by decide) h (fun _ _ e => Z_X0_isUp hid hp2 e) mi_X0_isUp ml_RX4_71 rfl rfl (Nat.le_of_ble_eq_true rfl) (Nat.le_of_ble_eq_true rfl) (Nat.le_of_ble_eq_true rfl) dX4_oneBeat_104 (fun r4 σ3 h => ?_)
        refine p_if_eq C (X := r4.toInt) rfl dX4_oneBeat_107 (tgt := 121) rfl h (fun h => ?_) (fun h => ?_)
        ·
          exact j121 (f_X4_oneBeat_92 p1 p2 n) (fun y5 σ h => ih y5 σ h) _ _ h
        ·
          refine a_aload_n C dX4_oneBeat_110 (i := 2) rfl rfl ?_
          refine a_get C fl_RX4_74 (i := p2) hp2.1.1 (hid _ hp2.1.2) (v := .ref (ad (p2 + 2))) rfl dX4_oneBeat_111 ?_
          refine a_iload C dX4_oneBeat_114 rfl ?_
          refine a_dup2 C dX4_oneBeat_116 rfl rfl ?_
          refine p_iald C (i := (p2 + 2)) hp2.2.2.1.1 hid (by rw [hp2.2.2.1.2]; rfl) dX4_oneBeat_117 h (fun h => ?_)
          refine a_iconst C dX4_oneBeat_118 (v := 1) rfl ?_
          refine a_isub C dX4_oneBeat_119 ?_
          refine p_iast C (i := (p2 + 2)) hp2.2.2.1.1 hid (by rw [hp2.2.2.1.2]; rfl) dX4_oneBeat_120 h (fun σ5 h => ?_)
          exact j121 (f_X4_oneBeat_92 p1 p2 n) (fun y5 σ h => ih y5 σ h) _ _ h
  have j89 : ∀ (σ : HS), f_X4_oneBeat_89 p1 p2 σ = some R → AW ids ad ca Γ 89 [none, none, some (.ref (ad p2)), none, none, none] [] σ := by
    intro σ h
    unfold f_X4_oneBeat_89 at h
    refine a_iconst C dX4_oneBeat_89 (v := 0) rfl ?_
    refine a_istore C dX4_oneBeat_90 (by decide) rfl (vs1 := [none, none, some (.ref (ad p2)), none, none, some (.int 0)]) rfl ?_
    exact j92 _ _ _ h
  have j62 : ∀ (k38 : Int32 → Int32 → Int32 → HS → Option (HS)) (hk38 : ∀ (y3 : Int32) (y4 : Int32) (y5 : Int32) (σ : HS), k38 y3 y4 y5 σ = some R → AW ids ad ca Γ 38 [some (.ref (ad 8)), some (.ref (ad p1)), some (.ref (ad p2)), some (.int y3), some (.int y4), some (.int y5)] [] σ) (y3 : Int32) (y4 : Int32) (y5 : Int32) (σ : HS), f_X4_oneBeat_62 p1 p2 k38 y3 y4 y5 σ = some R → AW ids ad ca Γ 62 [some (.ref (ad 8)), some (.ref (ad p1)), some (.ref (ad p2)), some (.int y3), some (.int y4), some (.int y5)] [] σ := by
    intro k38 hk38 y3 y4 y5 σ h
    unfold f_X4_oneBeat_62 at h
    refine p_iinc C (y := (y5 + 1)) (fun z1 => [some (.ref (ad 8)), some (.ref (ad p1)), some (.ref (ad p2)), some (.int y3), some (.int y4), some (.int z1)]) dX4_oneBeat_62 rfl rfl (by decide) rfl (fun _ => rfl) h (fun z1 h => ?_)
    refine a_goto C dX4_oneBeat_65 (tgt := 38) rfl ?_
    exact hk38 _ _ _ _ h
  have j38 : ∀ (n : Nat) (y3 : Int32) (y4 : Int32) (y5 : Int32) (σ : HS), f_X4_oneBeat_38 p1 p2 n y3 y4 y5 σ = some R → AW ids ad ca Γ 38 [some (.ref (ad 8)), some (.ref (ad p1)), some (.ref (ad p2)), some (.int y3), some (.int y4), some (.int y5)] [] σ := by
    intro n
    induction n with
    | zero => intro y3 y4 y5 σ h; exact nn h
    | succ n ih =>
      intro y3 y4 y5 σ h
      have h : b_X4_oneBeat_38 p1 p2 (f_X4_oneBeat_38 p1 p2 n) y3 y4 y5 σ = some R := h
      unfold b_X4_oneBeat_38 at h
      refine a_iload C dX4_oneBeat_38 rfl ?_
      refine a_aload_n C dX4_oneBeat_40 (i := 2) rfl rfl ?_
      refine a_get C fl_RX4_57 (i := p2) hp2.1.1 (hid _ hp2.1.2) (v := .int (σ.1 p2 0)) rfl dX4_oneBeat_41 ?_
      refine p_ic_ge C (X := y5.toInt) (Y := (σ.1 p2 0).toInt) rfl rfl dX4_oneBeat_44 (tgt := 68) rfl h (fun h => ?_) (fun h => ?_)
      ·
        refine a_aload_n C dX4_oneBeat_68 (i := 0) rfl rfl ?_
        refine a_aload_n C dX4_oneBeat_69 (i := 1) rfl rfl ?_
        refine a_aload_n C dX4_oneBeat_70 (i := 2) rfl rfl ?_
        refine a_iload C dX4_oneBeat_71 rfl ?_
        refine a_aload_n C dX4_oneBeat_73 (i := 2) rfl rfl ?_
        refine p_callVi C (As := []) (i := p2) hp2.1.1 (hid _ hp2.1.2) ⟨_, _, rfl⟩ (by decide) h (fun _ _ e => Z_X0_howManyUp hid hp2 e) mi_X0_howManyUp ml_RX4_28 rfl rfl (Nat.le_of_ble_eq_true rfl) (Nat.le_of_ble_eq_true rfl) (Nat.le_of_ble_eq_true rfl) dX4_oneBeat_74 (fun r2 σ1 h => ?_)
        refine p_callVv C (As := [.ref (ad p1), .ref (ad p2), .int y4, .int r2]) (i := 8) kd_8 (hid 8 (by decide)) ⟨_, _, rfl⟩ (by decide) h (fun _ e => Z_X4_lookAt hid hp1 hp2 e) mi_X4_lookAt ml_RX4_34 rfl rfl (Nat.le_of_ble_eq_true rfl) (Nat.le_of_ble_eq_true rfl) (Nat.le_of_ble_eq_true rfl) dX4_oneBeat_77 (fun σ3 h => ?_)
        refine a_aload_n C dX4_oneBeat_80 (i := 0) rfl rfl ?_
        refine a_aload_n C dX4_oneBeat_81 (i := 1) rfl rfl ?_
        refine a_aload_n C dX4_oneBeat_82 (i := 2) rfl rfl ?_
        refine a_iload C dX4_oneBeat_83 rfl ?_
        refine a_iload_n C dX4_oneBeat_85 (i := 3) rfl rfl ?_
        refine p_callVv C (As := [.ref (ad p1), .ref (ad p2), .int y4, .int y3]) (i := 8) kd_8 (hid 8 (by decide)) ⟨_, _, rfl⟩ (by decide) h (fun _ e => Z_X4_catchOne hid hp1 hp2 e) mi_X4_catchOne ml_RX4_68 rfl rfl (Nat.le_of_ble_eq_true rfl) (Nat.le_of_ble_eq_true rfl) (Nat.le_of_ble_eq_true rfl) dX4_oneBeat_86 (fun σ5 h => ?_)
        refine AW.sub (vs' := [none, none, some (.ref (ad p2)), none, none, none]) (lsub_of (by simp [lsubB])) ?_
        exact j89 _ h
      ·
        refine a_aload_n C dX4_oneBeat_47 (i := 2) rfl rfl ?_
        refine a_iload C dX4_oneBeat_48 rfl ?_
        refine p_callVi C (As := [.int y5]) (i := p2) hp2.1.1 (hid _ hp2.1.2) ⟨_, _, rfl⟩ (by decide) h (fun _ _ e => Z_X0_landsNow hid hp2 e) mi_X0_landsNow ml_RX4_60 rfl rfl (Nat.le_of_ble_eq_true rfl) (Nat.le_of_ble_eq_true rfl) (Nat.le_of_ble_eq_true rfl) dX4_oneBeat_50 (fun r8 σ7 h => ?_)
        refine p_if_eq C (X := r8.toInt) rfl dX4_oneBeat_53 (tgt := 62) rfl h (fun h => ?_) (fun h => ?_)
        ·
          exact j62 (f_X4_oneBeat_38 p1 p2 n) (fun y3 y4 y5 σ h => ih y3 y4 y5 σ h) _ _ _ _ h
        ·
          refine a_aload_n C dX4_oneBeat_56 (i := 2) rfl rfl ?_
          refine a_iload C dX4_oneBeat_57 rfl ?_
          refine p_callVv C (As := [.int y5]) (i := p2) hp2.1.1 (hid _ hp2.1.2) ⟨_, _, rfl⟩ (by decide) h (fun _ e => Z_X0_drop hid hp2 e) mi_X0_drop ml_RX4_64 rfl rfl (Nat.le_of_ble_eq_true rfl) (Nat.le_of_ble_eq_true rfl) (Nat.le_of_ble_eq_true rfl) dX4_oneBeat_59 (fun σ9 h => ?_)
          exact j62 (f_X4_oneBeat_38 p1 p2 n) (fun y3 y4 y5 σ h => ih y3 y4 y5 σ h) _ _ _ _ h
  refine a_aload_n C dX4_oneBeat_0 (i := 2) rfl rfl ?_
  refine p_callVi C (As := []) (i := p2) hp2.1.1 (hid _ hp2.1.2) ⟨_, _, rfl⟩ (by decide) h (fun _ _ e => Z_X0_firstLanding hid hp2 e) mi_X0_firstLanding ml_RX4_22 rfl rfl (Nat.le_of_ble_eq_true rfl) (Nat.le_of_ble_eq_true rfl) (Nat.le_of_ble_eq_true rfl) dX4_oneBeat_1 (fun r2 σ1 h => ?_)
  refine a_istore C dX4_oneBeat_4 (by decide) rfl (vs1 := [some (.ref (ad 8)), some (.ref (ad p1)), some (.ref (ad p2)), some (.int x3), some (.int r2), none]) rfl ?_
  refine a_iload C dX4_oneBeat_6 rfl ?_
  refine a_iconst C dX4_oneBeat_8 (v := (-1)) rfl ?_
  refine p_ic_ne C (X := r2.toInt) (Y := (-1)) rfl (by decide) dX4_oneBeat_9 (tgt := 32) rfl h (fun h => ?_) (fun h => ?_)
  ·
    refine a_iload C dX4_oneBeat_32 rfl ?_
    refine a_iconst C dX4_oneBeat_34 (v := 1) rfl ?_
    refine a_iadd C dX4_oneBeat_35 ?_
    refine p_istore C (fun z3 => [some (.ref (ad 8)), some (.ref (ad p1)), some (.ref (ad p2)), some (.int x3), some (.int r2), some (.int z3)]) dX4_oneBeat_36 (by decide) rfl (fun _ => rfl) h (fun z3 h => ?_)
    exact j38 _ _ _ _ _ h
  ·
    refine a_aload_n C dX4_oneBeat_12 (i := 2) rfl rfl ?_
    refine a_iconst C dX4_oneBeat_13 (v := 0) rfl ?_
    refine a_aload_n C dX4_oneBeat_14 (i := 2) rfl rfl ?_
    refine a_get C fl_RX4_42 (i := p2) hp2.1.1 (hid _ hp2.1.2) (v := .int (σ1.1 p2 5)) rfl dX4_oneBeat_15 ?_
    refine a_aload_n C dX4_oneBeat_18 (i := 1) rfl rfl ?_
    refine a_get C fl_RX4_46 (i := p1) hp1.1.1 (hid _ hp1.1.2) (v := .int (σ1.1 p1 10)) rfl dX4_oneBeat_19 ?_
    refine a_isub C dX4_oneBeat_22 ?_
    refine a_mmax C dX4_oneBeat_23 mm_RX4_51 mm_max.1 mm_max.2.1 mm_max.2.2 (Nat.le_of_ble_eq_true rfl) (Nat.le_of_ble_eq_true rfl) ?_
    refine p_put C fp_RX4_42 (i := p2) hp2.1.1 (hid _ hp2.1.2) rfl rfl dX4_oneBeat_26 h (fun σ4 h => ?_)
    refine a_goto C dX4_oneBeat_29 (tgt := 89) rfl ?_
    refine AW.sub (vs' := [none, none, some (.ref (ad p2)), none, none, none]) (lsub_of (by simp [lsubB])) ?_
    exact j89 _ h
set_option maxHeartbeats 4000000 in
set_option maxRecDepth 100000 in
theorem Z_X4_goOn {l : Launch} {D : va_G} {ids : List Nat} {ad : Nat → Nat} {ca : Nat → ClassId} {σ : HS} {p1 : Nat} {p2 : Nat} {x3 : Int32} {x4 : Int32} {s0 : HS} (hid : ∀ i, i < 277 → i ∈ ids) (hp1 : txtOK p1) (hp2 : airOK p2) (h : f_X4_goOn p1 p2 x3 x4 σ = some s0) : Kv l D ids ad ca yX4_goOn cX4_goOn 6 5 124 [.ref (ad 8), .ref (ad p1), .ref (ad p2), .int x3, .int x4] σ (fun σ1 => σ1 = s0) := by
  obtain ⟨R, hR⟩ : ∃ R, s0 = R := ⟨_, rfl⟩
  replace h := h.trans (congrArg some hR)
  refine Kv.of (by decide) (Nat.le_of_ble_eq_true rfl) 1 (fun Γ C Rt => ?_)
  show AW ids ad ca Γ 0 [some (.ref (ad 8)), some (.ref (ad p1)), some (.ref (ad p2)), some (.int x3), some (.int x4), none] [] σ
  unfold f_X4_goOn at h
  have j3 : ∀ (n : Nat) (y3 : Int32) (y4 : Int32) (y5 : Int32) (σ : HS), f_X4_goOn_3 p1 p2 n y3 y4 y5 σ = some R → AW ids ad ca Γ 3 [some (.ref (ad 8)), some (.ref (ad p1)), some (.ref (ad p2)), some (.int y3), some (.int y4), some (.int y5)] [] σ := by
    intro n
    induction n with
    | zero => intro y3 y4 y5 σ h; exact nn h
    | succ n ih =>
      intro y3 y4 y5 σ h
      have h : b_X4_goOn_3 p1 p2 (f_X4_goOn_3 p1 p2 n) y3 y4 y5 σ = some R := h
      unfold b_X4_goOn_3 at h
      refine a_iload C dX4_goOn_3 rfl ?_
      refine a_iload_n C dX4_goOn_5 (i := 3) rfl rfl ?_
      refine p_ic_ge C (X := y5.toInt) (Y := y3.toInt) rfl rfl dX4_goOn_6 (tgt := 23) rfl h (fun h => ?_) (fun h => ?_)
      ·
        exact a_vret Rt dX4_goOn_23 (retv_eq (h.trans (congrArg some hR.symm)))
      ·
        refine a_aload_n C dX4_goOn_9 (i := 0) rfl rfl ?_
        refine a_aload_n C dX4_goOn_10 (i := 1) rfl rfl ?_
        refine a_aload_n C dX4_goOn_11 (i := 2) rfl rfl ?_
        refine a_iload C dX4_goOn_12 rfl ?_
        refine p_callVv C (As := [.ref (ad p1), .ref (ad p2), .int y4]) (i := 8) kd_8 (hid 8 (by decide)) ⟨_, _, rfl⟩ (by decide) h (fun _ e => Z_X4_oneBeat hid hp1 hp2 e) mi_X4_oneBeat ml_RX4_18 rfl rfl (Nat.le_of_ble_eq_true rfl) (Nat.le_of_ble_eq_true rfl) (Nat.le_of_ble_eq_true rfl) dX4_goOn_14 (fun σ1 h => ?_)
        refine p_iinc C (y := (y5 + 1)) (fun z3 => [some (.ref (ad 8)), some (.ref (ad p1)), some (.ref (ad p2)), some (.int y3), some (.int y4), some (.int z3)]) dX4_goOn_17 rfl rfl (by decide) rfl (fun _ => rfl) h (fun z3 h => ?_)
        refine a_goto C dX4_goOn_20 (tgt := 3) rfl ?_
        exact ih _ _ _ _ h
  refine a_iconst C dX4_goOn_0 (v := 0) rfl ?_
  refine a_istore C dX4_goOn_1 (by decide) rfl (vs1 := [some (.ref (ad 8)), some (.ref (ad p1)), some (.ref (ad p2)), some (.int x3), some (.int x4), some (.int 0)]) rfl ?_
  exact j3 _ _ _ _ _ h
set_option maxHeartbeats 4000000 in
set_option maxRecDepth 100000 in
theorem Z_X4_goOnSafely {l : Launch} {D : va_G} {ids : List Nat} {ad : Nat → Nat} {ca : Nat → ClassId} {σ : HS} {p1 : Nat} {p2 : Nat} {s0 : HS} (hid : ∀ i, i < 277 → i ∈ ids) (hp1 : txtOK p1) (hp2 : airOK p2) (h : f_X4_goOnSafely p1 p2 σ = some s0) : Kv l D ids ad ca yX4_goOnSafely cX4_goOnSafely 3 5 124 [.ref (ad 8), .ref (ad p1), .ref (ad p2)] σ (fun σ1 => σ1 = s0) := by
  obtain ⟨R, hR⟩ : ∃ R, s0 = R := ⟨_, rfl⟩
  replace h := h.trans (congrArg some hR)
  refine Kv.of (by decide) (Nat.le_of_ble_eq_true rfl) 0 (fun Γ C Rt => ?_)
  show AW ids ad ca Γ 0 [some (.ref (ad 8)), some (.ref (ad p1)), some (.ref (ad p2))] [] σ
  unfold f_X4_goOnSafely at h
  refine a_aload_n C dX4_goOnSafely_0 (i := 0) rfl rfl ?_
  refine a_aload_n C dX4_goOnSafely_1 (i := 1) rfl rfl ?_
  refine a_aload_n C dX4_goOnSafely_2 (i := 2) rfl rfl ?_
  refine a_iconst C dX4_goOnSafely_3 (v := (-1)) rfl ?_
  refine p_callVv C (As := [.ref (ad p1), .ref (ad p2), .int (-1)]) (i := 8) kd_8 (hid 8 (by decide)) ⟨_, _, rfl⟩ (by decide) h (fun _ e => Z_X4_oneBeat hid hp1 hp2 e) mi_X4_oneBeat ml_RX4_18 rfl rfl (Nat.le_of_ble_eq_true rfl) (Nat.le_of_ble_eq_true rfl) (Nat.le_of_ble_eq_true rfl) dX4_goOnSafely_4 (fun σ1 h => ?_)
  exact a_vret Rt dX4_goOnSafely_7 (retv_eq (h.trans (congrArg some hR.symm)))
set_option maxHeartbeats 4000000 in
set_option maxRecDepth 100000 in
theorem Z_X4_inForce {l : Launch} {D : va_G} {ids : List Nat} {ad : Nat → Nat} {ca : Nat → ClassId} {σ : HS} {p1 : Nat} {p2 : Nat} {r0 : Int32} {s0 : HS} (hid : ∀ i, i < 277 → i ∈ ids) (hp1 : txtOK p1) (hp2 : airOK p2) (h : f_X4_inForce p1 p2 σ = some (r0, s0)) : Ki l D ids ad ca yX4_inForce cX4_inForce 4 .int 3 74 [.ref (ad 8), .ref (ad p1), .ref (ad p2)] σ (fun r σ1 => r = r0 ∧ σ1 = s0) := by
  obtain ⟨R, hR⟩ : ∃ R, (r0, s0) = R := ⟨_, rfl⟩
  replace h := h.trans (congrArg some hR)
  refine Ki.of (by decide) (Nat.le_of_ble_eq_true rfl) 1 (fun Γ C Rt => ?_)
  show AW ids ad ca Γ 0 [some (.ref (ad 8)), some (.ref (ad p1)), some (.ref (ad p2)), none] [] σ
  unfold f_X4_inForce at h
  refine a_aload_n C dX4_inForce_0 (i := 2) rfl rfl ?_
  refine p_callVi C (As := []) (i := p2) hp2.1.1 (hid _ hp2.1.2) ⟨_, _, rfl⟩ (by decide) h (fun _ _ e => Z_X0_firstLanding hid hp2 e) mi_X0_firstLanding ml_RX4_22 rfl rfl (Nat.le_of_ble_eq_true rfl) (Nat.le_of_ble_eq_true rfl) (Nat.le_of_ble_eq_true rfl) dX4_inForce_1 (fun r2 σ1 h => ?_)
  refine a_istore_n C dX4_inForce_4 (i := 3) rfl (by decide) rfl (vs1 := [some (.ref (ad 8)), some (.ref (ad p1)), some (.ref (ad p2)), some (.int r2)]) rfl ?_
  refine a_iload_n C dX4_inForce_5 (i := 3) rfl rfl ?_
  refine a_iconst C dX4_inForce_6 (v := (-1)) rfl ?_
  refine p_ic_ne C (X := r2.toInt) (Y := (-1)) rfl (by decide) dX4_inForce_7 (tgt := 12) rfl h (fun h => ?_) (fun h => ?_)
  ·
    refine a_aload_n C dX4_inForce_12 (i := 0) rfl rfl ?_
    refine a_aload_n C dX4_inForce_13 (i := 1) rfl rfl ?_
    refine a_aload_n C dX4_inForce_14 (i := 2) rfl rfl ?_
    refine a_iload_n C dX4_inForce_15 (i := 3) rfl rfl ?_
    refine a_aload_n C dX4_inForce_16 (i := 2) rfl rfl ?_
    refine p_callVi C (As := []) (i := p2) hp2.1.1 (hid _ hp2.1.2) ⟨_, _, rfl⟩ (by decide) h (fun _ _ e => Z_X0_howManyUp hid hp2 e) mi_X0_howManyUp ml_RX4_28 rfl rfl (Nat.le_of_ble_eq_true rfl) (Nat.le_of_ble_eq_true rfl) (Nat.le_of_ble_eq_true rfl) dX4_inForce_17 (fun r4 σ3 h => ?_)
    refine a_aload_n C dX4_inForce_20 (i := 2) rfl rfl ?_
    refine p_callVi C (As := []) (i := p2) hp2.1.1 (hid _ hp2.1.2) ⟨_, _, rfl⟩ (by decide) h (fun _ _ e => Z_X0_howManyLand hid hp2 e) mi_X0_howManyLand ml_RX4_31 rfl rfl (Nat.le_of_ble_eq_true rfl) (Nat.le_of_ble_eq_true rfl) (Nat.le_of_ble_eq_true rfl) dX4_inForce_21 (fun r6 σ5 h => ?_)
    refine a_iconst C dX4_inForce_24 (v := 1) rfl ?_
    refine a_isub C dX4_inForce_25 ?_
    refine a_isub C dX4_inForce_26 ?_
    refine p_callVv C (As := [.ref (ad p1), .ref (ad p2), .int r2, .int (r4 - (r6 - (1 : Int32)))]) (i := 8) kd_8 (hid 8 (by decide)) ⟨_, _, rfl⟩ (by decide) h (fun _ e => Z_X4_lookAt hid hp1 hp2 e) mi_X4_lookAt ml_RX4_34 rfl rfl (Nat.le_of_ble_eq_true rfl) (Nat.le_of_ble_eq_true rfl) (Nat.le_of_ble_eq_true rfl) dX4_inForce_27 (fun σ7 h => ?_)
    refine a_aload_n C dX4_inForce_30 (i := 0) rfl rfl ?_
    refine a_aload_n C dX4_inForce_31 (i := 1) rfl rfl ?_
    refine a_iconst C dX4_inForce_32 (v := 2) rfl ?_
    refine a_iconst C dX4_inForce_33 (v := 0) rfl ?_
    refine p_callVi C (As := [.ref (ad p1), .int 2, .int 0]) (i := 8) kd_8 (hid 8 (by decide)) ⟨_, _, rfl⟩ (by decide) h (fun _ _ e => Z_X4_asks hid hp1 e) mi_X4_asks ml_RX4_38 rfl rfl (Nat.le_of_ble_eq_true rfl) (Nat.le_of_ble_eq_true rfl) (Nat.le_of_ble_eq_true rfl) dX4_inForce_34 (fun r10 σ9 h => ?_)
    exact a_iret Rt dX4_inForce_37 rfl (ret_eq (h.trans (congrArg some hR.symm)))
  ·
    refine a_iconst C dX4_inForce_10 (v := 0) rfl ?_
    exact a_iret Rt dX4_inForce_11 rfl (ret_eq (h.trans (congrArg some hR.symm)))
set_option maxHeartbeats 4000000 in
set_option maxRecDepth 100000 in
theorem Z_X5_clear {l : Launch} {D : va_G} {ids : List Nat} {ad : Nat → Nat} {ca : Nat → ClassId} {σ : HS} {s0 : HS} (hid : ∀ i, i < 277 → i ∈ ids) (h : f_X5_clear σ = some s0) : Kv l D ids ad ca yX5_clear cX5_clear 1 0 0 [.ref (ad 12)] σ (fun σ1 => σ1 = s0) := by
  obtain ⟨R, hR⟩ : ∃ R, s0 = R := ⟨_, rfl⟩
  replace h := h.trans (congrArg some hR)
  refine Kv.of (by decide) (Nat.le_of_ble_eq_true rfl) 0 (fun Γ C Rt => ?_)
  show AW ids ad ca Γ 0 [some (.ref (ad 12))] [] σ
  unfold f_X5_clear at h
  refine a_aload_n C dX5_clear_0 (i := 0) rfl rfl ?_
  refine a_iconst C dX5_clear_1 (v := 0) rfl ?_
  refine p_put C fp_RX5_18 (i := 12) kd_12 (hid 12 (by decide)) rfl rfl dX5_clear_2 h (fun σ1 h => ?_)
  exact a_vret Rt dX5_clear_5 (retv_eq (h.trans (congrArg some hR.symm)))
set_option maxHeartbeats 4000000 in
set_option maxRecDepth 100000 in
theorem Z_X5_keep {l : Launch} {D : va_G} {ids : List Nat} {ad : Nat → Nat} {ca : Nat → ClassId} {σ : HS} {p1 : Nat} {s0 : HS} (hid : ∀ i, i < 277 → i ∈ ids) (hp1 : airOK p1) (h : f_X5_keep p1 σ = some s0) : Kv l D ids ad ca yX5_keep cX5_keep 2 2 81 [.ref (ad 12), .ref (ad p1)] σ (fun σ1 => σ1 = s0) := by
  obtain ⟨R, hR⟩ : ∃ R, s0 = R := ⟨_, rfl⟩
  replace h := h.trans (congrArg some hR)
  refine Kv.of (by decide) (Nat.le_of_ble_eq_true rfl) 0 (fun Γ C Rt => ?_)
  show AW ids ad ca Γ 0 [some (.ref (ad 12)), some (.ref (ad p1))] [] σ
  unfold f_X5_keep at h
  refine a_aload_n C dX5_keep_0 (i := 0) rfl rfl ?_
  refine a_get C fl_RX5_11 (i := 12) kd_12 (hid 12 (by decide)) (v := .ref (ad 13)) rfl dX5_keep_1 ?_
  refine a_aload_n C dX5_keep_4 (i := 0) rfl rfl ?_
  refine a_get C fl_RX5_22 (i := 12) kd_12 (hid 12 (by decide)) (v := .int (σ.1 12 1)) rfl dX5_keep_5 ?_
  refine p_aaldR C hid dX5_keep_8 h (fun hr1 h => ?_)
  refine a_aload_n C dX5_keep_9 (i := 1) rfl rfl ?_
  refine p_callVv C (As := [.ref (ad p1)]) (i := (76 + 4 * (σ.1 12 1).toInt.toNat)) hr1.1.1 (hid _ hr1.1.2) ⟨_, _, rfl⟩ (by decide) h (fun _ e => Z_X0_copy hid hr1 hp1 e) mi_X0_copy ml_RX5_25 rfl rfl (Nat.le_of_ble_eq_true rfl) (Nat.le_of_ble_eq_true rfl) (Nat.le_of_ble_eq_true rfl) dX5_keep_10 (fun σ2 h => ?_)
  refine a_aload_n C dX5_keep_13 (i := 0) rfl rfl ?_
  refine a_aload_n C dX5_keep_14 (i := 0) rfl rfl ?_
  refine a_get C fl_RX5_22 (i := 12) kd_12 (hid 12 (by decide)) (v := .int (σ2.1 12 1)) rfl dX5_keep_15 ?_
  refine a_iconst C dX5_keep_18 (v := 1) rfl ?_
  refine a_iadd C dX5_keep_19 ?_
  refine a_bipush C dX5_keep_20 (v := 40) rfl ?_
  refine a_irem C dX5_keep_22 (by decide) ?_
  refine p_put C fp_RX5_22 (i := 12) kd_12 (hid 12 (by decide)) rfl rfl dX5_keep_23 h (fun σ4 h => ?_)
  refine a_aload_n C dX5_keep_26 (i := 0) rfl rfl ?_
  refine a_bipush C dX5_keep_27 (v := 40) rfl ?_
  refine a_aload_n C dX5_keep_29 (i := 0) rfl rfl ?_
  refine a_get C fl_RX5_18 (i := 12) kd_12 (hid 12 (by decide)) (v := .int (σ4.1 12 2)) rfl dX5_keep_30 ?_
  refine a_iconst C dX5_keep_33 (v := 1) rfl ?_
  refine a_iadd C dX5_keep_34 ?_
  refine a_mmin C dX5_keep_35 mm_RX5_29 mm_min.1 mm_min.2.1 mm_min.2.2 (Nat.le_of_ble_eq_true rfl) (Nat.le_of_ble_eq_true rfl) ?_
  refine p_put C fp_RX5_18 (i := 12) kd_12 (hid 12 (by decide)) rfl rfl dX5_keep_38 h (fun σ5 h => ?_)
  exact a_vret Rt dX5_keep_41 (retv_eq (h.trans (congrArg some hR.symm)))
set_option maxHeartbeats 4000000 in
set_option maxRecDepth 100000 in
theorem Z_X5_giveBack {l : Launch} {D : va_G} {ids : List Nat} {ad : Nat → Nat} {ca : Nat → ClassId} {σ : HS} {p1 : Nat} {r0 : Int32} {s0 : HS} (hid : ∀ i, i < 277 → i ∈ ids) (hp1 : airOK p1) (h : f_X5_giveBack p1 σ = some (r0, s0)) : Ki l D ids ad ca yX5_giveBack cX5_giveBack 2 .boolean 2 81 [.ref (ad 12), .ref (ad p1)] σ (fun r σ1 => r = r0 ∧ σ1 = s0) := by
  obtain ⟨R, hR⟩ : ∃ R, (r0, s0) = R := ⟨_, rfl⟩
  replace h := h.trans (congrArg some hR)
  refine Ki.of (by decide) (Nat.le_of_ble_eq_true rfl) 0 (fun Γ C Rt => ?_)
  show AW ids ad ca Γ 0 [some (.ref (ad 12)), some (.ref (ad p1))] [] σ
  unfold f_X5_giveBack at h
  refine a_aload_n C dX5_giveBack_0 (i := 0) rfl rfl ?_
  refine a_get C fl_RX5_18 (i := 12) kd_12 (hid 12 (by decide)) (v := .int (σ.1 12 2)) rfl dX5_giveBack_1 ?_
  refine p_if_ne C (X := (σ.1 12 2).toInt) rfl dX5_giveBack_4 (tgt := 9) rfl h (fun h => ?_) (fun h => ?_)
  ·
    refine a_aload_n C dX5_giveBack_9 (i := 0) rfl rfl ?_
    refine a_aload_n C dX5_giveBack_10 (i := 0) rfl rfl ?_
    refine a_get C fl_RX5_22 (i := 12) kd_12 (hid 12 (by decide)) (v := .int (σ.1 12 1)) rfl dX5_giveBack_11 ?_
    refine a_bipush C dX5_giveBack_14 (v := 40) rfl ?_
    refine a_iadd C dX5_giveBack_16 ?_
    refine a_iconst C dX5_giveBack_17 (v := 1) rfl ?_
    refine a_isub C dX5_giveBack_18 ?_
    refine a_bipush C dX5_giveBack_19 (v := 40) rfl ?_
    refine a_irem C dX5_giveBack_21 (by decide) ?_
    refine p_put C fp_RX5_22 (i := 12) kd_12 (hid 12 (by decide)) rfl rfl dX5_giveBack_22 h (fun σ1 h => ?_)
    refine a_aload_n C dX5_giveBack_25 (i := 1) rfl rfl ?_
    refine a_aload_n C dX5_giveBack_26 (i := 0) rfl rfl ?_
    refine a_get C fl_RX5_11 (i := 12) kd_12 (hid 12 (by decide)) (v := .ref (ad 13)) rfl dX5_giveBack_27 ?_
    refine a_aload_n C dX5_giveBack_30 (i := 0) rfl rfl ?_
    refine a_get C fl_RX5_22 (i := 12) kd_12 (hid 12 (by decide)) (v := .int (σ1.1 12 1)) rfl dX5_giveBack_31 ?_
    refine p_aaldR C hid dX5_giveBack_34 h (fun hr2 h => ?_)
    refine p_callVv C (As := [.ref (ad (76 + 4 * (σ1.1 12 1).toInt.toNat))]) (i := p1) hp1.1.1 (hid _ hp1.1.2) ⟨_, _, rfl⟩ (by decide) h (fun _ e => Z_X0_copy hid hp1 hr2 e) mi_X0_copy ml_RX5_25 rfl rfl (Nat.le_of_ble_eq_true rfl) (Nat.le_of_ble_eq_true rfl) (Nat.le_of_ble_eq_true rfl) dX5_giveBack_35 (fun σ3 h => ?_)
    refine a_aload_n C dX5_giveBack_38 (i := 0) rfl rfl ?_
    refine a_dup C dX5_giveBack_39 rfl ?_
    refine a_get C fl_RX5_18 (i := 12) kd_12 (hid 12 (by decide)) (v := .int (σ3.1 12 2)) rfl dX5_giveBack_40 ?_
    refine a_iconst C dX5_giveBack_43 (v := 1) rfl ?_
    refine a_isub C dX5_giveBack_44 ?_
    refine p_put C fp_RX5_18 (i := 12) kd_12 (hid 12 (by decide)) rfl rfl dX5_giveBack_45 h (fun σ5 h => ?_)
    refine a_iconst C dX5_giveBack_48 (v := 1) rfl ?_
    exact a_iret Rt dX5_giveBack_49 (nar_z (by decide)).1 (ret_eq (h.trans (congrArg some hR.symm)))
  ·
    refine a_iconst C dX5_giveBack_7 (v := 0) rfl ?_
    exact a_iret Rt dX5_giveBack_8 (nar_z (by decide)).1 (ret_eq (h.trans (congrArg some hR.symm)))
set_option maxHeartbeats 4000000 in
set_option maxRecDepth 100000 in
theorem Z_X10_emit {l : Launch} {D : va_G} {ids : List Nat} {ad : Nat → Nat} {ca : Nat → ClassId} {σ : HS} {t : Nat} {x1 : Int32} {s0 : HS} (hid : ∀ i, i < 277 → i ∈ ids) (ht : txtOK t) (h : f_X10_emit t x1 σ = some s0) : Kv l D ids ad ca yX10_emit cX10_emit 2 0 0 [.ref (ad t), .int x1] σ (fun σ1 => σ1 = s0) := by
  obtain ⟨R, hR⟩ : ∃ R, s0 = R := ⟨_, rfl⟩
  replace h := h.trans (congrArg some hR)
  refine Kv.of (by decide) (Nat.le_of_ble_eq_true rfl) 0 (fun Γ C Rt => ?_)
  show AW ids ad ca Γ 0 [some (.ref (ad t)), some (.int x1)] [] σ
  unfold f_X10_emit at h
  refine a_aload_n C dX10_emit_0 (i := 0) rfl rfl ?_
  refine a_get C fl_RX10_51 (i := t) ht.1.1 (hid _ ht.1.2) (v := .int (σ.1 t 8)) rfl dX10_emit_1 ?_
  refine a_aload_n C dX10_emit_4 (i := 0) rfl rfl ?_
  refine a_get C fl_RX10_29 (i := t) ht.1.1 (hid _ ht.1.2) (v := .ref (ad (t + 11))) rfl dX10_emit_5 ?_
  refine a_alen C (by rw [ht.2.2.2.2.2.1.1.1]; decide) (hid _ ht.2.2.2.2.2.1.1.2) rfl dX10_emit_8 ?_
  refine p_ic_ge C (X := (σ.1 t 8).toInt) (Y := (Int32.ofNat (al (t + 11))).toInt) rfl rfl dX10_emit_9 (tgt := 32) rfl h (fun h => ?_) (fun h => ?_)
  ·
    exact a_vret Rt dX10_emit_32 (retv_eq (h.trans (congrArg some hR.symm)))
  ·
    refine a_aload_n C dX10_emit_12 (i := 0) rfl rfl ?_
    refine a_get C fl_RX10_29 (i := t) ht.1.1 (hid _ ht.1.2) (v := .ref (ad (t + 11))) rfl dX10_emit_13 ?_
    refine a_aload_n C dX10_emit_16 (i := 0) rfl rfl ?_
    refine a_get C fl_RX10_51 (i := t) ht.1.1 (hid _ ht.1.2) (v := .int (σ.1 t 8)) rfl dX10_emit_17 ?_
    refine a_iload_n C dX10_emit_20 (i := 1) rfl rfl ?_
    refine p_iast C (i := (t + 11)) ht.2.2.2.2.2.1.1 hid (by rw [ht.2.2.2.2.2.1.2]; rfl) dX10_emit_21 h (fun σ1 h => ?_)
    refine a_aload_n C dX10_emit_22 (i := 0) rfl rfl ?_
    refine a_dup C dX10_emit_23 rfl ?_
    refine a_get C fl_RX10_51 (i := t) ht.1.1 (hid _ ht.1.2) (v := .int (σ1.1 t 8)) rfl dX10_emit_24 ?_
    refine a_iconst C dX10_emit_27 (v := 1) rfl ?_
    refine a_iadd C dX10_emit_28 ?_
    refine p_put C fp_RX10_51 (i := t) ht.1.1 (hid _ ht.1.2) rfl rfl dX10_emit_29 h (fun σ2 h => ?_)
    exact a_vret Rt dX10_emit_32 (retv_eq (h.trans (congrArg some hR.symm)))

