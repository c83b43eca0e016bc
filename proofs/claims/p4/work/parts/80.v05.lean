set_option maxHeartbeats 4000000 in
set_option maxRecDepth 100000 in
theorem Z_X7_meet {l : Launch} {D : va_G} {ids : List Nat} {ad : Nat → Nat} {ca : Nat → ClassId} {σ : HS} {x1 : Int32} {x2 : Int32} {x3 : Int32} {s0 : HS} (hid : ∀ i, i < 277 → i ∈ ids) (h : f_X7_meet x1 x2 x3 σ = some s0) : Kv l D ids ad ca yX7_meet cX7_meet 4 0 0 [.ref (ad 17), .int x1, .int x2, .int x3] σ (fun σ1 => σ1 = s0) := by
  obtain ⟨R, hR⟩ : ∃ R, s0 = R := ⟨_, rfl⟩
  replace h := h.trans (congrArg some hR)
  refine Kv.of (by decide) (Nat.le_of_ble_eq_true rfl) 0 (fun Γ C Rt => ?_)
  show AW ids ad ca Γ 0 [some (.ref (ad 17)), some (.int x1), some (.int x2), some (.int x3)] [] σ
  unfold f_X7_meet at h
  refine a_aload_n C dX7_meet_0 (i := 0) rfl rfl ?_
  refine a_get C fl_RX7_15 (i := 17) kd_17 (hid 17 (by decide)) (v := .ref (ad 19)) rfl dX7_meet_1 ?_
  refine a_iload_n C dX7_meet_4 (i := 1) rfl rfl ?_
  refine p_iald C (i := 19) (show rowOK 19 from ⟨kd_19, by decide⟩) hid (by rw [al_19]; rfl) dX7_meet_5 h (fun h => ?_)
  refine a_iconst C dX7_meet_6 (v := (-1)) rfl ?_
  refine p_ic_ne C (X := (σ.1 19 x1.toInt.toNat).toInt) (Y := (-1)) rfl (by decide) dX7_meet_7 (tgt := 54) rfl h (fun h => ?_) (fun h => ?_)
  ·
    exact a_vret Rt dX7_meet_54 (retv_eq (h.trans (congrArg some hR.symm)))
  ·
    refine a_aload_n C dX7_meet_10 (i := 0) rfl rfl ?_
    refine a_get C fl_RX7_30 (i := 17) kd_17 (hid 17 (by decide)) (v := .int (σ.1 17 1)) rfl dX7_meet_11 ?_
    refine a_sipush C dX7_meet_14 (v := 1024) rfl ?_
    refine p_ic_ge C (X := (σ.1 17 1).toInt) (Y := 1024) rfl (by decide) dX7_meet_17 (tgt := 54) rfl h (fun h => ?_) (fun h => ?_)
    ·
      exact a_vret Rt dX7_meet_54 (retv_eq (h.trans (congrArg some hR.symm)))
    ·
      refine a_aload_n C dX7_meet_20 (i := 0) rfl rfl ?_
      refine a_get C fl_RX7_15 (i := 17) kd_17 (hid 17 (by decide)) (v := .ref (ad 19)) rfl dX7_meet_21 ?_
      refine a_iload_n C dX7_meet_24 (i := 1) rfl rfl ?_
      refine a_iload_n C dX7_meet_25 (i := 2) rfl rfl ?_
      refine p_iast C (i := 19) (show rowOK 19 from ⟨kd_19, by decide⟩) hid (by rw [al_19]; rfl) dX7_meet_26 h (fun σ1 h => ?_)
      refine a_aload_n C dX7_meet_27 (i := 0) rfl rfl ?_
      refine a_get C fl_RX7_18 (i := 17) kd_17 (hid 17 (by decide)) (v := .ref (ad 20)) rfl dX7_meet_28 ?_
      refine a_iload_n C dX7_meet_31 (i := 1) rfl rfl ?_
      refine a_iload_n C dX7_meet_32 (i := 3) rfl rfl ?_
      refine p_iast C (i := 20) (show rowOK 20 from ⟨kd_20, by decide⟩) hid (by rw [al_20]; rfl) dX7_meet_33 h (fun σ2 h => ?_)
      refine a_aload_n C dX7_meet_34 (i := 0) rfl rfl ?_
      refine a_get C fl_RX7_11 (i := 17) kd_17 (hid 17 (by decide)) (v := .ref (ad 18)) rfl dX7_meet_35 ?_
      refine a_aload_n C dX7_meet_38 (i := 0) rfl rfl ?_
      refine a_get C fl_RX7_30 (i := 17) kd_17 (hid 17 (by decide)) (v := .int (σ2.1 17 1)) rfl dX7_meet_39 ?_
      refine a_iload_n C dX7_meet_42 (i := 1) rfl rfl ?_
      refine p_iast C (i := 18) (show rowOK 18 from ⟨kd_18, by decide⟩) hid (by rw [al_18]; rfl) dX7_meet_43 h (fun σ3 h => ?_)
      refine a_aload_n C dX7_meet_44 (i := 0) rfl rfl ?_
      refine a_dup C dX7_meet_45 rfl ?_
      refine a_get C fl_RX7_30 (i := 17) kd_17 (hid 17 (by decide)) (v := .int (σ3.1 17 1)) rfl dX7_meet_46 ?_
      refine a_iconst C dX7_meet_49 (v := 1) rfl ?_
      refine a_iadd C dX7_meet_50 ?_
      refine p_put C fp_RX7_30 (i := 17) kd_17 (hid 17 (by decide)) rfl rfl dX7_meet_51 h (fun σ4 h => ?_)
      exact a_vret Rt dX7_meet_54 (retv_eq (h.trans (congrArg some hR.symm)))
set_option maxHeartbeats 4000000 in
set_option maxRecDepth 100000 in
theorem Z_X7_goOnFrom {l : Launch} {D : va_G} {ids : List Nat} {ad : Nat → Nat} {ca : Nat → ClassId} {σ : HS} {x1 : Int32} {s0 : HS} (hid : ∀ i, i < 277 → i ∈ ids) (h : f_X7_goOnFrom x1 σ = some s0) : Kv l D ids ad ca yX7_goOnFrom cX7_goOnFrom 5 1 23 [.ref (ad 17), .int x1] σ (fun σ1 => σ1 = s0) := by
  obtain ⟨R, hR⟩ : ∃ R, s0 = R := ⟨_, rfl⟩
  replace h := h.trans (congrArg some hR)
  refine Kv.of (by decide) (Nat.le_of_ble_eq_true rfl) 3 (fun Γ C Rt => ?_)
  show AW ids ad ca Γ 0 [some (.ref (ad 17)), some (.int x1), none, none, none] [] σ
  unfold f_X7_goOnFrom at h
  have j50 : ∀ (k20 : Int32 → Int32 → Int32 → HS → Option (HS)) (hk20 : ∀ (y1 : Int32) (y2 : Int32) (y3 : Int32) (σ : HS), k20 y1 y2 y3 σ = some R → AW ids ad ca Γ 20 [some (.ref (ad 17)), some (.int y1), some (.int y2), some (.int y3), none] [] σ) (y1 : Int32) (y2 : Int32) (y3 : Int32) (σ : HS), f_X7_goOnFrom_50 k20 y1 y2 y3 σ = some R → AW ids ad ca Γ 50 [some (.ref (ad 17)), some (.int y1), some (.int y2), some (.int y3), none] [] σ := by
    intro k20 hk20 y1 y2 y3 σ h
    unfold f_X7_goOnFrom_50 at h
    refine p_iinc C (y := (y3 + 1)) (fun z1 => [some (.ref (ad 17)), some (.int y1), some (.int y2), some (.int z1), none]) dX7_goOnFrom_50 rfl rfl (by decide) rfl (fun _ => rfl) h (fun z1 h => ?_)
    refine a_goto C dX7_goOnFrom_53 (tgt := 20) rfl ?_
    exact hk20 _ _ _ _ h
  have j20 : ∀ (n : Nat) (y1 : Int32) (y2 : Int32) (y3 : Int32) (σ : HS), f_X7_goOnFrom_20 n y1 y2 y3 σ = some R → AW ids ad ca Γ 20 [some (.ref (ad 17)), some (.int y1), some (.int y2), some (.int y3), none] [] σ := by
    intro n
    induction n with
    | zero => intro y1 y2 y3 σ h; exact nn h
    | succ n ih =>
      intro y1 y2 y3 σ h
      have h : b_X7_goOnFrom_20 (f_X7_goOnFrom_20 n) y1 y2 y3 σ = some R := h
      unfold b_X7_goOnFrom_20 at h
      refine a_iload_n C dX7_goOnFrom_20 (i := 3) rfl rfl ?_
      refine a_bipush C dX7_goOnFrom_21 (v := 9) rfl ?_
      refine p_ic_gt C (X := y3.toInt) (Y := 9) rfl (by decide) dX7_goOnFrom_23 (tgt := 56) rfl h (fun h => ?_) (fun h => ?_)
      ·
        exact a_vret Rt dX7_goOnFrom_56 (retv_eq (h.trans (congrArg some hR.symm)))
      ·
        refine a_iconst C dX7_goOnFrom_26 (v := 1) rfl ?_
        refine a_iload_n C dX7_goOnFrom_27 (i := 3) rfl rfl ?_
        refine a_iconst C dX7_goOnFrom_28 (v := 1) rfl ?_
        refine a_isub C dX7_goOnFrom_29 ?_
        refine a_ishl C dX7_goOnFrom_30 ?_
        refine p_istore C (fun z1 => [some (.ref (ad 17)), some (.int y1), some (.int y2), some (.int y3), some (.int z1)]) dX7_goOnFrom_31 (by decide) rfl (fun _ => rfl) h (fun z1 h => ?_)
        refine a_iload_n C dX7_goOnFrom_33 (i := 2) rfl rfl ?_
        refine a_iload C dX7_goOnFrom_34 rfl ?_
        refine a_iand C dX7_goOnFrom_36 ?_
        refine p_if_ne C (X := (y2 &&& z1).toInt) rfl dX7_goOnFrom_37 (tgt := 50) rfl h (fun h => ?_) (fun h => ?_)
        ·
          refine AW.sub (vs' := [some (.ref (ad 17)), some (.int y1), some (.int y2), some (.int y3), none]) (lsub_of (by simp [lsubB])) ?_
          exact j50 (f_X7_goOnFrom_20 n) (fun y1 y2 y3 σ h => ih y1 y2 y3 σ h) _ _ _ _ h
        ·
          refine a_aload_n C dX7_goOnFrom_40 (i := 0) rfl rfl ?_
          refine a_iload_n C dX7_goOnFrom_41 (i := 2) rfl rfl ?_
          refine a_iload C dX7_goOnFrom_42 rfl ?_
          refine a_ior C dX7_goOnFrom_44 ?_
          refine a_iload_n C dX7_goOnFrom_45 (i := 1) rfl rfl ?_
          refine a_iload_n C dX7_goOnFrom_46 (i := 3) rfl rfl ?_
          refine p_callVv C (As := [.int (y2 ||| z1), .int y1, .int y3]) (i := 17) kd_17 (hid 17 (by decide)) ⟨_, _, rfl⟩ (by decide) h (fun _ e => Z_X7_meet hid e) mi_X7_meet ml_RX7_34 rfl rfl (Nat.le_of_ble_eq_true rfl) (Nat.le_of_ble_eq_true rfl) (Nat.le_of_ble_eq_true rfl) dX7_goOnFrom_47 (fun σ2 h => ?_)
          refine AW.sub (vs' := [some (.ref (ad 17)), some (.int y1), some (.int y2), some (.int y3), none]) (lsub_of (by simp [lsubB])) ?_
          exact j50 (f_X7_goOnFrom_20 n) (fun y1 y2 y3 σ h => ih y1 y2 y3 σ h) _ _ _ _ h
  refine a_iload_n C dX7_goOnFrom_0 (i := 1) rfl rfl ?_
  refine a_iconst C dX7_goOnFrom_1 (v := 1) rfl ?_
  refine a_ishr C dX7_goOnFrom_2 ?_
  refine p_istore_n C (fun z1 => [some (.ref (ad 17)), some (.int x1), some (.int z1), none, none]) dX7_goOnFrom_3 (i := 2) rfl (by decide) rfl (fun _ => rfl) h (fun z1 h => ?_)
  refine a_iload_n C dX7_goOnFrom_4 (i := 1) rfl rfl ?_
  refine a_iconst C dX7_goOnFrom_5 (v := 1) rfl ?_
  refine a_iand C dX7_goOnFrom_6 ?_
  refine p_if_ne C (X := (x1 &&& (1 : Int32)).toInt) rfl dX7_goOnFrom_7 (tgt := 18) rfl h (fun h => ?_) (fun h => ?_)
  ·
    refine a_iconst C dX7_goOnFrom_18 (v := 1) rfl ?_
    refine a_istore_n C dX7_goOnFrom_19 (i := 3) rfl (by decide) rfl (vs1 := [some (.ref (ad 17)), some (.int x1), some (.int z1), some (.int 1), none]) rfl ?_
    exact j20 _ _ _ _ _ h
  ·
    refine a_aload_n C dX7_goOnFrom_10 (i := 0) rfl rfl ?_
    refine a_iload_n C dX7_goOnFrom_11 (i := 2) rfl rfl ?_
    refine a_iload_n C dX7_goOnFrom_12 (i := 1) rfl rfl ?_
    refine a_iconst C dX7_goOnFrom_13 (v := 0) rfl ?_
    refine p_callVv C (As := [.int z1, .int x1, .int 0]) (i := 17) kd_17 (hid 17 (by decide)) ⟨_, _, rfl⟩ (by decide) h (fun _ e => Z_X7_meet hid e) mi_X7_meet ml_RX7_34 rfl rfl (Nat.le_of_ble_eq_true rfl) (Nat.le_of_ble_eq_true rfl) (Nat.le_of_ble_eq_true rfl) dX7_goOnFrom_14 (fun σ2 h => ?_)
    exact a_vret Rt dX7_goOnFrom_17 (retv_eq (h.trans (congrArg some hR.symm)))
set_option maxHeartbeats 4000000 in
set_option maxRecDepth 100000 in
theorem Z_X7_find {l : Launch} {D : va_G} {ids : List Nat} {ad : Nat → Nat} {ca : Nat → ClassId} {σ : HS} {x1 : Int32} {x2 : Int32} {r0 : Int32} {s0 : HS} (hid : ∀ i, i < 277 → i ∈ ids) (h : f_X7_find x1 x2 σ = some (r0, s0)) : Ki l D ids ad ca yX7_find cX7_find 6 .boolean 2 47 [.ref (ad 17), .int x1, .int x2] σ (fun r σ1 => r = r0 ∧ σ1 = s0) := by
  obtain ⟨R, hR⟩ : ∃ R, (r0, s0) = R := ⟨_, rfl⟩
  replace h := h.trans (congrArg some hR)
  refine Ki.of (by decide) (Nat.le_of_ble_eq_true rfl) 3 (fun Γ C Rt => ?_)
  show AW ids ad ca Γ 0 [some (.ref (ad 17)), some (.int x1), some (.int x2), none, none, none] [] σ
  unfold f_X7_find at h
  have j134 : ∀ (n : Nat) (y4 : Int32) (y5 : Int32) (σ : HS), f_X7_find_134 n y4 y5 σ = some R → AW ids ad ca Γ 134 [some (.ref (ad 17)), none, none, none, some (.int y4), some (.int y5)] [] σ := by
    intro n
    induction n with
    | zero => intro y4 y5 σ h; exact nn h
    | succ n ih =>
      intro y4 y5 σ h
      have h : b_X7_find_134 (f_X7_find_134 n) y4 y5 σ = some R := h
      unfold b_X7_find_134 at h
      refine a_iload C dX7_find_134 rfl ?_
      refine p_if_lt C (X := y5.toInt) rfl dX7_find_136 (tgt := 168) rfl h (fun h => ?_) (fun h => ?_)
      ·
        refine a_iconst C dX7_find_168 (v := 1) rfl ?_
        exact a_iret Rt dX7_find_169 (nar_z (by decide)).1 (ret_eq (h.trans (congrArg some hR.symm)))
      ·
        refine a_aload_n C dX7_find_139 (i := 0) rfl rfl ?_
        refine a_get C fl_RX7_21 (i := 17) kd_17 (hid 17 (by decide)) (v := .ref (ad 21)) rfl dX7_find_140 ?_
        refine a_iload C dX7_find_143 rfl ?_
        refine a_aload_n C dX7_find_145 (i := 0) rfl rfl ?_
        refine a_get C fl_RX7_18 (i := 17) kd_17 (hid 17 (by decide)) (v := .ref (ad 20)) rfl dX7_find_146 ?_
        refine a_iload C dX7_find_149 rfl ?_
        refine p_iald C (i := 20) (show rowOK 20 from ⟨kd_20, by decide⟩) hid (by rw [al_20]; rfl) dX7_find_151 h (fun h => ?_)
        refine p_iast C (i := 21) (show rowOK 21 from ⟨kd_21, by decide⟩) hid (by rw [al_21]; rfl) dX7_find_152 h (fun σ1 h => ?_)
        refine a_aload_n C dX7_find_153 (i := 0) rfl rfl ?_
        refine a_get C fl_RX7_15 (i := 17) kd_17 (hid 17 (by decide)) (v := .ref (ad 19)) rfl dX7_find_154 ?_
        refine a_iload C dX7_find_157 rfl ?_
        refine p_iald C (i := 19) (show rowOK 19 from ⟨kd_19, by decide⟩) hid (by rw [al_19]; rfl) dX7_find_159 h (fun h => ?_)
        refine p_istore C (fun z2 => [some (.ref (ad 17)), none, none, none, some (.int z2), some (.int y5)]) dX7_find_160 (by decide) rfl (fun _ => rfl) h (fun z2 h => ?_)
        refine p_iinc C (y := (y5 + (-1))) (fun z3 => [some (.ref (ad 17)), none, none, none, some (.int z2), some (.int z3)]) dX7_find_162 rfl rfl (by decide) rfl (fun _ => rfl) h (fun z3 h => ?_)
        refine a_goto C dX7_find_165 (tgt := 134) rfl ?_
        exact ih _ _ _ h
  have j111 : ∀ (y2 : Int32) (σ : HS), f_X7_find_111 y2 σ = some R → AW ids ad ca Γ 111 [some (.ref (ad 17)), none, some (.int y2), none, none, none] [] σ := by
    intro y2 σ h
    unfold f_X7_find_111 at h
    refine a_aload_n C dX7_find_111 (i := 0) rfl rfl ?_
    refine a_get C fl_RX7_15 (i := 17) kd_17 (hid 17 (by decide)) (v := .ref (ad 19)) rfl dX7_find_112 ?_
    refine a_iload_n C dX7_find_115 (i := 2) rfl rfl ?_
    refine p_iald C (i := 19) (show rowOK 19 from ⟨kd_19, by decide⟩) hid (by rw [al_19]; rfl) dX7_find_116 h (fun h => ?_)
    refine a_iconst C dX7_find_117 (v := (-1)) rfl ?_
    refine p_ic_ne C (X := (σ.1 19 y2.toInt.toNat).toInt) (Y := (-1)) rfl (by decide) dX7_find_118 (tgt := 123) rfl h (fun h => ?_) (fun h => ?_)
    ·
      refine a_iload_n C dX7_find_123 (i := 2) rfl rfl ?_
      refine a_istore C dX7_find_124 (by decide) rfl (vs1 := [some (.ref (ad 17)), none, some (.int y2), none, some (.int y2), none]) rfl ?_
      refine a_aload_n C dX7_find_126 (i := 0) rfl rfl ?_
      refine a_get C fl_RX7_38 (i := 17) kd_17 (hid 17 (by decide)) (v := .int (σ.1 17 5)) rfl dX7_find_127 ?_
      refine a_iconst C dX7_find_130 (v := 1) rfl ?_
      refine a_isub C dX7_find_131 ?_
      refine p_istore C (fun z1 => [some (.ref (ad 17)), none, some (.int y2), none, some (.int y2), some (.int z1)]) dX7_find_132 (by decide) rfl (fun _ => rfl) h (fun z1 h => ?_)
      refine AW.sub (vs' := [some (.ref (ad 17)), none, none, none, some (.int y2), some (.int z1)]) (lsub_of (by simp [lsubB])) ?_
      exact j134 _ _ _ _ h
    ·
      refine a_iconst C dX7_find_121 (v := 0) rfl ?_
      exact a_iret Rt dX7_find_122 (nar_z (by decide)).1 (ret_eq (h.trans (congrArg some hR.symm)))
  have j76 : ∀ (k51 : Int32 → Int32 → HS → Option (Int32 × HS)) (hk51 : ∀ (y2 : Int32) (y3 : Int32) (σ : HS), k51 y2 y3 σ = some R → AW ids ad ca Γ 51 [some (.ref (ad 17)), none, some (.int y2), some (.int y3), none, none] [] σ) (n : Nat) (y2 : Int32) (y3 : Int32) (y4 : Int32) (σ : HS), f_X7_find_76 k51 n y2 y3 y4 σ = some R → AW ids ad ca Γ 76 [some (.ref (ad 17)), none, some (.int y2), some (.int y3), some (.int y4), none] [] σ := by
    intro k51 hk51 n
    induction n with
    | zero => intro y2 y3 y4 σ h; exact nn h
    | succ n ih =>
      intro y2 y3 y4 σ h
      have h : b_X7_find_76 k51 (f_X7_find_76 k51 n) y2 y3 y4 σ = some R := h
      unfold b_X7_find_76 at h
      refine a_iload_n C dX7_find_76 (i := 3) rfl rfl ?_
      refine a_iload C dX7_find_77 rfl ?_
      refine p_ic_ge C (X := y3.toInt) (Y := y4.toInt) rfl rfl dX7_find_79 (tgt := 98) rfl h (fun h => ?_) (fun h => ?_)
      ·
        refine a_aload_n C dX7_find_98 (i := 0) rfl rfl ?_
        refine a_dup C dX7_find_99 rfl ?_
        refine a_get C fl_RX7_38 (i := 17) kd_17 (hid 17 (by decide)) (v := .int (σ.1 17 5)) rfl dX7_find_100 ?_
        refine a_iconst C dX7_find_103 (v := 1) rfl ?_
        refine a_iadd C dX7_find_104 ?_
        refine p_put C fp_RX7_38 (i := 17) kd_17 (hid 17 (by decide)) rfl rfl dX7_find_105 h (fun σ1 h => ?_)
        refine a_goto C dX7_find_108 (tgt := 51) rfl ?_
        refine AW.sub (vs' := [some (.ref (ad 17)), none, some (.int y2), some (.int y3), none, none]) (lsub_of (by simp [lsubB])) ?_
        exact hk51 _ _ _ h
      ·
        refine a_aload_n C dX7_find_82 (i := 0) rfl rfl ?_
        refine a_aload_n C dX7_find_83 (i := 0) rfl rfl ?_
        refine a_get C fl_RX7_11 (i := 17) kd_17 (hid 17 (by decide)) (v := .ref (ad 18)) rfl dX7_find_84 ?_
        refine a_iload_n C dX7_find_87 (i := 3) rfl rfl ?_
        refine p_iald C (i := 18) (show rowOK 18 from ⟨kd_18, by decide⟩) hid (by rw [al_18]; rfl) dX7_find_88 h (fun h => ?_)
        refine p_callVv C (As := [.int (σ.1 18 y3.toInt.toNat)]) (i := 17) kd_17 (hid 17 (by decide)) ⟨_, _, rfl⟩ (by decide) h (fun _ e => Z_X7_goOnFrom hid e) mi_X7_goOnFrom ml_RX7_41 rfl rfl (Nat.le_of_ble_eq_true rfl) (Nat.le_of_ble_eq_true rfl) (Nat.le_of_ble_eq_true rfl) dX7_find_89 (fun σ2 h => ?_)
        refine p_iinc C (y := (y3 + 1)) (fun z4 => [some (.ref (ad 17)), none, some (.int y2), some (.int z4), some (.int y4), none]) dX7_find_92 rfl rfl (by decide) rfl (fun _ => rfl) h (fun z4 h => ?_)
        refine a_goto C dX7_find_95 (tgt := 76) rfl ?_
        exact ih _ _ _ _ h
  have j51 : ∀ (n : Nat) (y2 : Int32) (y3 : Int32) (σ : HS), f_X7_find_51 n y2 y3 σ = some R → AW ids ad ca Γ 51 [some (.ref (ad 17)), none, some (.int y2), some (.int y3), none, none] [] σ := by
    intro n
    induction n with
    | zero => intro y2 y3 σ h; exact nn h
    | succ n ih =>
      intro y2 y3 σ h
      have h : b_X7_find_51 (f_X7_find_51 n) y2 y3 σ = some R := h
      unfold b_X7_find_51 at h
      refine a_aload_n C dX7_find_51 (i := 0) rfl rfl ?_
      refine a_get C fl_RX7_38 (i := 17) kd_17 (hid 17 (by decide)) (v := .int (σ.1 17 5)) rfl dX7_find_52 ?_
      refine a_bipush C dX7_find_55 (v := 12) rfl ?_
      refine p_ic_ge C (X := (σ.1 17 5).toInt) (Y := 12) rfl (by decide) dX7_find_57 (tgt := 111) rfl h (fun h => ?_) (fun h => ?_)
      ·
        refine AW.sub (vs' := [some (.ref (ad 17)), none, some (.int y2), none, none, none]) (lsub_of (by simp [lsubB])) ?_
        exact j111 _ _ h
      ·
        refine a_aload_n C dX7_find_60 (i := 0) rfl rfl ?_
        refine a_get C fl_RX7_15 (i := 17) kd_17 (hid 17 (by decide)) (v := .ref (ad 19)) rfl dX7_find_61 ?_
        refine a_iload_n C dX7_find_64 (i := 2) rfl rfl ?_
        refine p_iald C (i := 19) (show rowOK 19 from ⟨kd_19, by decide⟩) hid (by rw [al_19]; rfl) dX7_find_65 h (fun h => ?_)
        refine a_iconst C dX7_find_66 (v := (-1)) rfl ?_
        refine p_ic_ne C (X := (σ.1 19 y2.toInt.toNat).toInt) (Y := (-1)) rfl (by decide) dX7_find_67 (tgt := 111) rfl h (fun h => ?_) (fun h => ?_)
        ·
          refine AW.sub (vs' := [some (.ref (ad 17)), none, some (.int y2), none, none, none]) (lsub_of (by simp [lsubB])) ?_
          exact j111 _ _ h
        ·
          refine a_aload_n C dX7_find_70 (i := 0) rfl rfl ?_
          refine a_get C fl_RX7_30 (i := 17) kd_17 (hid 17 (by decide)) (v := .int (σ.1 17 1)) rfl dX7_find_71 ?_
          refine p_istore C (fun z1 => [some (.ref (ad 17)), none, some (.int y2), some (.int y3), some (.int z1), none]) dX7_find_74 (by decide) rfl (fun _ => rfl) h (fun z1 h => ?_)
          exact j76 (f_X7_find_51 n) (fun y2 y3 σ h => ih y2 y3 σ h) _ _ _ _ _ h
  refine a_iload_n C dX7_find_0 (i := 1) rfl rfl ?_
  refine p_if_lt C (X := x1.toInt) rfl dX7_find_1 (tgt := 22) rfl h (fun h => ?_) (fun h => ?_)
  ·
    refine a_iconst C dX7_find_22 (v := 0) rfl ?_
    exact a_iret Rt dX7_find_23 (nar_z (by decide)).1 (ret_eq (h.trans (congrArg some hR.symm)))
  ·
    refine a_iload_n C dX7_find_4 (i := 1) rfl rfl ?_
    refine a_sipush C dX7_find_5 (v := 1024) rfl ?_
    refine p_ic_ge C (X := x1.toInt) (Y := 1024) rfl (by decide) dX7_find_8 (tgt := 22) rfl h (fun h => ?_) (fun h => ?_)
    ·
      refine a_iconst C dX7_find_22 (v := 0) rfl ?_
      exact a_iret Rt dX7_find_23 (nar_z (by decide)).1 (ret_eq (h.trans (congrArg some hR.symm)))
    ·
      refine a_iload_n C dX7_find_11 (i := 2) rfl rfl ?_
      refine p_if_lt C (X := x2.toInt) rfl dX7_find_12 (tgt := 22) rfl h (fun h => ?_) (fun h => ?_)
      ·
        refine a_iconst C dX7_find_22 (v := 0) rfl ?_
        exact a_iret Rt dX7_find_23 (nar_z (by decide)).1 (ret_eq (h.trans (congrArg some hR.symm)))
      ·
        refine a_iload_n C dX7_find_15 (i := 2) rfl rfl ?_
        refine a_sipush C dX7_find_16 (v := 1024) rfl ?_
        refine p_ic_lt C (X := x2.toInt) (Y := 1024) rfl (by decide) dX7_find_19 (tgt := 24) rfl h (fun h => ?_) (fun h => ?_)
        ·
          refine a_aload_n C dX7_find_24 (i := 0) rfl rfl ?_
          refine a_get C fl_RX7_15 (i := 17) kd_17 (hid 17 (by decide)) (v := .ref (ad 19)) rfl dX7_find_25 ?_
          refine a_iconst C dX7_find_28 (v := (-1)) rfl ?_
          refine p_callSv C (As := [.ref (ad 19), .int (-1)]) h (fun _ e => Z_J7_fill_53178 hid (show rowOK 19 from ⟨kd_19, by decide⟩) e) ms_J7_fill_53178 ml_RX7_24 rfl rfl (Nat.le_of_ble_eq_true rfl) (Nat.le_of_ble_eq_true rfl) (Nat.le_of_ble_eq_true rfl) dX7_find_29 (fun σ1 h => ?_)
          refine a_aload_n C dX7_find_32 (i := 0) rfl rfl ?_
          refine a_iconst C dX7_find_33 (v := 0) rfl ?_
          refine p_put C fp_RX7_30 (i := 17) kd_17 (hid 17 (by decide)) rfl rfl dX7_find_34 h (fun σ3 h => ?_)
          refine a_aload_n C dX7_find_37 (i := 0) rfl rfl ?_
          refine a_iload_n C dX7_find_38 (i := 1) rfl rfl ?_
          refine a_iload_n C dX7_find_39 (i := 1) rfl rfl ?_
          refine a_iconst C dX7_find_40 (v := 0) rfl ?_
          refine p_callVv C (As := [.int x1, .int x1, .int 0]) (i := 17) kd_17 (hid 17 (by decide)) ⟨_, _, rfl⟩ (by decide) h (fun _ e => Z_X7_meet hid e) mi_X7_meet ml_RX7_34 rfl rfl (Nat.le_of_ble_eq_true rfl) (Nat.le_of_ble_eq_true rfl) (Nat.le_of_ble_eq_true rfl) dX7_find_41 (fun σ4 h => ?_)
          refine a_iconst C dX7_find_44 (v := 0) rfl ?_
          refine a_istore_n C dX7_find_45 (i := 3) rfl (by decide) rfl (vs1 := [some (.ref (ad 17)), some (.int x1), some (.int x2), some (.int 0), none, none]) rfl ?_
          refine a_aload_n C dX7_find_46 (i := 0) rfl rfl ?_
          refine a_iconst C dX7_find_47 (v := 0) rfl ?_
          refine p_put C fp_RX7_38 (i := 17) kd_17 (hid 17 (by decide)) rfl rfl dX7_find_48 h (fun σ6 h => ?_)
          refine AW.sub (vs' := [some (.ref (ad 17)), none, some (.int x2), some (.int 0), none, none]) (lsub_of (by simp [lsubB])) ?_
          exact j51 _ _ _ _ h
        ·
          refine a_iconst C dX7_find_22 (v := 0) rfl ?_
          exact a_iret Rt dX7_find_23 (nar_z (by decide)).1 (ret_eq (h.trans (congrArg some hR.symm)))
set_option maxHeartbeats 4000000 in
set_option maxRecDepth 100000 in
theorem Z_X8_finish {l : Launch} {D : va_G} {ids : List Nat} {ad : Nat → Nat} {ca : Nat → ClassId} {σ : HS} {s0 : HS} (hid : ∀ i, i < 277 → i ∈ ids) (h : f_X8_finish σ = some s0) : Kv l D ids ad ca yX8_finish cX8_finish 1 1 60 [.ref (ad 22)] σ (fun σ1 => σ1 = s0) := by
  obtain ⟨R, hR⟩ : ∃ R, s0 = R := ⟨_, rfl⟩
  replace h := h.trans (congrArg some hR)
  refine Kv.of (by decide) (Nat.le_of_ble_eq_true rfl) 0 (fun Γ C Rt => ?_)
  show AW ids ad ca Γ 0 [some (.ref (ad 22))] [] σ
  unfold f_X8_finish at h
  have j24 : ∀ (σ : HS), f_X8_finish_24 σ = some R → AW ids ad ca Γ 24 [some (.ref (ad 22))] [] σ := by
    intro σ h
    unfold f_X8_finish_24 at h
    refine a_aload_n C dX8_finish_24 (i := 0) rfl rfl ?_
    refine a_dup C dX8_finish_25 rfl ?_
    refine a_get C fl_RX8_32 (i := 22) kd_22 (hid 22 (by decide)) (v := .int (σ.1 22 2)) rfl dX8_finish_26 ?_
    refine a_iconst C dX8_finish_29 (v := 1) rfl ?_
    refine a_iadd C dX8_finish_30 ?_
    refine p_put C fp_RX8_32 (i := 22) kd_22 (hid 22 (by decide)) rfl rfl dX8_finish_31 h (fun σ1 h => ?_)
    exact a_vret Rt dX8_finish_34 (retv_eq (h.trans (congrArg some hR.symm)))
  refine a_aload_n C dX8_finish_0 (i := 0) rfl rfl ?_
  refine a_get C fl_RX8_32 (i := 22) kd_22 (hid 22 (by decide)) (v := .int (σ.1 22 2)) rfl dX8_finish_1 ?_
  refine p_if_ne C (X := (σ.1 22 2).toInt) rfl dX8_finish_4 (tgt := 24) rfl h (fun h => ?_) (fun h => ?_)
  ·
    exact j24 _ h
  ·
    refine a_aload_n C dX8_finish_7 (i := 0) rfl rfl ?_
    refine a_get C fl_RX8_9 (i := 22) kd_22 (hid 22 (by decide)) (v := .ref (ad 23)) rfl dX8_finish_8 ?_
    refine a_iconst C dX8_finish_11 (v := 0) rfl ?_
    refine a_aload_n C dX8_finish_12 (i := 0) rfl rfl ?_
    refine a_get C fl_RX8_13 (i := 22) kd_22 (hid 22 (by decide)) (v := .ref (ad 24)) rfl dX8_finish_13 ?_
    refine a_iconst C dX8_finish_16 (v := 0) rfl ?_
    refine a_aload_n C dX8_finish_17 (i := 0) rfl rfl ?_
    refine a_get C fl_RX8_25 (i := 22) kd_22 (hid 22 (by decide)) (v := .int (σ.1 22 3)) rfl dX8_finish_18 ?_
    refine p_copyi C (i0 := 23) (i1 := 24) (SP := 0) (DP := 0) (Z := (σ.1 22 3).toInt) ml_RX8_42 ac_w.1 ac_w.2.1 ac_w.2.2 (show rowOK 23 from ⟨kd_23, by decide⟩) (show rowOK 24 from ⟨kd_24, by decide⟩) hid (by rw [al_23]; rfl) (by rw [al_24]; rfl) (by decide) (by decide) rfl (Nat.le_of_ble_eq_true rfl) (Nat.le_of_ble_eq_true rfl) dX8_finish_21 h (fun σ1 h => ?_)
    exact j24 _ h
set_option maxHeartbeats 4000000 in
set_option maxRecDepth 100000 in
theorem Zg_X8_fill {l : Launch} {D : va_G} {ids : List Nat} {ad : Nat → Nat} {ca : Nat → ClassId} {σ : HS} {x1 : Int32} {x2 : Int32} {x3 : Int32} {s0 : HS} (hid : ∀ i, i < 277 → i ∈ ids) (fE : Int32 → Int32 → Int32 → HS → Option HS) {fr0 lo0 : Nat} (hE : ∀ (x1 x2 x3 : Int32) (σ s0 : HS), fE x1 x2 x3 σ = some s0 → Kv l D ids ad ca yX8_fill cX8_fill 6 fr0 lo0 [.ref (ad 22), .int x1, .int x2, .int x3] σ (fun σ1 => σ1 = s0)) (h : g_X8_fill fE x1 x2 x3 σ = some s0) : Kv l D ids ad ca yX8_fill cX8_fill 6 (fr0 + 2) (lo0 + 80) [.ref (ad 22), .int x1, .int x2, .int x3] σ (fun σ1 => σ1 = s0) := by
  obtain ⟨R, hR⟩ : ∃ R, s0 = R := ⟨_, rfl⟩
  replace h := h.trans (congrArg some hR)
  refine Kv.of (by decide) (Nat.le_of_ble_eq_true rfl) 2 (fun Γ C Rt => ?_)
  show AW ids ad ca Γ 0 [some (.ref (ad 22)), some (.int x1), some (.int x2), some (.int x3), none, none] [] σ
  unfold g_X8_fill at h
  have j78 : ∀ (k20 : Int32 → Int32 → Int32 → Int32 → HS → Option (HS)) (hk20 : ∀ (y1 : Int32) (y2 : Int32) (y3 : Int32) (y4 : Int32) (σ : HS), k20 y1 y2 y3 y4 σ = some R → AW ids ad ca Γ 20 [some (.ref (ad 22)), some (.int y1), some (.int y2), some (.int y3), some (.int y4), none] [] σ) (y1 : Int32) (y2 : Int32) (y3 : Int32) (y4 : Int32) (σ : HS), f_X8_fill_78 fE k20 y1 y2 y3 y4 σ = some R → AW ids ad ca Γ 78 [some (.ref (ad 22)), some (.int y1), some (.int y2), some (.int y3), some (.int y4), none] [] σ := by
    intro k20 hk20 y1 y2 y3 y4 σ h
    unfold f_X8_fill_78 at h
    refine p_iinc C (y := (y4 + 1)) (fun z1 => [some (.ref (ad 22)), some (.int y1), some (.int y2), some (.int y3), some (.int z1), none]) dX8_fill_78 rfl rfl (by decide) rfl (fun _ => rfl) h (fun z1 h => ?_)
    refine a_goto C dX8_fill_81 (tgt := 20) rfl ?_
    exact hk20 _ _ _ _ _ h
  have j20 : ∀ (n : Nat) (y1 : Int32) (y2 : Int32) (y3 : Int32) (y4 : Int32) (σ : HS), f_X8_fill_20 fE n y1 y2 y3 y4 σ = some R → AW ids ad ca Γ 20 [some (.ref (ad 22)), some (.int y1), some (.int y2), some (.int y3), some (.int y4), none] [] σ := by
    intro n
    induction n with
    | zero => intro y1 y2 y3 y4 σ h; exact nn h
    | succ n ih =>
      intro y1 y2 y3 y4 σ h
      have h : b_X8_fill_20 fE (f_X8_fill_20 fE n) y1 y2 y3 y4 σ = some R := h
      unfold b_X8_fill_20 at h
      refine a_iload C dX8_fill_20 rfl ?_
      refine a_aload_n C dX8_fill_22 (i := 0) rfl rfl ?_
      refine a_get C fl_RX8_29 (i := 22) kd_22 (hid 22 (by decide)) (v := .int (σ.1 22 4)) rfl dX8_fill_23 ?_
      refine p_ic_gt C (X := y4.toInt) (Y := (σ.1 22 4).toInt) rfl rfl dX8_fill_26 (tgt := 84) rfl h (fun h => ?_) (fun h => ?_)
      ·
        exact a_vret Rt dX8_fill_84 (retv_eq (h.trans (congrArg some hR.symm)))
      ·
        refine a_iload C dX8_fill_29 rfl ?_
        refine a_iload_n C dX8_fill_31 (i := 3) rfl rfl ?_
        refine p_ic_gt C (X := y4.toInt) (Y := y3.toInt) rfl rfl dX8_fill_32 (tgt := 84) rfl h (fun h => ?_) (fun h => ?_)
        ·
          exact a_vret Rt dX8_fill_84 (retv_eq (h.trans (congrArg some hR.symm)))
        ·
          refine a_iconst C dX8_fill_35 (v := 1) rfl ?_
          refine a_iload_n C dX8_fill_36 (i := 1) rfl rfl ?_
          refine a_iload C dX8_fill_37 rfl ?_
          refine a_iadd C dX8_fill_39 ?_
          refine a_aload_n C dX8_fill_40 (i := 0) rfl rfl ?_
          refine a_get C fl_RX8_25 (i := 22) kd_22 (hid 22 (by decide)) (v := .int (σ.1 22 3)) rfl dX8_fill_41 ?_
          refine p_irem C rfl dX8_fill_44 h (fun h => ?_)
          refine a_ishl C dX8_fill_45 ?_
          refine p_istore C (fun z1 => [some (.ref (ad 22)), some (.int y1), some (.int y2), some (.int y3), some (.int y4), some (.int z1)]) dX8_fill_46 (by decide) rfl (fun _ => rfl) h (fun z1 h => ?_)
          refine a_iload_n C dX8_fill_48 (i := 2) rfl rfl ?_
          refine a_iload C dX8_fill_49 rfl ?_
          refine a_iand C dX8_fill_51 ?_
          refine p_if_ne C (X := (y2 &&& z1).toInt) rfl dX8_fill_52 (tgt := 78) rfl h (fun h => ?_) (fun h => ?_)
          ·
            refine AW.sub (vs' := [some (.ref (ad 22)), some (.int y1), some (.int y2), some (.int y3), some (.int y4), none]) (lsub_of (by simp [lsubB])) ?_
            exact j78 (f_X8_fill_20 fE n) (fun y1 y2 y3 y4 σ h => ih y1 y2 y3 y4 σ h) _ _ _ _ _ h
          ·
            refine a_aload_n C dX8_fill_55 (i := 0) rfl rfl ?_
            refine a_get C fl_RX8_9 (i := 22) kd_22 (hid 22 (by decide)) (v := .ref (ad 23)) rfl dX8_fill_56 ?_
            refine a_iload_n C dX8_fill_59 (i := 1) rfl rfl ?_
            refine a_iload C dX8_fill_60 rfl ?_
            refine p_iast C (i := 23) (show rowOK 23 from ⟨kd_23, by decide⟩) hid (by rw [al_23]; rfl) dX8_fill_62 h (fun σ2 h => ?_)
            refine a_aload_n C dX8_fill_63 (i := 0) rfl rfl ?_
            refine a_iload_n C dX8_fill_64 (i := 1) rfl rfl ?_
            refine a_iconst C dX8_fill_65 (v := 1) rfl ?_
            refine a_iadd C dX8_fill_66 ?_
            refine a_iload_n C dX8_fill_67 (i := 2) rfl rfl ?_
            refine a_iload C dX8_fill_68 rfl ?_
            refine a_ior C dX8_fill_70 ?_
            refine a_iload_n C dX8_fill_71 (i := 3) rfl rfl ?_
            refine a_iload C dX8_fill_72 rfl ?_
            refine a_isub C dX8_fill_74 ?_
            refine p_callVv C (As := [.int (y1 + (1 : Int32)), .int (y2 ||| z1), .int (y3 - y4)]) (i := 22) kd_22 (hid 22 (by decide)) ⟨_, _, rfl⟩ (by decide) h (fun _ e => hE _ _ _ _ _ e) mi_X8_fill ml_RX8_35 rfl rfl (by omega) (by omega) (Nat.le_of_ble_eq_true rfl) dX8_fill_75 (fun σ3 h => ?_)
            refine AW.sub (vs' := [some (.ref (ad 22)), some (.int y1), some (.int y2), some (.int y3), some (.int y4), none]) (lsub_of (by simp [lsubB])) ?_
            exact j78 (f_X8_fill_20 fE n) (fun y1 y2 y3 y4 σ h => ih y1 y2 y3 y4 σ h) _ _ _ _ _ h
  refine a_iload_n C dX8_fill_0 (i := 1) rfl rfl ?_
  refine a_aload_n C dX8_fill_1 (i := 0) rfl rfl ?_
  refine a_get C fl_RX8_25 (i := 22) kd_22 (hid 22 (by decide)) (v := .int (σ.1 22 3)) rfl dX8_fill_2 ?_
  refine p_ic_lt C (X := x1.toInt) (Y := (σ.1 22 3).toInt) rfl rfl dX8_fill_5 (tgt := 17) rfl h (fun h => ?_) (fun h => ?_)
  ·
    refine a_iconst C dX8_fill_17 (v := 0) rfl ?_
    refine a_istore C dX8_fill_18 (by decide) rfl (vs1 := [some (.ref (ad 22)), some (.int x1), some (.int x2), some (.int x3), some (.int 0), none]) rfl ?_
    exact j20 _ _ _ _ _ _ h
  ·
    refine a_iload_n C dX8_fill_8 (i := 3) rfl rfl ?_
    refine p_if_ne C (X := x3.toInt) rfl dX8_fill_9 (tgt := 16) rfl h (fun h => ?_) (fun h => ?_)
    ·
      exact a_vret Rt dX8_fill_16 (retv_eq (h.trans (congrArg some hR.symm)))
    ·
      refine a_aload_n C dX8_fill_12 (i := 0) rfl rfl ?_
      refine p_callVv C (As := []) (i := 22) kd_22 (hid 22 (by decide)) ⟨_, _, rfl⟩ (by decide) h (fun _ e => Z_X8_finish hid e) mi_X8_finish ml_RX8_39 rfl rfl (by omega) (by omega) (Nat.le_of_ble_eq_true rfl) dX8_fill_13 (fun σ1 h => ?_)
      exact a_vret Rt dX8_fill_16 (retv_eq (h.trans (congrArg some hR.symm)))
theorem Z_X8_fill {l : Launch} {D : va_G} {ids : List Nat} {ad : Nat → Nat} {ca : Nat → ClassId} (hid : ∀ i, i < 277 → i ∈ ids) : ∀ (n : Nat) (x1 x2 x3 : Int32) (σ s0 : HS), f_X8_fill n x1 x2 x3 σ = some s0 → Kv l D ids ad ca yX8_fill cX8_fill 6 (2 * n) (80 * n) [.ref (ad 22), .int x1, .int x2, .int x3] σ (fun σ1 => σ1 = s0) := by
  intro n
  induction n with
  | zero => intro x1 x2 x3 σ s0 h; exact nn h
  | succ n ih => intro x1 x2 x3 σ s0 h; exact Zg_X8_fill hid (f_X8_fill n) ih h
set_option maxHeartbeats 4000000 in
set_option maxRecDepth 100000 in
theorem Z_X8_find {l : Launch} {D : va_G} {ids : List Nat} {ad : Nat → Nat} {ca : Nat → ClassId} {σ : HS} {x1 : Int32} {x2 : Int32} {x3 : Int32} {s0 : HS} (hid : ∀ i, i < 277 → i ∈ ids) (h : f_X8_find x1 x2 x3 σ = some s0) : Kv l D ids ad ca yX8_find cX8_find 4 15 585 [.ref (ad 22), .int x1, .int x2, .int x3] σ (fun σ1 => σ1 = s0) := by
  obtain ⟨R, hR⟩ : ∃ R, s0 = R := ⟨_, rfl⟩
  replace h := h.trans (congrArg some hR)
  refine Kv.of (by decide) (Nat.le_of_ble_eq_true rfl) 0 (fun Γ C Rt => ?_)
  show AW ids ad ca Γ 0 [some (.ref (ad 22)), some (.int x1), some (.int x2), some (.int x3)] [] σ
  unfold f_X8_find at h
  refine a_aload_n C dX8_find_0 (i := 0) rfl rfl ?_
  refine a_iconst C dX8_find_1 (v := 1) rfl ?_
  refine a_iload_n C dX8_find_2 (i := 1) rfl rfl ?_
  refine a_iconst C dX8_find_3 (v := 5) rfl ?_
  refine a_mmin C dX8_find_4 mm_RX8_16 mm_min.1 mm_min.2.1 mm_min.2.2 (Nat.le_of_ble_eq_true rfl) (Nat.le_of_ble_eq_true rfl) ?_
  refine a_mmax C dX8_find_7 mm_RX8_22 mm_max.1 mm_max.2.1 mm_max.2.2 (Nat.le_of_ble_eq_true rfl) (Nat.le_of_ble_eq_true rfl) ?_
  refine p_put C fp_RX8_25 (i := 22) kd_22 (hid 22 (by decide)) rfl rfl dX8_find_10 h (fun σ1 h => ?_)
  refine a_aload_n C dX8_find_13 (i := 0) rfl rfl ?_
  refine a_iload_n C dX8_find_14 (i := 2) rfl rfl ?_
  refine p_put C fp_RX8_29 (i := 22) kd_22 (hid 22 (by decide)) rfl rfl dX8_find_15 h (fun σ2 h => ?_)
  refine a_aload_n C dX8_find_18 (i := 0) rfl rfl ?_
  refine a_iconst C dX8_find_19 (v := 0) rfl ?_
  refine p_put C fp_RX8_32 (i := 22) kd_22 (hid 22 (by decide)) rfl rfl dX8_find_20 h (fun σ3 h => ?_)
  refine a_aload_n C dX8_find_23 (i := 0) rfl rfl ?_
  refine a_iconst C dX8_find_24 (v := 0) rfl ?_
  refine a_iconst C dX8_find_25 (v := 0) rfl ?_
  refine a_aload_n C dX8_find_26 (i := 0) rfl rfl ?_
  refine a_get C fl_RX8_25 (i := 22) kd_22 (hid 22 (by decide)) (v := .int (σ3.1 22 3)) rfl dX8_find_27 ?_
  refine a_iload_n C dX8_find_30 (i := 3) rfl rfl ?_
  refine a_imul C dX8_find_31 ?_
  refine p_callVv C (As := [.int 0, .int 0, .int ((σ3.1 22 3) * x3)]) (i := 22) kd_22 (hid 22 (by decide)) ⟨_, _, rfl⟩ (by decide) h (fun _ e => Z_X8_fill hid 7 _ _ _ _ _ e) mi_X8_fill ml_RX8_35 rfl rfl (Nat.le_of_ble_eq_true rfl) (Nat.le_of_ble_eq_true rfl) (Nat.le_of_ble_eq_true rfl) dX8_find_32 (fun σ4 h => ?_)
  exact a_vret Rt dX8_find_35 (retv_eq (h.trans (congrArg some hR.symm)))
set_option maxHeartbeats 4000000 in
set_option maxRecDepth 100000 in
theorem Z_X9_append {l : Launch} {D : va_G} {ids : List Nat} {ad : Nat → Nat} {ca : Nat → ClassId} {σ : HS} {x1 : Int32} {s0 : HS} (hid : ∀ i, i < 277 → i ∈ ids) (h : f_X9_append x1 σ = some s0) : Kv l D ids ad ca yX9_append cX9_append 3 0 0 [.ref (ad 2), .int x1] σ (fun σ1 => σ1 = s0) := by
  obtain ⟨R, hR⟩ : ∃ R, s0 = R := ⟨_, rfl⟩
  replace h := h.trans (congrArg some hR)
  refine Kv.of (by decide) (Nat.le_of_ble_eq_true rfl) 1 (fun Γ C Rt => ?_)
  show AW ids ad ca Γ 0 [some (.ref (ad 2)), some (.int x1), none] [] σ
  unfold f_X9_append at h
  have j43 : ∀ (k3 : Int32 → Int32 → HS → Option (HS)) (hk3 : ∀ (y1 : Int32) (y2 : Int32) (σ : HS), k3 y1 y2 σ = some R → AW ids ad ca Γ 3 [some (.ref (ad 2)), some (.int y1), some (.int y2)] [] σ) (y1 : Int32) (y2 : Int32) (σ : HS), f_X9_append_43 k3 y1 y2 σ = some R → AW ids ad ca Γ 43 [some (.ref (ad 2)), some (.int y1), some (.int y2)] [] σ := by
    intro k3 hk3 y1 y2 σ h
    unfold f_X9_append_43 at h
    refine p_iinc C (y := (y2 + (-8))) (fun z1 => [some (.ref (ad 2)), some (.int y1), some (.int z1)]) dX9_append_43 rfl rfl (by decide) rfl (fun _ => rfl) h (fun z1 h => ?_)
    refine a_goto C dX9_append_46 (tgt := 3) rfl ?_
    exact hk3 _ _ _ h
  have j3 : ∀ (n : Nat) (y1 : Int32) (y2 : Int32) (σ : HS), f_X9_append_3 n y1 y2 σ = some R → AW ids ad ca Γ 3 [some (.ref (ad 2)), some (.int y1), some (.int y2)] [] σ := by
    intro n
    induction n with
    | zero => intro y1 y2 σ h; exact nn h
    | succ n ih =>
      intro y1 y2 σ h
      have h : b_X9_append_3 (f_X9_append_3 n) y1 y2 σ = some R := h
      unfold b_X9_append_3 at h
      refine a_iload_n C dX9_append_3 (i := 2) rfl rfl ?_
      refine p_if_lt C (X := y2.toInt) rfl dX9_append_4 (tgt := 49) rfl h (fun h => ?_) (fun h => ?_)
      ·
        exact a_vret Rt dX9_append_49 (retv_eq (h.trans (congrArg some hR.symm)))
      ·
        refine a_aload_n C dX9_append_7 (i := 0) rfl rfl ?_
        refine a_get C fl_RX9_25 (i := 2) kd_2 (hid 2 (by decide)) (v := .int (σ.1 2 1)) rfl dX9_append_8 ?_
        refine a_sipush C dX9_append_11 (v := 2000) rfl ?_
        refine p_ic_ge C (X := (σ.1 2 1).toInt) (Y := 2000) rfl (by decide) dX9_append_14 (tgt := 43) rfl h (fun h => ?_) (fun h => ?_)
        ·
          exact j43 (f_X9_append_3 n) (fun y1 y2 σ h => ih y1 y2 σ h) _ _ _ h
        ·
          refine a_aload_n C dX9_append_17 (i := 0) rfl rfl ?_
          refine a_get C fl_RX9_9 (i := 2) kd_2 (hid 2 (by decide)) (v := .ref (ad 3)) rfl dX9_append_18 ?_
          refine a_aload_n C dX9_append_21 (i := 0) rfl rfl ?_
          refine a_get C fl_RX9_25 (i := 2) kd_2 (hid 2 (by decide)) (v := .int (σ.1 2 1)) rfl dX9_append_22 ?_
          refine a_iload_n C dX9_append_25 (i := 1) rfl rfl ?_
          refine a_iload_n C dX9_append_26 (i := 2) rfl rfl ?_
          refine a_iushr C dX9_append_27 ?_
          refine a_sipush C dX9_append_28 (v := 255) rfl ?_
          refine a_iand C dX9_append_31 ?_
          refine p_iast C (i := 3) (show rowOK 3 from ⟨kd_3, by decide⟩) hid (by rw [al_3]; rfl) dX9_append_32 h (fun σ1 h => ?_)
          refine a_aload_n C dX9_append_33 (i := 0) rfl rfl ?_
          refine a_dup C dX9_append_34 rfl ?_
          refine a_get C fl_RX9_25 (i := 2) kd_2 (hid 2 (by decide)) (v := .int (σ1.1 2 1)) rfl dX9_append_35 ?_
          refine a_iconst C dX9_append_38 (v := 1) rfl ?_
          refine a_iadd C dX9_append_39 ?_
          refine p_put C fp_RX9_25 (i := 2) kd_2 (hid 2 (by decide)) rfl rfl dX9_append_40 h (fun σ2 h => ?_)
          exact j43 (f_X9_append_3 n) (fun y1 y2 σ h => ih y1 y2 σ h) _ _ _ h
  refine a_bipush C dX9_append_0 (v := 24) rfl ?_
  refine a_istore_n C dX9_append_2 (i := 2) rfl (by decide) rfl (vs1 := [some (.ref (ad 2)), some (.int x1), some (.int 24)]) rfl ?_
  exact j3 _ _ _ _ h
set_option maxHeartbeats 4000000 in
set_option maxRecDepth 100000 in
theorem Z_X10_hasThing {l : Launch} {D : va_G} {ids : List Nat} {ad : Nat → Nat} {ca : Nat → ClassId} {σ : HS} {t : Nat} {x1 : Int32} {r0 : Int32} {s0 : HS} (hid : ∀ i, i < 277 → i ∈ ids) (ht : txtOK t) (h : f_X10_hasThing t x1 σ = some (r0, s0)) : Ki l D ids ad ca yX10_hasThing cX10_hasThing 2 .boolean 0 0 [.ref (ad t), .int x1] σ (fun r σ1 => r = r0 ∧ σ1 = s0) := by
  obtain ⟨R, hR⟩ : ∃ R, (r0, s0) = R := ⟨_, rfl⟩
  replace h := h.trans (congrArg some hR)
  refine Ki.of (by decide) (Nat.le_of_ble_eq_true rfl) 0 (fun Γ C Rt => ?_)
  show AW ids ad ca Γ 0 [some (.ref (ad t)), some (.int x1)] [] σ
  unfold f_X10_hasThing at h
  refine a_iload_n C dX10_hasThing_0 (i := 1) rfl rfl ?_
  refine p_if_lt C (X := x1.toInt) rfl dX10_hasThing_1 (tgt := 16) rfl h (fun h => ?_) (fun h => ?_)
  ·
    refine a_iconst C dX10_hasThing_16 (v := 0) rfl ?_
    exact a_iret Rt dX10_hasThing_17 (nar_z (by decide)).1 (ret_eq (h.trans (congrArg some hR.symm)))
  ·
    refine a_iload_n C dX10_hasThing_4 (i := 1) rfl rfl ?_
    refine a_aload_n C dX10_hasThing_5 (i := 0) rfl rfl ?_
    refine a_get C fl_RX10_38 (i := t) ht.1.1 (hid _ ht.1.2) (v := .int (σ.1 t 0)) rfl dX10_hasThing_6 ?_
    refine p_ic_ge C (X := x1.toInt) (Y := (σ.1 t 0).toInt) rfl rfl dX10_hasThing_9 (tgt := 16) rfl h (fun h => ?_) (fun h => ?_)
    ·
      refine a_iconst C dX10_hasThing_16 (v := 0) rfl ?_
      exact a_iret Rt dX10_hasThing_17 (nar_z (by decide)).1 (ret_eq (h.trans (congrArg some hR.symm)))
    ·
      refine a_iconst C dX10_hasThing_12 (v := 1) rfl ?_
      refine a_goto C dX10_hasThing_13 (tgt := 17) rfl ?_
      exact a_iret Rt dX10_hasThing_17 (nar_z (by decide)).1 (ret_eq (h.trans (congrArg some hR.symm)))
set_option maxHeartbeats 4000000 in
set_option maxRecDepth 100000 in
theorem Z_X11_feed {l : Launch} {D : va_G} {ids : List Nat} {ad : Nat → Nat} {ca : Nat → ClassId} {σ : HS} {x1 : Int32} {x2 : Int32} {x3 : Int32} {x4 : Int32} {x5 : Int32} {r0 : Int32} {s0 : HS} (hid : ∀ i, i < 277 → i ∈ ids) (h : f_X11_feed x1 x2 x3 x4 x5 σ = some (r0, s0)) : Ki l D ids ad ca yX11_feed cX11_feed 6 .int 1 22 [.ref (ad 0), .int x1, .int x2, .int x3, .int x4, .int x5] σ (fun r σ1 => r = r0 ∧ σ1 = s0) := by
  obtain ⟨R, hR⟩ : ∃ R, (r0, s0) = R := ⟨_, rfl⟩
  replace h := h.trans (congrArg some hR)
  refine Ki.of (by decide) (Nat.le_of_ble_eq_true rfl) 0 (fun Γ C Rt => ?_)
  show AW ids ad ca Γ 0 [some (.ref (ad 0)), some (.int x1), some (.int x2), some (.int x3), some (.int x4), some (.int x5)] [] σ
  unfold f_X11_feed at h
  refine a_aload_n C dX11_feed_0 (i := 0) rfl rfl ?_
  refine a_get C fl_RX11_10 (i := 0) kd_0 (hid 0 (by decide)) (v := .ref (ad 1)) rfl dX11_feed_1 ?_
  refine a_get C fl_RX11_89 (i := 1) kd_1 (hid 1 (by decide)) (v := .ref (ad 2)) rfl dX11_feed_4 ?_
  refine a_get C fl_RX11_93 (i := 2) kd_2 (hid 2 (by decide)) (v := .int (σ.1 2 1)) rfl dX11_feed_7 ?_
  refine a_bipush C dX11_feed_10 (v := 20) rfl ?_
  refine a_iadd C dX11_feed_12 ?_
  refine a_sipush C dX11_feed_13 (v := 2000) rfl ?_
  refine p_ic_le C (X := ((σ.1 2 1) + (20 : Int32)).toInt) (Y := 2000) rfl (by decide) dX11_feed_16 (tgt := 21) rfl h (fun h => ?_) (fun h => ?_)
  ·
    refine a_aload_n C dX11_feed_21 (i := 0) rfl rfl ?_
    refine a_get C fl_RX11_10 (i := 0) kd_0 (hid 0 (by decide)) (v := .ref (ad 1)) rfl dX11_feed_22 ?_
    refine a_get C fl_RX11_89 (i := 1) kd_1 (hid 1 (by decide)) (v := .ref (ad 2)) rfl dX11_feed_25 ?_
    refine a_iload_n C dX11_feed_28 (i := 1) rfl rfl ?_
    refine p_callVv C (As := [.int x1]) (i := 2) kd_2 (hid 2 (by decide)) ⟨_, _, rfl⟩ (by decide) h (fun _ e => Z_X9_append hid e) mi_X9_append ml_RX11_99 rfl rfl (Nat.le_of_ble_eq_true rfl) (Nat.le_of_ble_eq_true rfl) (Nat.le_of_ble_eq_true rfl) dX11_feed_29 (fun σ1 h => ?_)
    refine a_aload_n C dX11_feed_32 (i := 0) rfl rfl ?_
    refine a_get C fl_RX11_10 (i := 0) kd_0 (hid 0 (by decide)) (v := .ref (ad 1)) rfl dX11_feed_33 ?_
    refine a_get C fl_RX11_89 (i := 1) kd_1 (hid 1 (by decide)) (v := .ref (ad 2)) rfl dX11_feed_36 ?_
    refine a_iload_n C dX11_feed_39 (i := 2) rfl rfl ?_
    refine p_callVv C (As := [.int x2]) (i := 2) kd_2 (hid 2 (by decide)) ⟨_, _, rfl⟩ (by decide) h (fun _ e => Z_X9_append hid e) mi_X9_append ml_RX11_99 rfl rfl (Nat.le_of_ble_eq_true rfl) (Nat.le_of_ble_eq_true rfl) (Nat.le_of_ble_eq_true rfl) dX11_feed_40 (fun σ3 h => ?_)
    refine a_aload_n C dX11_feed_43 (i := 0) rfl rfl ?_
    refine a_get C fl_RX11_10 (i := 0) kd_0 (hid 0 (by decide)) (v := .ref (ad 1)) rfl dX11_feed_44 ?_
    refine a_get C fl_RX11_89 (i := 1) kd_1 (hid 1 (by decide)) (v := .ref (ad 2)) rfl dX11_feed_47 ?_
    refine a_iload_n C dX11_feed_50 (i := 3) rfl rfl ?_
    refine p_callVv C (As := [.int x3]) (i := 2) kd_2 (hid 2 (by decide)) ⟨_, _, rfl⟩ (by decide) h (fun _ e => Z_X9_append hid e) mi_X9_append ml_RX11_99 rfl rfl (Nat.le_of_ble_eq_true rfl) (Nat.le_of_ble_eq_true rfl) (Nat.le_of_ble_eq_true rfl) dX11_feed_51 (fun σ5 h => ?_)
    refine a_aload_n C dX11_feed_54 (i := 0) rfl rfl ?_
    refine a_get C fl_RX11_10 (i := 0) kd_0 (hid 0 (by decide)) (v := .ref (ad 1)) rfl dX11_feed_55 ?_
    refine a_get C fl_RX11_89 (i := 1) kd_1 (hid 1 (by decide)) (v := .ref (ad 2)) rfl dX11_feed_58 ?_
    refine a_iload C dX11_feed_61 rfl ?_
    refine p_callVv C (As := [.int x4]) (i := 2) kd_2 (hid 2 (by decide)) ⟨_, _, rfl⟩ (by decide) h (fun _ e => Z_X9_append hid e) mi_X9_append ml_RX11_99 rfl rfl (Nat.le_of_ble_eq_true rfl) (Nat.le_of_ble_eq_true rfl) (Nat.le_of_ble_eq_true rfl) dX11_feed_63 (fun σ7 h => ?_)
    refine a_aload_n C dX11_feed_66 (i := 0) rfl rfl ?_
    refine a_get C fl_RX11_10 (i := 0) kd_0 (hid 0 (by decide)) (v := .ref (ad 1)) rfl dX11_feed_67 ?_
    refine a_get C fl_RX11_89 (i := 1) kd_1 (hid 1 (by decide)) (v := .ref (ad 2)) rfl dX11_feed_70 ?_
    refine a_iload C dX11_feed_73 rfl ?_
    refine p_callVv C (As := [.int x5]) (i := 2) kd_2 (hid 2 (by decide)) ⟨_, _, rfl⟩ (by decide) h (fun _ e => Z_X9_append hid e) mi_X9_append ml_RX11_99 rfl rfl (Nat.le_of_ble_eq_true rfl) (Nat.le_of_ble_eq_true rfl) (Nat.le_of_ble_eq_true rfl) dX11_feed_75 (fun σ9 h => ?_)
    refine a_aload_n C dX11_feed_78 (i := 0) rfl rfl ?_
    refine a_get C fl_RX11_10 (i := 0) kd_0 (hid 0 (by decide)) (v := .ref (ad 1)) rfl dX11_feed_79 ?_
    refine a_get C fl_RX11_89 (i := 1) kd_1 (hid 1 (by decide)) (v := .ref (ad 2)) rfl dX11_feed_82 ?_
    refine a_get C fl_RX11_93 (i := 2) kd_2 (hid 2 (by decide)) (v := .int (σ9.1 2 1)) rfl dX11_feed_85 ?_
    exact a_iret Rt dX11_feed_88 rfl (ret_eq (h.trans (congrArg some hR.symm)))
  ·
    refine a_iconst C dX11_feed_19 (v := (-1)) rfl ?_
    exact a_iret Rt dX11_feed_20 rfl (ret_eq (h.trans (congrArg some hR.symm)))
set_option maxHeartbeats 4000000 in
set_option maxRecDepth 100000 in
theorem Z_X11_back {l : Launch} {D : va_G} {ids : List Nat} {ad : Nat → Nat} {ca : Nat → ClassId} {σ : HS} {x1 : Int32} {r0 : Int32} {s0 : HS} (hid : ∀ i, i < 277 → i ∈ ids) (h : f_X11_back x1 σ = some (r0, s0)) : Ki l D ids ad ca yX11_back cX11_back 2 .int 0 0 [.ref (ad 0), .int x1] σ (fun r σ1 => r = r0 ∧ σ1 = s0) := by
  obtain ⟨R, hR⟩ : ∃ R, (r0, s0) = R := ⟨_, rfl⟩
  replace h := h.trans (congrArg some hR)
  refine Ki.of (by decide) (Nat.le_of_ble_eq_true rfl) 0 (fun Γ C Rt => ?_)
  show AW ids ad ca Γ 0 [some (.ref (ad 0)), some (.int x1)] [] σ
  unfold f_X11_back at h
  refine a_iload_n C dX11_back_0 (i := 1) rfl rfl ?_
  refine p_if_lt C (X := x1.toInt) rfl dX11_back_1 (tgt := 18) rfl h (fun h => ?_) (fun h => ?_)
  ·
    refine a_iconst C dX11_back_18 (v := (-1)) rfl ?_
    exact a_iret Rt dX11_back_19 rfl (ret_eq (h.trans (congrArg some hR.symm)))
  ·
    refine a_iload_n C dX11_back_4 (i := 1) rfl rfl ?_
    refine a_aload_n C dX11_back_5 (i := 0) rfl rfl ?_
    refine a_get C fl_RX11_10 (i := 0) kd_0 (hid 0 (by decide)) (v := .ref (ad 1)) rfl dX11_back_6 ?_
    refine a_get C fl_RX11_89 (i := 1) kd_1 (hid 1 (by decide)) (v := .ref (ad 2)) rfl dX11_back_9 ?_
    refine a_get C fl_RX11_93 (i := 2) kd_2 (hid 2 (by decide)) (v := .int (σ.1 2 1)) rfl dX11_back_12 ?_
    refine p_ic_le C (X := x1.toInt) (Y := (σ.1 2 1).toInt) rfl rfl dX11_back_15 (tgt := 20) rfl h (fun h => ?_) (fun h => ?_)
    ·
      refine a_aload_n C dX11_back_20 (i := 0) rfl rfl ?_
      refine a_get C fl_RX11_10 (i := 0) kd_0 (hid 0 (by decide)) (v := .ref (ad 1)) rfl dX11_back_21 ?_
      refine a_get C fl_RX11_89 (i := 1) kd_1 (hid 1 (by decide)) (v := .ref (ad 2)) rfl dX11_back_24 ?_
      refine a_dup C dX11_back_27 rfl ?_
      refine a_get C fl_RX11_93 (i := 2) kd_2 (hid 2 (by decide)) (v := .int (σ.1 2 1)) rfl dX11_back_28 ?_
      refine a_iload_n C dX11_back_31 (i := 1) rfl rfl ?_
      refine a_isub C dX11_back_32 ?_
      refine p_put C fp_RX11_93 (i := 2) kd_2 (hid 2 (by decide)) rfl rfl dX11_back_33 h (fun σ1 h => ?_)
      refine a_aload_n C dX11_back_36 (i := 0) rfl rfl ?_
      refine a_get C fl_RX11_10 (i := 0) kd_0 (hid 0 (by decide)) (v := .ref (ad 1)) rfl dX11_back_37 ?_
      refine a_get C fl_RX11_89 (i := 1) kd_1 (hid 1 (by decide)) (v := .ref (ad 2)) rfl dX11_back_40 ?_
      refine a_get C fl_RX11_93 (i := 2) kd_2 (hid 2 (by decide)) (v := .int (σ1.1 2 1)) rfl dX11_back_43 ?_
      exact a_iret Rt dX11_back_46 rfl (ret_eq (h.trans (congrArg some hR.symm)))
    ·
      refine a_iconst C dX11_back_18 (v := (-1)) rfl ?_
      exact a_iret Rt dX11_back_19 rfl (ret_eq (h.trans (congrArg some hR.symm)))
set_option maxHeartbeats 4000000 in
set_option maxRecDepth 100000 in
theorem Z_X11_beginAnew {l : Launch} {D : va_G} {ids : List Nat} {ad : Nat → Nat} {ca : Nat → ClassId} {σ : HS} {s0 : HS} (hid : ∀ i, i < 277 → i ∈ ids) (h : f_X11_beginAnew σ = some s0) : Kv l D ids ad ca yX11_beginAnew cX11_beginAnew 3 2 81 [.ref (ad 0)] σ (fun σ1 => σ1 = s0) := by
  obtain ⟨R, hR⟩ : ∃ R, s0 = R := ⟨_, rfl⟩
  replace h := h.trans (congrArg some hR)
  refine Kv.of (by decide) (Nat.le_of_ble_eq_true rfl) 2 (fun Γ C Rt => ?_)
  show AW ids ad ca Γ 0 [some (.ref (ad 0)), none, none] [] σ
  unfold f_X11_beginAnew at h
  have j46 : ∀ (n : Nat) (y2 : Int32) (σ : HS), f_X11_beginAnew_46 n y2 σ = some R → AW ids ad ca Γ 46 [some (.ref (ad 0)), none, some (.int y2)] [] σ := by
    intro n
    induction n with
    | zero => intro y2 σ h; exact nn h
    | succ n ih =>
      intro y2 σ h
      have h : b_X11_beginAnew_46 (f_X11_beginAnew_46 n) y2 σ = some R := h
      unfold b_X11_beginAnew_46 at h
      refine a_iload_n C dX11_beginAnew_46 (i := 2) rfl rfl ?_
      refine a_iconst C dX11_beginAnew_47 (v := 3) rfl ?_
      refine p_ic_ge C (X := y2.toInt) (Y := 3) rfl (by decide) dX11_beginAnew_48 (tgt := 64) rfl h (fun h => ?_) (fun h => ?_)
      ·
        exact a_vret Rt dX11_beginAnew_64 (retv_eq (h.trans (congrArg some hR.symm)))
      ·
        refine a_aload_n C dX11_beginAnew_51 (i := 0) rfl rfl ?_
        refine a_get C fl_RX11_65 (i := 0) kd_0 (hid 0 (by decide)) (v := .ref (ad 26)) rfl dX11_beginAnew_52 ?_
        refine a_iload_n C dX11_beginAnew_55 (i := 2) rfl rfl ?_
        refine a_iconst C dX11_beginAnew_56 (v := 0) rfl ?_
        refine p_zast C (i := 26) kd_26 (hid 26 (by decide)) (by rw [al_26]; rfl) (by decide) dX11_beginAnew_57 h (fun σ1 h => ?_)
        refine p_iinc C (y := (y2 + 1)) (fun z2 => [some (.ref (ad 0)), none, some (.int z2)]) dX11_beginAnew_58 rfl rfl (by decide) rfl (fun _ => rfl) h (fun z2 h => ?_)
        refine a_goto C dX11_beginAnew_61 (tgt := 46) rfl ?_
        exact ih _ _ h
  refine a_aload_n C dX11_beginAnew_0 (i := 0) rfl rfl ?_
  refine p_getT C fl_RX11_86 (tx := (σ.2.2 1)) kd_0 (hid 0 (by decide)) (fun t e => by subst e; rfl) dX11_beginAnew_1 h (fun ht1 h => ?_)
  refine a_astore_n C dX11_beginAnew_4 (i := 1) rfl (by decide) rfl (vs1 := [some (.ref (ad 0)), some (.ref (ad ((σ.2.2 1)))), none]) rfl ?_
  refine a_aload_n C dX11_beginAnew_5 (i := 0) rfl rfl ?_
  refine a_aload_n C dX11_beginAnew_6 (i := 0) rfl rfl ?_
  refine p_getT C fl_RX11_82 (tx := (σ.2.2 0)) kd_0 (hid 0 (by decide)) (fun t e => by subst e; rfl) dX11_beginAnew_7 h (fun ht2 h => ?_)
  refine p_putR C (hid 0 (by decide)) fpr_86 dX11_beginAnew_10 h (fun σ3 h => ?_)
  refine a_aload_n C dX11_beginAnew_13 (i := 0) rfl rfl ?_
  refine a_aload_n C dX11_beginAnew_14 (i := 1) rfl rfl ?_
  refine p_putR C (hid 0 (by decide)) fpr_82 dX11_beginAnew_15 h (fun σ4 h => ?_)
  refine a_aload_n C dX11_beginAnew_18 (i := 0) rfl rfl ?_
  refine a_get C fl_RX11_54 (i := 0) kd_0 (hid 0 (by decide)) (v := .ref (ad 56)) rfl dX11_beginAnew_19 ?_
  refine a_aload_n C dX11_beginAnew_22 (i := 0) rfl rfl ?_
  refine p_getT C fl_RX11_82 (tx := (σ4.2.2 0)) kd_0 (hid 0 (by decide)) (fun t e => by subst e; rfl) dX11_beginAnew_23 h (fun ht5 h => ?_)
  refine p_callVv C (As := [.ref (ad ((σ4.2.2 0)))]) (i := 56) (show airOK 56 from airOK_of 0 (by decide)).1.1 (hid _ (show airOK 56 from airOK_of 0 (by decide)).1.2) ⟨_, _, rfl⟩ (by decide) h (fun _ e => Z_X0_begin hid (show airOK 56 from airOK_of 0 (by decide)) ht5 e) mi_X0_begin ml_RX11_110 rfl rfl (Nat.le_of_ble_eq_true rfl) (Nat.le_of_ble_eq_true rfl) (Nat.le_of_ble_eq_true rfl) dX11_beginAnew_26 (fun σ6 h => ?_)
  refine a_aload_n C dX11_beginAnew_29 (i := 0) rfl rfl ?_
  refine a_get C fl_RX11_26 (i := 0) kd_0 (hid 0 (by decide)) (v := .ref (ad 12)) rfl dX11_beginAnew_30 ?_
  refine p_callVv C (As := []) (i := 12) kd_12 (hid 12 (by decide)) ⟨_, _, rfl⟩ (by decide) h (fun _ e => Z_X5_clear hid e) mi_X5_clear ml_RX11_114 rfl rfl (Nat.le_of_ble_eq_true rfl) (Nat.le_of_ble_eq_true rfl) (Nat.le_of_ble_eq_true rfl) dX11_beginAnew_33 (fun σ8 h => ?_)
  refine a_aload_n C dX11_beginAnew_36 (i := 0) rfl rfl ?_
  refine a_get C fl_RX11_33 (i := 0) kd_0 (hid 0 (by decide)) (v := .ref (ad 14)) rfl dX11_beginAnew_37 ?_
  refine a_iconst C dX11_beginAnew_40 (v := 0) rfl ?_
  refine p_put C fp_RX11_117 (i := 14) kd_14 (hid 14 (by decide)) rfl rfl dX11_beginAnew_41 h (fun σ10 h => ?_)
  refine a_iconst C dX11_beginAnew_44 (v := 0) rfl ?_
  refine a_istore_n C dX11_beginAnew_45 (i := 2) rfl (by decide) rfl (vs1 := [some (.ref (ad 0)), some (.ref (ad ((σ.2.2 1)))), some (.int 0)]) rfl ?_
  refine AW.sub (vs' := [some (.ref (ad 0)), none, some (.int 0)]) (lsub_of (by simp [lsubB])) ?_
  exact j46 _ _ _ h
set_option maxHeartbeats 4000000 in
set_option maxRecDepth 100000 in
theorem Z_X11_read {l : Launch} {D : va_G} {ids : List Nat} {ad : Nat → Nat} {ca : Nat → ClassId} {K : (Nat → Nat) × (Nat → Nat)} {σ : HS} {r0 : Int32} {s0 : HS} (hid : ∀ i, i < 277 → i ∈ ids) (h : f_X11_read σ = some (r0, s0)) : KiS l D ids ad ca K yX11_read cX11_read 2 .int 37 835 [.ref (ad 0)] σ (fun r σ1 => r = r0 ∧ σ1 = s0) := by
  obtain ⟨R, hR⟩ : ∃ R, (r0, s0) = R := ⟨_, rfl⟩
  replace h := h.trans (congrArg some hR)
  refine KiS.of (by decide) (Nat.le_of_ble_eq_true rfl) 1 (fun Γ C E Rt => ?_)
  show AW ids ad ca Γ 0 [some (.ref (ad 0)), none] [] σ
  unfold f_X11_read at h
  refine a_aload_n C dX11_read_0 (i := 0) rfl rfl ?_
  refine a_get C fl_RX11_10 (i := 0) kd_0 (hid 0 (by decide)) (v := .ref (ad 1)) rfl dX11_read_1 ?_
  refine a_aload_n C dX11_read_4 (i := 0) rfl rfl ?_
  refine p_getT C fl_RX11_86 (tx := (σ.2.2 1)) kd_0 (hid 0 (by decide)) (fun t e => by subst e; rfl) dX11_read_5 h (fun ht1 h => ?_)
  refine p_cViS C E (As := [.ref (ad ((σ.2.2 1)))]) (i := 1) kd_1 (hid 1 (by decide)) ⟨_, _, rfl⟩ (by decide) h (fun _ _ e => Z_X6_readInto hid ht1 e) mi_X6_readInto ml_RX11_103 rfl rfl (Nat.le_of_ble_eq_true rfl) (Nat.le_of_ble_eq_true rfl) (Nat.le_of_ble_eq_true rfl) dX11_read_8 (fun r3 σ2 h => ?_)
  refine a_istore_n C dX11_read_11 (i := 1) rfl (by decide) rfl (vs1 := [some (.ref (ad 0)), some (.int r3)]) rfl ?_
  refine a_aload_n C dX11_read_12 (i := 0) rfl rfl ?_
  refine a_get C fl_RX11_10 (i := 0) kd_0 (hid 0 (by decide)) (v := .ref (ad 1)) rfl dX11_read_13 ?_
  refine a_get C fl_RX11_89 (i := 1) kd_1 (hid 1 (by decide)) (v := .ref (ad 2)) rfl dX11_read_16 ?_
  refine a_iconst C dX11_read_19 (v := 0) rfl ?_
  refine p_put C fp_RX11_93 (i := 2) kd_2 (hid 2 (by decide)) rfl rfl dX11_read_20 h (fun σ4 h => ?_)
  refine a_iload_n C dX11_read_23 (i := 1) rfl rfl ?_
  refine p_if_ne C (X := r3.toInt) rfl dX11_read_24 (tgt := 31) rfl h (fun h => ?_) (fun h => ?_)
  ·
    refine a_iload_n C dX11_read_31 (i := 1) rfl rfl ?_
    exact a_iret Rt dX11_read_32 rfl (ret_eq (h.trans (congrArg some hR.symm)))
  ·
    refine a_aload_n C dX11_read_27 (i := 0) rfl rfl ?_
    refine p_callVv C (As := []) (i := 0) kd_0 (hid 0 (by decide)) ⟨_, _, rfl⟩ (by decide) h (fun _ e => Z_X11_beginAnew hid e) mi_X11_beginAnew ml_RX11_107 rfl rfl (Nat.le_of_ble_eq_true rfl) (Nat.le_of_ble_eq_true rfl) (Nat.le_of_ble_eq_true rfl) dX11_read_28 (fun σ5 h => ?_)
    refine a_iload_n C dX11_read_31 (i := 1) rfl rfl ?_
    exact a_iret Rt dX11_read_32 rfl (ret_eq (h.trans (congrArg some hR.symm)))
set_option maxHeartbeats 4000000 in
set_option maxRecDepth 100000 in
theorem Z_X11_place {l : Launch} {D : va_G} {ids : List Nat} {ad : Nat → Nat} {ca : Nat → ClassId} {σ : HS} {r0 : Int32} {s0 : HS} (hid : ∀ i, i < 277 → i ∈ ids) (h : f_X11_place σ = some (r0, s0)) : Ki l D ids ad ca yX11_place cX11_place 1 .int 0 0 [.ref (ad 0)] σ (fun r σ1 => r = r0 ∧ σ1 = s0) := by
  obtain ⟨R, hR⟩ : ∃ R, (r0, s0) = R := ⟨_, rfl⟩
  replace h := h.trans (congrArg some hR)
  refine Ki.of (by decide) (Nat.le_of_ble_eq_true rfl) 0 (fun Γ C Rt => ?_)
  show AW ids ad ca Γ 0 [some (.ref (ad 0))] [] σ
  unfold f_X11_place at h
  refine a_aload_n C dX11_place_0 (i := 0) rfl rfl ?_
  refine a_get C fl_RX11_10 (i := 0) kd_0 (hid 0 (by decide)) (v := .ref (ad 1)) rfl dX11_place_1 ?_
  refine a_get C fl_RX11_118 (i := 1) kd_1 (hid 1 (by decide)) (v := .int (σ.1 1 1)) rfl dX11_place_4 ?_
  exact a_iret Rt dX11_place_7 rfl (ret_eq (h.trans (congrArg some hR.symm)))
set_option maxHeartbeats 4000000 in
set_option maxRecDepth 100000 in
theorem Z_X11_thing {l : Launch} {D : va_G} {ids : List Nat} {ad : Nat → Nat} {ca : Nat → ClassId} {σ : HS} {x1 : Int32} {x2 : Int32} {r0 : Int32} {s0 : HS} (hid : ∀ i, i < 277 → i ∈ ids) (h : f_X11_thing x1 x2 σ = some (r0, s0)) : Ki l D ids ad ca yX11_thing cX11_thing 3 .int 1 21 [.ref (ad 0), .int x1, .int x2] σ (fun r σ1 => r = r0 ∧ σ1 = s0) := by
  obtain ⟨R, hR⟩ : ∃ R, (r0, s0) = R := ⟨_, rfl⟩
  replace h := h.trans (congrArg some hR)
  refine Ki.of (by decide) (Nat.le_of_ble_eq_true rfl) 0 (fun Γ C Rt => ?_)
  show AW ids ad ca Γ 0 [some (.ref (ad 0)), some (.int x1), some (.int x2)] [] σ
  unfold f_X11_thing at h
  refine a_aload_n C dX11_thing_0 (i := 0) rfl rfl ?_
  refine p_getT C fl_RX11_82 (tx := (σ.2.2 0)) kd_0 (hid 0 (by decide)) (fun t e => by subst e; rfl) dX11_thing_1 h (fun ht1 h => ?_)
  refine a_iload_n C dX11_thing_4 (i := 1) rfl rfl ?_
  refine p_callVi C (As := [.int x1]) (i := ((σ.2.2 0))) ht1.1.1 (hid _ ht1.1.2) ⟨_, _, rfl⟩ (by decide) h (fun _ _ e => Z_X10_hasThing hid ht1 e) mi_X10_hasThing ml_RX11_121 rfl rfl (Nat.le_of_ble_eq_true rfl) (Nat.le_of_ble_eq_true rfl) (Nat.le_of_ble_eq_true rfl) dX11_thing_5 (fun r3 σ2 h => ?_)
  refine p_if_ne C (X := r3.toInt) rfl dX11_thing_8 (tgt := 13) rfl h (fun h => ?_) (fun h => ?_)
  ·
    refine a_iload_n C dX11_thing_13 (i := 2) rfl rfl ?_
    refine ite_k h (fun c1 h => ?_) (fun c1 h => ?_)
    ·
      refine a_tableIn C dX11_thing_14 (by omega) (by omega) (by rw [c1]; rfl) (tgt := 48) rfl ?_
      refine a_aload_n C dX11_thing_48 (i := 0) rfl rfl ?_
      refine p_getT C fl_RX11_82 (tx := (σ2.2.2 0)) kd_0 (hid 0 (by decide)) (fun t e => by subst e; rfl) dX11_thing_49 h (fun ht4 h => ?_)
      refine a_get C fl_RX11_125 (i := ((σ2.2.2 0))) ht4.1.1 (hid _ ht4.1.2) (v := .ref (ad ((σ2.2.2 0) + 1))) rfl dX11_thing_52 ?_
      refine a_iload_n C dX11_thing_55 (i := 1) rfl rfl ?_
      refine p_iald C (i := ((σ2.2.2 0) + 1)) ht4.2.1.1 hid (by rw [ht4.2.1.2]; rfl) dX11_thing_56 h (fun h => ?_)
      exact a_iret Rt dX11_thing_57 rfl (ret_eq (h.trans (congrArg some hR.symm)))
    ·
      refine ite_k h (fun c2 h => ?_) (fun c2 h => ?_)
      ·
        refine a_tableIn C dX11_thing_14 (by omega) (by omega) (by rw [c2]; rfl) (tgt := 58) rfl ?_
        refine a_aload_n C dX11_thing_58 (i := 0) rfl rfl ?_
        refine p_getT C fl_RX11_82 (tx := (σ2.2.2 0)) kd_0 (hid 0 (by decide)) (fun t e => by subst e; rfl) dX11_thing_59 h (fun ht5 h => ?_)
        refine a_get C fl_RX11_128 (i := ((σ2.2.2 0))) ht5.1.1 (hid _ ht5.1.2) (v := .ref (ad ((σ2.2.2 0) + 2))) rfl dX11_thing_62 ?_
        refine a_iload_n C dX11_thing_65 (i := 1) rfl rfl ?_
        refine p_iald C (i := ((σ2.2.2 0) + 2)) ht5.2.2.1.1 hid (by rw [ht5.2.2.1.2]; rfl) dX11_thing_66 h (fun h => ?_)
        exact a_iret Rt dX11_thing_67 rfl (ret_eq (h.trans (congrArg some hR.symm)))
      ·
        refine ite_k h (fun c3 h => ?_) (fun c3 h => ?_)
        ·
          refine a_tableIn C dX11_thing_14 (by omega) (by omega) (by rw [c3]; rfl) (tgt := 68) rfl ?_
          refine a_aload_n C dX11_thing_68 (i := 0) rfl rfl ?_
          refine a_get C fl_RX11_54 (i := 0) kd_0 (hid 0 (by decide)) (v := .ref (ad 56)) rfl dX11_thing_69 ?_
          refine a_get C fl_RX11_131 (i := 56) (show airOK 56 from airOK_of 0 (by decide)).1.1 (hid _ (show airOK 56 from airOK_of 0 (by decide)).1.2) (v := .ref (ad 57)) rfl dX11_thing_72 ?_
          refine a_iload_n C dX11_thing_75 (i := 1) rfl rfl ?_
          refine p_iald C (i := 57) (show rowOK 57 from ⟨kd_57, by decide⟩) hid (by rw [al_57]; rfl) dX11_thing_76 h (fun h => ?_)
          exact a_iret Rt dX11_thing_77 rfl (ret_eq (h.trans (congrArg some hR.symm)))
        ·
          refine ite_k h (fun c4 h => ?_) (fun c4 h => ?_)
          ·
            refine a_tableIn C dX11_thing_14 (by omega) (by omega) (by rw [c4]; rfl) (tgt := 78) rfl ?_
            refine a_aload_n C dX11_thing_78 (i := 0) rfl rfl ?_
            refine a_get C fl_RX11_54 (i := 0) kd_0 (hid 0 (by decide)) (v := .ref (ad 56)) rfl dX11_thing_79 ?_
            refine a_iload_n C dX11_thing_82 (i := 1) rfl rfl ?_
            refine p_callVi C (As := [.int x1]) (i := 56) (show airOK 56 from airOK_of 0 (by decide)).1.1 (hid _ (show airOK 56 from airOK_of 0 (by decide)).1.2) ⟨_, _, rfl⟩ (by decide) h (fun _ _ e => Z_X0_isUp hid (show airOK 56 from airOK_of 0 (by decide)) e) mi_X0_isUp ml_RX11_134 rfl rfl (Nat.le_of_ble_eq_true rfl) (Nat.le_of_ble_eq_true rfl) (Nat.le_of_ble_eq_true rfl) dX11_thing_83 (fun r7 σ6 h => ?_)
            refine p_if_eq C (X := r7.toInt) rfl dX11_thing_86 (tgt := 101) rfl h (fun h => ?_) (fun h => ?_)
            ·
              refine a_bipush C dX11_thing_101 (v := (-2)) rfl ?_
              exact a_iret Rt dX11_thing_103 rfl (ret_eq (h.trans (congrArg some hR.symm)))
            ·
              refine a_aload_n C dX11_thing_89 (i := 0) rfl rfl ?_
              refine a_get C fl_RX11_54 (i := 0) kd_0 (hid 0 (by decide)) (v := .ref (ad 56)) rfl dX11_thing_90 ?_
              refine a_get C fl_RX11_137 (i := 56) (show airOK 56 from airOK_of 0 (by decide)).1.1 (hid _ (show airOK 56 from airOK_of 0 (by decide)).1.2) (v := .ref (ad 58)) rfl dX11_thing_93 ?_
              refine a_iload_n C dX11_thing_96 (i := 1) rfl rfl ?_
              refine p_iald C (i := 58) (show rowOK 58 from ⟨kd_58, by decide⟩) hid (by rw [al_58]; rfl) dX11_thing_97 h (fun h => ?_)
              refine a_goto C dX11_thing_98 (tgt := 103) rfl ?_
              exact a_iret Rt dX11_thing_103 rfl (ret_eq (h.trans (congrArg some hR.symm)))
          ·
            refine ite_k h (fun c5 h => ?_) (fun c5 h => ?_)
            ·
              refine a_tableIn C dX11_thing_14 (by omega) (by omega) (by rw [c5]; rfl) (tgt := 104) rfl ?_
              refine a_aload_n C dX11_thing_104 (i := 0) rfl rfl ?_
              refine a_get C fl_RX11_54 (i := 0) kd_0 (hid 0 (by decide)) (v := .ref (ad 56)) rfl dX11_thing_105 ?_
              refine a_get C fl_RX11_140 (i := 56) (show airOK 56 from airOK_of 0 (by decide)).1.1 (hid _ (show airOK 56 from airOK_of 0 (by decide)).1.2) (v := .ref (ad 59)) rfl dX11_thing_108 ?_
              refine a_iload_n C dX11_thing_111 (i := 1) rfl rfl ?_
              refine p_iald C (i := 59) (show rowOK 59 from ⟨kd_59, by decide⟩) hid (by rw [al_59]; rfl) dX11_thing_112 h (fun h => ?_)
              exact a_iret Rt dX11_thing_113 rfl (ret_eq (h.trans (congrArg some hR.symm)))
            ·
              refine a_tableOut C dX11_thing_14 (by omega) (tgt := 114) rfl ?_
              refine a_iconst C dX11_thing_114 (v := (-1)) rfl ?_
              exact a_iret Rt dX11_thing_115 rfl (ret_eq (h.trans (congrArg some hR.symm)))
  ·
    refine a_iconst C dX11_thing_11 (v := (-1)) rfl ?_
    exact a_iret Rt dX11_thing_12 rfl (ret_eq (h.trans (congrArg some hR.symm)))
set_option maxHeartbeats 4000000 in
set_option maxRecDepth 100000 in
theorem Z_X11_pattern {l : Launch} {D : va_G} {ids : List Nat} {ad : Nat → Nat} {ca : Nat → ClassId} {σ : HS} {x1 : Int32} {x2 : Int32} {r0 : Int32} {s0 : HS} (hid : ∀ i, i < 277 → i ∈ ids) (h : f_X11_pattern x1 x2 σ = some (r0, s0)) : Ki l D ids ad ca yX11_pattern cX11_pattern 3 .int 1 21 [.ref (ad 0), .int x1, .int x2] σ (fun r σ1 => r = r0 ∧ σ1 = s0) := by
  obtain ⟨R, hR⟩ : ∃ R, (r0, s0) = R := ⟨_, rfl⟩
  replace h := h.trans (congrArg some hR)
  refine Ki.of (by decide) (Nat.le_of_ble_eq_true rfl) 0 (fun Γ C Rt => ?_)
  show AW ids ad ca Γ 0 [some (.ref (ad 0)), some (.int x1), some (.int x2)] [] σ
  unfold f_X11_pattern at h
  refine a_aload_n C dX11_pattern_0 (i := 0) rfl rfl ?_
  refine p_getT C fl_RX11_82 (tx := (σ.2.2 0)) kd_0 (hid 0 (by decide)) (fun t e => by subst e; rfl) dX11_pattern_1 h (fun ht1 h => ?_)
  refine a_iload_n C dX11_pattern_4 (i := 1) rfl rfl ?_
  refine p_callVi C (As := [.int x1]) (i := ((σ.2.2 0))) ht1.1.1 (hid _ ht1.1.2) ⟨_, _, rfl⟩ (by decide) h (fun _ _ e => Z_X10_hasPattern hid ht1 e) mi_X10_hasPattern ml_RX11_143 rfl rfl (Nat.le_of_ble_eq_true rfl) (Nat.le_of_ble_eq_true rfl) (Nat.le_of_ble_eq_true rfl) dX11_pattern_5 (fun r3 σ2 h => ?_)
  refine p_if_ne C (X := r3.toInt) rfl dX11_pattern_8 (tgt := 13) rfl h (fun h => ?_) (fun h => ?_)
  ·
    refine a_iload_n C dX11_pattern_13 (i := 2) rfl rfl ?_
    refine a_iconst C dX11_pattern_14 (v := (-1)) rfl ?_
    refine p_ic_ne C (X := x2.toInt) (Y := (-1)) rfl (by decide) dX11_pattern_15 (tgt := 28) rfl h (fun h => ?_) (fun h => ?_)
    ·
      refine a_iload_n C dX11_pattern_28 (i := 2) rfl rfl ?_
      refine p_if_lt C (X := x2.toInt) rfl dX11_pattern_29 (tgt := 59) rfl h (fun h => ?_) (fun h => ?_)
      ·
        refine a_iconst C dX11_pattern_59 (v := (-1)) rfl ?_
        exact a_iret Rt dX11_pattern_60 rfl (ret_eq (h.trans (congrArg some hR.symm)))
      ·
        refine a_iload_n C dX11_pattern_32 (i := 2) rfl rfl ?_
        refine a_aload_n C dX11_pattern_33 (i := 0) rfl rfl ?_
        refine p_getT C fl_RX11_82 (tx := (σ2.2.2 0)) kd_0 (hid 0 (by decide)) (fun t e => by subst e; rfl) dX11_pattern_34 h (fun ht4 h => ?_)
        refine a_get C fl_RX11_146 (i := ((σ2.2.2 0))) ht4.1.1 (hid _ ht4.1.2) (v := .ref (ad ((σ2.2.2 0) + 10))) rfl dX11_pattern_37 ?_
        refine a_iload_n C dX11_pattern_40 (i := 1) rfl rfl ?_
        refine p_iald C (i := ((σ2.2.2 0) + 10)) ht4.2.2.2.2.1.1 hid (by rw [ht4.2.2.2.2.1.2]; rfl) dX11_pattern_41 h (fun h => ?_)
        refine p_ic_ge C (X := x2.toInt) (Y := (σ2.1 ((σ2.2.2 0) + 10) x1.toInt.toNat).toInt) rfl rfl dX11_pattern_42 (tgt := 59) rfl h (fun h => ?_) (fun h => ?_)
        ·
          refine a_iconst C dX11_pattern_59 (v := (-1)) rfl ?_
          exact a_iret Rt dX11_pattern_60 rfl (ret_eq (h.trans (congrArg some hR.symm)))
        ·
          refine a_aload_n C dX11_pattern_45 (i := 0) rfl rfl ?_
          refine p_getT C fl_RX11_82 (tx := (σ2.2.2 0)) kd_0 (hid 0 (by decide)) (fun t e => by subst e; rfl) dX11_pattern_46 h (fun ht5 h => ?_)
          refine a_get C fl_RX11_149 (i := ((σ2.2.2 0))) ht5.1.1 (hid _ ht5.1.2) (v := .ref (ad ((σ2.2.2 0) + 4))) rfl dX11_pattern_49 ?_
          refine a_iload_n C dX11_pattern_52 (i := 1) rfl rfl ?_
          refine p_aaldH C (t := ((σ2.2.2 0))) ht5 hid dX11_pattern_53 h (fun hr6 h => ?_)
          refine a_iload_n C dX11_pattern_54 (i := 2) rfl rfl ?_
          refine p_iald C (i := ((σ2.2.2 0) + 5 + x1.toInt.toNat)) hr6.1 hid (by rw [hr6.2]; rfl) dX11_pattern_55 h (fun h => ?_)
          refine a_goto C dX11_pattern_56 (tgt := 60) rfl ?_
          exact a_iret Rt dX11_pattern_60 rfl (ret_eq (h.trans (congrArg some hR.symm)))
    ·
      refine a_aload_n C dX11_pattern_18 (i := 0) rfl rfl ?_
      refine p_getT C fl_RX11_82 (tx := (σ2.2.2 0)) kd_0 (hid 0 (by decide)) (fun t e => by subst e; rfl) dX11_pattern_19 h (fun ht7 h => ?_)
      refine a_get C fl_RX11_146 (i := ((σ2.2.2 0))) ht7.1.1 (hid _ ht7.1.2) (v := .ref (ad ((σ2.2.2 0) + 10))) rfl dX11_pattern_22 ?_
      refine a_iload_n C dX11_pattern_25 (i := 1) rfl rfl ?_
      refine p_iald C (i := ((σ2.2.2 0) + 10)) ht7.2.2.2.2.1.1 hid (by rw [ht7.2.2.2.2.1.2]; rfl) dX11_pattern_26 h (fun h => ?_)
      exact a_iret Rt dX11_pattern_27 rfl (ret_eq (h.trans (congrArg some hR.symm)))
  ·
    refine a_iconst C dX11_pattern_11 (v := (-1)) rfl ?_
    exact a_iret Rt dX11_pattern_12 rfl (ret_eq (h.trans (congrArg some hR.symm)))
set_option maxHeartbeats 4000000 in
set_option maxRecDepth 100000 in
theorem Z_X11_tells {l : Launch} {D : va_G} {ids : List Nat} {ad : Nat → Nat} {ca : Nat → ClassId} {σ : HS} {x1 : Int32} {x2 : Int32} {x3 : Int32} {r0 : Int32} {s0 : HS} (hid : ∀ i, i < 277 → i ∈ ids) (h : f_X11_tells x1 x2 x3 σ = some (r0, s0)) : Ki l D ids ad ca yX11_tells cX11_tells 5 .int 3 74 [.ref (ad 0), .int x1, .int x2, .int x3] σ (fun r σ1 => r = r0 ∧ σ1 = s0) := by
  obtain ⟨R, hR⟩ : ∃ R, (r0, s0) = R := ⟨_, rfl⟩
  replace h := h.trans (congrArg some hR)
  refine Ki.of (by decide) (Nat.le_of_ble_eq_true rfl) 1 (fun Γ C Rt => ?_)
  show AW ids ad ca Γ 0 [some (.ref (ad 0)), some (.int x1), some (.int x2), some (.int x3), none] [] σ
  unfold f_X11_tells at h
  have j96 : ∀ (v0 : Int32) (v1 : Int32) (w2 : Nat) (σ : HS) (hw2 : txtOK w2), f_X11_tells_96 v0 v1 w2 σ = some R → AW ids ad ca Γ 96 [none, none, none, none, none] [.int v0, .int v1, .ref (ad w2), .ref (ad 8)] σ := by
    intro v0 v1 w2 σ hw2 h
    unfold f_X11_tells_96 at h
    refine p_callVi C (As := [.ref (ad w2), .int v1, .int v0]) (i := 8) kd_8 (hid 8 (by decide)) ⟨_, _, rfl⟩ (by decide) h (fun _ _ e => Z_X4_asks hid hw2 e) mi_X4_asks ml_RX11_164 rfl rfl (Nat.le_of_ble_eq_true rfl) (Nat.le_of_ble_eq_true rfl) (Nat.le_of_ble_eq_true rfl) dX11_tells_96 (fun r2 σ1 h => ?_)
    exact a_iret Rt dX11_tells_99 rfl (ret_eq (h.trans (congrArg some hR.symm)))
  have j54 : ∀ (y1 : Int32) (y2 : Int32) (y3 : Int32) (y4 : Int32) (σ : HS), f_X11_tells_54 y1 y2 y3 y4 σ = some R → AW ids ad ca Γ 54 [some (.ref (ad 0)), some (.int y1), some (.int y2), some (.int y3), some (.int y4)] [] σ := by
    intro y1 y2 y3 y4 σ h
    unfold f_X11_tells_54 at h
    refine a_aload_n C dX11_tells_54 (i := 0) rfl rfl ?_
    refine a_get C fl_RX11_19 (i := 0) kd_0 (hid 0 (by decide)) (v := .ref (ad 8)) rfl dX11_tells_55 ?_
    refine a_aload_n C dX11_tells_58 (i := 0) rfl rfl ?_
    refine p_getT C fl_RX11_82 (tx := (σ.2.2 0)) kd_0 (hid 0 (by decide)) (fun t e => by subst e; rfl) dX11_tells_59 h (fun ht1 h => ?_)
    refine a_aload_n C dX11_tells_62 (i := 0) rfl rfl ?_
    refine a_get C fl_RX11_54 (i := 0) kd_0 (hid 0 (by decide)) (v := .ref (ad 56)) rfl dX11_tells_63 ?_
    refine a_iload_n C dX11_tells_66 (i := 1) rfl rfl ?_
    refine a_aload_n C dX11_tells_67 (i := 0) rfl rfl ?_
    refine a_get C fl_RX11_54 (i := 0) kd_0 (hid 0 (by decide)) (v := .ref (ad 56)) rfl dX11_tells_68 ?_
    refine p_callVi C (As := []) (i := 56) (show airOK 56 from airOK_of 0 (by decide)).1.1 (hid _ (show airOK 56 from airOK_of 0 (by decide)).1.2) ⟨_, _, rfl⟩ (by decide) h (fun _ _ e => Z_X0_howManyUp hid (show airOK 56 from airOK_of 0 (by decide)) e) mi_X0_howManyUp ml_RX11_156 rfl rfl (Nat.le_of_ble_eq_true rfl) (Nat.le_of_ble_eq_true rfl) (Nat.le_of_ble_eq_true rfl) dX11_tells_71 (fun r3 σ2 h => ?_)
    refine p_callVv C (As := [.ref (ad ((σ.2.2 0))), .ref (ad 56), .int y1, .int r3]) (i := 8) kd_8 (hid 8 (by decide)) ⟨_, _, rfl⟩ (by decide) h (fun _ e => Z_X4_lookAt hid ht1 (show airOK 56 from airOK_of 0 (by decide)) e) mi_X4_lookAt ml_RX11_160 rfl rfl (Nat.le_of_ble_eq_true rfl) (Nat.le_of_ble_eq_true rfl) (Nat.le_of_ble_eq_true rfl) dX11_tells_74 (fun σ4 h => ?_)
    refine a_aload_n C dX11_tells_77 (i := 0) rfl rfl ?_
    refine a_get C fl_RX11_19 (i := 0) kd_0 (hid 0 (by decide)) (v := .ref (ad 8)) rfl dX11_tells_78 ?_
    refine a_aload_n C dX11_tells_81 (i := 0) rfl rfl ?_
    refine p_getT C fl_RX11_82 (tx := (σ4.2.2 0)) kd_0 (hid 0 (by decide)) (fun t e => by subst e; rfl) dX11_tells_82 h (fun ht6 h => ?_)
    refine a_iload_n C dX11_tells_85 (i := 3) rfl rfl ?_
    refine a_iload C dX11_tells_86 rfl ?_
    refine p_if_eq C (X := y4.toInt) rfl dX11_tells_88 (tgt := 95) rfl h (fun h => ?_) (fun h => ?_)
    ·
      refine a_iconst C dX11_tells_95 (v := 0) rfl ?_
      refine AW.sub (vs' := [none, none, none, none, none]) (lsub_of (by simp [lsubB])) ?_
      exact j96 _ _ _ _ ht6 h
    ·
      refine a_iload_n C dX11_tells_91 (i := 2) rfl rfl ?_
      refine a_goto C dX11_tells_92 (tgt := 96) rfl ?_
      refine AW.sub (vs' := [none, none, none, none, none]) (lsub_of (by simp [lsubB])) ?_
      exact j96 _ _ _ _ ht6 h
  have j37 : ∀ (y1 : Int32) (y2 : Int32) (y3 : Int32) (v0 : Int32) (σ : HS), f_X11_tells_37 y1 y2 y3 v0 σ = some R → AW ids ad ca Γ 37 [some (.ref (ad 0)), some (.int y1), some (.int y2), some (.int y3), none] [.int v0] σ := by
    intro y1 y2 y3 v0 σ h
    unfold f_X11_tells_37 at h
    refine a_istore C dX11_tells_37 (by decide) rfl (vs1 := [some (.ref (ad 0)), some (.int y1), some (.int y2), some (.int y3), some (.int v0)]) rfl ?_
    refine a_iload C dX11_tells_39 rfl ?_
    refine p_if_eq C (X := v0.toInt) rfl dX11_tells_41 (tgt := 54) rfl h (fun h => ?_) (fun h => ?_)
    ·
      exact j54 _ _ _ _ _ h
    ·
      refine a_iload_n C dX11_tells_44 (i := 2) rfl rfl ?_
      refine p_callSi C (As := [.int y2]) h (fun _ _ e => Z_X11_isHeight hid e) ms_X11_isHeight ml_RX11_153 rfl rfl (Nat.le_of_ble_eq_true rfl) (Nat.le_of_ble_eq_true rfl) (Nat.le_of_ble_eq_true rfl) dX11_tells_45 (fun r2 σ1 h => ?_)
      refine p_if_ne C (X := r2.toInt) rfl dX11_tells_48 (tgt := 54) rfl h (fun h => ?_) (fun h => ?_)
      ·
        exact j54 _ _ _ _ _ h
      ·
        refine a_bipush C dX11_tells_51 (v := (-100)) rfl ?_
        exact a_iret Rt dX11_tells_53 rfl (ret_eq (h.trans (congrArg some hR.symm)))
  have j32 : ∀ (y1 : Int32) (y2 : Int32) (y3 : Int32) (σ : HS), f_X11_tells_32 y1 y2 y3 σ = some R → AW ids ad ca Γ 32 [some (.ref (ad 0)), some (.int y1), some (.int y2), some (.int y3), none] [] σ := by
    intro y1 y2 y3 σ h
    unfold f_X11_tells_32 at h
    refine a_iconst C dX11_tells_32 (v := 1) rfl ?_
    refine a_goto C dX11_tells_33 (tgt := 37) rfl ?_
    exact j37 _ _ _ _ _ h
  refine a_aload_n C dX11_tells_0 (i := 0) rfl rfl ?_
  refine p_getT C fl_RX11_82 (tx := (σ.2.2 0)) kd_0 (hid 0 (by decide)) (fun t e => by subst e; rfl) dX11_tells_1 h (fun ht1 h => ?_)
  refine a_iload_n C dX11_tells_4 (i := 1) rfl rfl ?_
  refine p_callVi C (As := [.int x1]) (i := ((σ.2.2 0))) ht1.1.1 (hid _ ht1.1.2) ⟨_, _, rfl⟩ (by decide) h (fun _ _ e => Z_X10_hasThing hid ht1 e) mi_X10_hasThing ml_RX11_121 rfl rfl (Nat.le_of_ble_eq_true rfl) (Nat.le_of_ble_eq_true rfl) (Nat.le_of_ble_eq_true rfl) dX11_tells_5 (fun r3 σ2 h => ?_)
  refine p_if_eq C (X := r3.toInt) rfl dX11_tells_8 (tgt := 20) rfl h (fun h => ?_) (fun h => ?_)
  ·
    refine a_bipush C dX11_tells_20 (v := (-100)) rfl ?_
    exact a_iret Rt dX11_tells_22 rfl (ret_eq (h.trans (congrArg some hR.symm)))
  ·
    refine a_iload_n C dX11_tells_11 (i := 3) rfl rfl ?_
    refine p_if_lt C (X := x3.toInt) rfl dX11_tells_12 (tgt := 20) rfl h (fun h => ?_) (fun h => ?_)
    ·
      refine a_bipush C dX11_tells_20 (v := (-100)) rfl ?_
      exact a_iret Rt dX11_tells_22 rfl (ret_eq (h.trans (congrArg some hR.symm)))
    ·
      refine a_iload_n C dX11_tells_15 (i := 3) rfl rfl ?_
      refine a_iconst C dX11_tells_16 (v := 3) rfl ?_
      refine p_ic_le C (X := x3.toInt) (Y := 3) rfl (by decide) dX11_tells_17 (tgt := 23) rfl h (fun h => ?_) (fun h => ?_)
      ·
        refine a_iload_n C dX11_tells_23 (i := 3) rfl rfl ?_
        refine p_if_eq C (X := x3.toInt) rfl dX11_tells_24 (tgt := 32) rfl h (fun h => ?_) (fun h => ?_)
        ·
          exact j32 _ _ _ _ h
        ·
          refine a_iload_n C dX11_tells_27 (i := 3) rfl rfl ?_
          refine a_iconst C dX11_tells_28 (v := 1) rfl ?_
          refine p_ic_ne C (X := x3.toInt) (Y := 1) rfl (by decide) dX11_tells_29 (tgt := 36) rfl h (fun h => ?_) (fun h => ?_)
          ·
            refine a_iconst C dX11_tells_36 (v := 0) rfl ?_
            exact j37 _ _ _ _ _ h
          ·
            exact j32 _ _ _ _ h
      ·
        refine a_bipush C dX11_tells_20 (v := (-100)) rfl ?_
        exact a_iret Rt dX11_tells_22 rfl (ret_eq (h.trans (congrArg some hR.symm)))
set_option maxHeartbeats 4000000 in
set_option maxRecDepth 100000 in
theorem Z_X11_slotsHeld {l : Launch} {D : va_G} {ids : List Nat} {ad : Nat → Nat} {ca : Nat → ClassId} {σ : HS} {r0 : Int32} {s0 : HS} (hid : ∀ i, i < 277 → i ∈ ids) (h : f_X11_slotsHeld σ = some (r0, s0)) : Ki l D ids ad ca yX11_slotsHeld cX11_slotsHeld 3 .int 0 0 [.ref (ad 0)] σ (fun r σ1 => r = r0 ∧ σ1 = s0) := by
  obtain ⟨R, hR⟩ : ∃ R, (r0, s0) = R := ⟨_, rfl⟩
  replace h := h.trans (congrArg some hR)
  refine Ki.of (by decide) (Nat.le_of_ble_eq_true rfl) 2 (fun Γ C Rt => ?_)
  show AW ids ad ca Γ 0 [some (.ref (ad 0)), none, none] [] σ
  unfold f_X11_slotsHeld at h
  have j21 : ∀ (k4 : Int32 → Int32 → HS → Option (Int32 × HS)) (hk4 : ∀ (y1 : Int32) (y2 : Int32) (σ : HS), k4 y1 y2 σ = some R → AW ids ad ca Γ 4 [some (.ref (ad 0)), some (.int y1), some (.int y2)] [] σ) (y1 : Int32) (y2 : Int32) (σ : HS), f_X11_slotsHeld_21 k4 y1 y2 σ = some R → AW ids ad ca Γ 21 [some (.ref (ad 0)), some (.int y1), some (.int y2)] [] σ := by
    intro k4 hk4 y1 y2 σ h
    unfold f_X11_slotsHeld_21 at h
    refine p_iinc C (y := (y2 + 1)) (fun z1 => [some (.ref (ad 0)), some (.int y1), some (.int z1)]) dX11_slotsHeld_21 rfl rfl (by decide) rfl (fun _ => rfl) h (fun z1 h => ?_)
    refine a_goto C dX11_slotsHeld_24 (tgt := 4) rfl ?_
    exact hk4 _ _ _ h
  have j4 : ∀ (n : Nat) (y1 : Int32) (y2 : Int32) (σ : HS), f_X11_slotsHeld_4 n y1 y2 σ = some R → AW ids ad ca Γ 4 [some (.ref (ad 0)), some (.int y1), some (.int y2)] [] σ := by
    intro n
    induction n with
    | zero => intro y1 y2 σ h; exact nn h
    | succ n ih =>
      intro y1 y2 σ h
      have h : b_X11_slotsHeld_4 (f_X11_slotsHeld_4 n) y1 y2 σ = some R := h
      unfold b_X11_slotsHeld_4 at h
      refine a_iload_n C dX11_slotsHeld_4 (i := 2) rfl rfl ?_
      refine a_iconst C dX11_slotsHeld_5 (v := 3) rfl ?_
      refine p_ic_ge C (X := y2.toInt) (Y := 3) rfl (by decide) dX11_slotsHeld_6 (tgt := 27) rfl h (fun h => ?_) (fun h => ?_)
      ·
        refine a_iload_n C dX11_slotsHeld_27 (i := 1) rfl rfl ?_
        exact a_iret Rt dX11_slotsHeld_28 rfl (ret_eq (h.trans (congrArg some hR.symm)))
      ·
        refine a_aload_n C dX11_slotsHeld_9 (i := 0) rfl rfl ?_
        refine a_get C fl_RX11_65 (i := 0) kd_0 (hid 0 (by decide)) (v := .ref (ad 26)) rfl dX11_slotsHeld_10 ?_
        refine a_iload_n C dX11_slotsHeld_13 (i := 2) rfl rfl ?_
        refine p_zald C (i := 26) kd_26 (hid 26 (by decide)) (by rw [al_26]; rfl) dX11_slotsHeld_14 h (fun h => ?_)
        refine p_if_eq C (X := (σ.1 26 y2.toInt.toNat).toInt) rfl dX11_slotsHeld_15 (tgt := 21) rfl h (fun h => ?_) (fun h => ?_)
        ·
          exact j21 (f_X11_slotsHeld_4 n) (fun y1 y2 σ h => ih y1 y2 σ h) _ _ _ h
        ·
          refine p_iinc C (y := (y1 + 1)) (fun z1 => [some (.ref (ad 0)), some (.int z1), some (.int y2)]) dX11_slotsHeld_18 rfl rfl (by decide) rfl (fun _ => rfl) h (fun z1 h => ?_)
          exact j21 (f_X11_slotsHeld_4 n) (fun y1 y2 σ h => ih y1 y2 σ h) _ _ _ h
  refine a_iconst C dX11_slotsHeld_0 (v := 0) rfl ?_
  refine a_istore_n C dX11_slotsHeld_1 (i := 1) rfl (by decide) rfl (vs1 := [some (.ref (ad 0)), some (.int 0), none]) rfl ?_
  refine a_iconst C dX11_slotsHeld_2 (v := 0) rfl ?_
  refine a_istore_n C dX11_slotsHeld_3 (i := 2) rfl (by decide) rfl (vs1 := [some (.ref (ad 0)), some (.int 0), some (.int 0)]) rfl ?_
  exact j4 _ _ _ _ h
set_option maxHeartbeats 4000000 in
set_option maxRecDepth 100000 in
theorem Z_X11_weightsOf {l : Launch} {D : va_G} {ids : List Nat} {ad : Nat → Nat} {ca : Nat → ClassId} {σ : HS} {x1 : Int32} {r0 : Int32} {s0 : HS} (hid : ∀ i, i < 277 → i ∈ ids) (h : f_X11_weightsOf x1 σ = some (r0, s0)) : Ki l D ids ad ca yX11_weightsOf cX11_weightsOf 4 .int 0 0 [.ref (ad 0), .int x1] σ (fun r σ1 => r = r0 ∧ σ1 = s0) := by
  obtain ⟨R, hR⟩ : ∃ R, (r0, s0) = R := ⟨_, rfl⟩
  replace h := h.trans (congrArg some hR)
  refine Ki.of (by decide) (Nat.le_of_ble_eq_true rfl) 2 (fun Γ C Rt => ?_)
  show AW ids ad ca Γ 0 [some (.ref (ad 0)), some (.int x1), none, none] [] σ
  unfold f_X11_weightsOf at h
  have j36 : ∀ (k4 : Int32 → Int32 → Int32 → HS → Option (Int32 × HS)) (hk4 : ∀ (y1 : Int32) (y2 : Int32) (y3 : Int32) (σ : HS), k4 y1 y2 y3 σ = some R → AW ids ad ca Γ 4 [some (.ref (ad 0)), some (.int y1), some (.int y2), some (.int y3)] [] σ) (y1 : Int32) (y2 : Int32) (y3 : Int32) (σ : HS), f_X11_weightsOf_36 k4 y1 y2 y3 σ = some R → AW ids ad ca Γ 36 [some (.ref (ad 0)), some (.int y1), some (.int y2), some (.int y3)] [] σ := by
    intro k4 hk4 y1 y2 y3 σ h
    unfold f_X11_weightsOf_36 at h
    refine p_iinc C (y := (y3 + 1)) (fun z1 => [some (.ref (ad 0)), some (.int y1), some (.int y2), some (.int z1)]) dX11_weightsOf_36 rfl rfl (by decide) rfl (fun _ => rfl) h (fun z1 h => ?_)
    refine a_goto C dX11_weightsOf_39 (tgt := 4) rfl ?_
    exact hk4 _ _ _ _ h
  have j4 : ∀ (n : Nat) (y1 : Int32) (y2 : Int32) (y3 : Int32) (σ : HS), f_X11_weightsOf_4 n y1 y2 y3 σ = some R → AW ids ad ca Γ 4 [some (.ref (ad 0)), some (.int y1), some (.int y2), some (.int y3)] [] σ := by
    intro n
    induction n with
    | zero => intro y1 y2 y3 σ h; exact nn h
    | succ n ih =>
      intro y1 y2 y3 σ h
      have h : b_X11_weightsOf_4 (f_X11_weightsOf_4 n) y1 y2 y3 σ = some R := h
      unfold b_X11_weightsOf_4 at h
      refine a_iload_n C dX11_weightsOf_4 (i := 3) rfl rfl ?_
      refine a_aload_n C dX11_weightsOf_5 (i := 0) rfl rfl ?_
      refine p_getT C fl_RX11_82 (tx := (σ.2.2 0)) kd_0 (hid 0 (by decide)) (fun t e => by subst e; rfl) dX11_weightsOf_6 h (fun ht1 h => ?_)
      refine a_get C fl_RX11_168 (i := ((σ.2.2 0))) ht1.1.1 (hid _ ht1.1.2) (v := .int (σ.1 ((σ.2.2 0)) 0)) rfl dX11_weightsOf_9 ?_
      refine p_ic_ge C (X := y3.toInt) (Y := (σ.1 ((σ.2.2 0)) 0).toInt) rfl rfl dX11_weightsOf_12 (tgt := 42) rfl h (fun h => ?_) (fun h => ?_)
      ·
        refine a_iload_n C dX11_weightsOf_42 (i := 2) rfl rfl ?_
        exact a_iret Rt dX11_weightsOf_43 rfl (ret_eq (h.trans (congrArg some hR.symm)))
      ·
        refine a_iload_n C dX11_weightsOf_15 (i := 1) rfl rfl ?_
        refine a_iload_n C dX11_weightsOf_16 (i := 3) rfl rfl ?_
        refine a_ishr C dX11_weightsOf_17 ?_
        refine a_iconst C dX11_weightsOf_18 (v := 1) rfl ?_
        refine a_iand C dX11_weightsOf_19 ?_
        refine a_iconst C dX11_weightsOf_20 (v := 1) rfl ?_
        refine p_ic_ne C (X := ((y1 >>> (y3 &&& 31)) &&& (1 : Int32)).toInt) (Y := 1) rfl (by decide) dX11_weightsOf_21 (tgt := 36) rfl h (fun h => ?_) (fun h => ?_)
        ·
          exact j36 (f_X11_weightsOf_4 n) (fun y1 y2 y3 σ h => ih y1 y2 y3 σ h) _ _ _ _ h
        ·
          refine a_iload_n C dX11_weightsOf_24 (i := 2) rfl rfl ?_
          refine a_aload_n C dX11_weightsOf_25 (i := 0) rfl rfl ?_
          refine p_getT C fl_RX11_82 (tx := (σ.2.2 0)) kd_0 (hid 0 (by decide)) (fun t e => by subst e; rfl) dX11_weightsOf_26 h (fun ht2 h => ?_)
          refine a_get C fl_RX11_125 (i := ((σ.2.2 0))) ht2.1.1 (hid _ ht2.1.2) (v := .ref (ad ((σ.2.2 0) + 1))) rfl dX11_weightsOf_29 ?_
          refine a_iload_n C dX11_weightsOf_32 (i := 3) rfl rfl ?_
          refine p_iald C (i := ((σ.2.2 0) + 1)) ht2.2.1.1 hid (by rw [ht2.2.1.2]; rfl) dX11_weightsOf_33 h (fun h => ?_)
          refine a_iadd C dX11_weightsOf_34 ?_
          refine p_istore_n C (fun z3 => [some (.ref (ad 0)), some (.int y1), some (.int z3), some (.int y3)]) dX11_weightsOf_35 (i := 2) rfl (by decide) rfl (fun _ => rfl) h (fun z3 h => ?_)
          exact j36 (f_X11_weightsOf_4 n) (fun y1 y2 y3 σ h => ih y1 y2 y3 σ h) _ _ _ _ h
  refine a_iconst C dX11_weightsOf_0 (v := 0) rfl ?_
  refine a_istore_n C dX11_weightsOf_1 (i := 2) rfl (by decide) rfl (vs1 := [some (.ref (ad 0)), some (.int x1), some (.int 0), none]) rfl ?_
  refine a_iconst C dX11_weightsOf_2 (v := 0) rfl ?_
  refine a_istore_n C dX11_weightsOf_3 (i := 3) rfl (by decide) rfl (vs1 := [some (.ref (ad 0)), some (.int x1), some (.int 0), some (.int 0)]) rfl ?_
  exact j4 _ _ _ _ _ h

