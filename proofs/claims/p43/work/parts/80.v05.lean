set_option maxHeartbeats 4000000 in
set_option maxRecDepth 100000 in
theorem Z_X7_meet {l : Launch} {D : va_G} {ids : List Nat} {ad : Nat → Nat} {ca : Nat → ClassId} {σ : HS} {x1 : Int32} {x2 : Int32} {x3 : Int32} {s0 : HS} (hid : ∀ i, i < 277 → i ∈ ids) (h : f_X7_meet x1 x2 x3 σ = some s0) : Kv l D ids ad ca yX7_meet cX7_meet 4 0 0 [.ref (ad 17), .int x1, .int x2, .int x3] σ (fun σ1 => σ1 = s0) := by
  obtain ⟨R, hR⟩ : ∃ R, s0 = R := ⟨_, rfl⟩
  replace h := h.trans (congrArg some hR)
  refine Kv.of (by decide) (Nat.le_of_ble_eq_true rfl) 0 (fun Γ C Rt => ?_)
  show AW ids ad ca Γ 0 [some (.ref (ad 17)), some (.int x1), some (.int x2), some (.int x3)] [] σ
  unfold f_X7_meet at h
  refine a_aload_n C dX7_meet_0 (i := 0) rfl rfl ?_
  refine a_get C fl_RX7_15 (i := 17) kd_17 (hid 17 (by decide)) (v := .ref (ad 19)) rfl dX7_meet_1 ?_
  refine a_iload_n C dX7_meet_4 (i := 1) rfl rfl ?_
  refine p_iald C (i := 19) (show rowOK 19 from ⟨kd_19, by decide⟩) hid (by rw [al_19]; rfl) dX7_meet_5 h (fun h => ?_)
  refine a_iconst C dX7_meet_6 (v := (-1)) rfl ?_
  refine p_ic_ne C (X := (σ.1 19 x1.toInt.toNat).toInt) (Y := (-1)) rfl (by decide) dX7_meet_7 (tgt := 54) rfl h (fun h => ?_) (fun h => ?_)
  ·
    exact a_vret Rt dX7_meet_54 (retv_eq (h.trans (congrArg some hR.symm)))
  ·
    refine a_aload_n C dX7_meet_10 (i := 0) rfl rfl ?_
    refine a_get C fl_RX7_30 (i := 17) kd_17 (hid 17 (by decide)) (v := .int (σ.1 17 1)) rfl dX7_meet_11 ?_
    refine a_sipush C dX7_meet_14 (v := 1024) rfl ?_
    refine p_ic_ge C (X := (σ.1 17 1).toInt) (Y := 1024) rfl (by decide) dX7_meet_17 (tgt := 54) rfl h (fun h => ?_) (fun h => ?_)
    ·
      exact a_vret Rt dX7_meet_54 (retv_eq (h.trans (congrArg some hR.symm)))
    ·
      refine a_aload_n C dX7_meet_20 (i := 0) rfl rfl ?_
      refine a_get C fl_RX7_15 (i := 17) kd_17 (hid 17 (by decide)) (v := .ref (ad 19)) rfl dX7_meet_21 ?_
      refine a_iload_n C dX7_meet_24 (i := 1) rfl rfl ?_
      refine a_iload_n C dX7_meet_25 (i := 2) rfl rfl ?_
      refine p_iast C (i := 19) (show rowOK 19 from ⟨kd_19, by decide⟩) hid (by rw [al_19]; rfl) dX7_meet_26 h (fun σ1 h => ?_)
      refine a_aload_n C dX7_meet_27 (i := 0) rfl rfl ?_
      refine a_get C fl_RX7_18 (i := 17) kd_17 (hid 17 (by decide)) (v := .ref (ad 20)) rfl dX7_meet_28 ?_
      refine a_iload_n C dX7_meet_31 (i := 1) rfl rfl ?_
      refine a_iload_n C dX7_meet_32 (i := 3) rfl rfl ?_
      refine p_iast C (i := 20) (show rowOK 20 from ⟨kd_20, by decide⟩) hid (by rw [al_20]; rfl) dX7_meet_33 h (fun σ2 h => ?_)
      refine a_aload_n C dX7_meet_34 (i := 0) rfl rfl ?_
      refine a_get C fl_RX7_11 (i := 17) kd_17 (hid 17 (by decide)) (v := .ref (ad 18)) rfl dX7_meet_35 ?_
      refine a_aload_n C dX7_meet_38 (i := 0) rfl rfl ?_
      refine a_get C fl_RX7_30 (i := 17) kd_17 (hid 17 (by decide)) (v := .int (σ2.1 17 1)) rfl dX7_meet_39 ?_
      refine a_iload_n C dX7_meet_42 (i := 1) rfl rfl ?_
      refine p_iast C (i := 18) (show rowOK 18 from ⟨kd_18, by decide⟩) hid (by rw [al_18]; rfl) dX7_meet_43 h (fun σ3 h => ?_)
      refine a_aload_n C dX7_meet_44 (i := 0) rfl rfl ?_
      refine a_dup C dX7_meet_45 rfl ?_
      refine a_get C fl_RX7_30 (i := 17) kd_17 (hid 17 (by decide)) (v := .int (σ3.1 17 1)) rfl dX7_meet_46 ?_
      refine a_iconst C dX7_meet_49 (v := 1) rfl ?_
      refine a_iadd C dX7_meet_50 ?_
      refine p_put C fp_RX7_30 (i := 17) kd_17 (hid 17 (by decide)) rfl rfl dX7_meet_51 h (fun σ4 h => ?_)
      exact a_vret Rt dX7_meet_54 (retv_eq (h.trans (congrArg some hR.symm)))
set_option maxHeartbeats 4000000 in
set_option maxRecDepth 100000 in
theorem Z_X7_goOnFrom {l : Launch} {D : va_G} {ids : List Nat} {ad : Nat → Nat} {ca : Nat → ClassId} {σ : HS} {x1 : Int32} {s0 : HS} (hid : ∀ i, i < 277 → i ∈ ids) (h : f_X7_goOnFrom x1 σ = some s0) : Kv l D ids ad ca yX7_goOnFrom cX7_goOnFrom 5 1 23 [.ref (ad 17), .int x1] σ (fun σ1 => σ1 = s0) := by
  obtain ⟨R, hR⟩ : ∃ R, s0 = R := ⟨_, rfl⟩
  replace h := h.trans (congrArg some hR)
  refine Kv.of (by decide) (Nat.le_of_ble_eq_true rfl) 3 (fun Γ C Rt => ?_)
  show AW ids ad ca Γ 0 [some (.ref (ad 17)), some (.int x1), none, none, none] [] σ
  unfold f_X7_goOnFrom at h
  have j50 : ∀ (k20 : Int32 → Int32 → Int32 → HS → Option (HS)) (hk20 : ∀ (y1 : Int32) (y2 : Int32) (y3 : Int32) (σ : HS), k20 y1 y2 y3 σ = some R → AW ids ad ca Γ 20 [some (.ref (ad 17)), some (.int y1), some (.int y2), some (.int y3), none] [] σ) (y1 : Int32) (y2 : Int32) (y3 : Int32) (σ : HS), f_X7_goOnFrom_50 k20 y1 y2 y3 σ = some R → AW ids ad ca Γ 50 [some (.ref (ad 17)), some (.int y1), some (.int y2), some (.int y3), none] [] σ := by
    intro k20 hk20 y1 y2 y3 σ h
    unfold f_X7_goOnFrom_50 at h
    refine p_iinc C (y := (y3 + 1)) (fun z1 => [some (.ref (ad 17)), some (.int y1), some (.int y2), some (.int z1), none]) dX7_goOnFrom_50 rfl rfl (by decide) rfl (fun _ => rfl) h (fun z1 h => ?_)
    refine a_goto C dX7_goOnFrom_53 (tgt := 20) rfl ?_
    exact hk20 _ _ _ _ h
  have j20 : ∀ (n : Nat) (y1 : Int32) (y2 : Int32) (y3 : Int32) (σ : HS), f_X7_goOnFrom_20 n y1 y2 y3 σ = some R → AW ids ad ca Γ 20 [some (.ref (ad 17)), some (.int y1), some (.int y2), some (.int y3), none] [] σ := by
    intro n
    induction n with
    | zero => intro y1 y2 y3 σ h; exact nn h
    | succ n ih =>
      intro y1 y2 y3 σ h
      have h : b_X7_goOnFrom_20 (f_X7_goOnFrom_20 n) y1 y2 y3 σ = some R := h
      unfold b_X7_goOnFrom_20 at h
      refine a_iload_n C dX7_goOnFrom_20 (i := 3) rfl rfl ?_
      refine a_bipush C dX7_goOnFrom_21 (v := 9) rfl ?_
      refine p_ic_gt C (X := y3.toInt) (Y := 9) rfl (by decide) dX7_goOnFrom_23 (tgt := 56) rfl h (fun h => ?_) (fun h => ?_)
      ·
        exact a_vret Rt dX7_goOnFrom_56 (retv_eq (h.trans (congrArg some hR.symm)))
      ·
        refine a_iconst C dX7_goOnFrom_26 (v := 1) rfl ?_
        refine a_iload_n C dX7_goOnFrom_27 (i := 3) rfl rfl ?_
        refine a_iconst C dX7_goOnFrom_28 (v := 1) rfl ?_
        refine a_isub C dX7_goOnFrom_29 ?_
        refine a_ishl C dX7_goOnFrom_30 ?_
        refine p_istore C (fun z1 => [some (.ref (ad 17)), some (.int y1), some (.int y2), some (.int y3), some (.int z1)]) dX7_goOnFrom_31 (by decide) rfl (fun _ => rfl) h (fun z1 h => ?_)
        refine a_iload_n C dX7_goOnFrom_33 (i := 2) rfl rfl ?_
        refine a_iload C dX7_goOnFrom_34 rfl ?_
        refine a_iand C dX7_goOnFrom_36 ?_
        refine p_if_ne C (X := (y2 &&& z1).toInt) rfl dX7_goOnFrom_37 (tgt := 50) rfl h (fun h => ?_) (fun h => ?_)
        ·
          refine AW.sub (vs' := [some (.ref (ad 17)), some (.int y1), some (.int y2), some (.int y3), none]) (lsub_of (by simp [lsubB])) ?_
          exact j50 (f_X7_goOnFrom_20 n) (fun y1 y2 y3 σ h => ih y1 y2 y3 σ h) _ _ _ _ h
        ·
          refine a_aload_n C dX7_goOnFrom_40 (i := 0) rfl rfl ?_
          refine a_iload_n C dX7_goOnFrom_41 (i := 2) rfl rfl ?_
          refine a_iload C dX7_goOnFrom_42 rfl ?_
          refine a_ior C dX7_goOnFrom_44 ?_
          refine a_iload_n C dX7_goOnFrom_45 (i := 1) rfl rfl ?_
          refine a_iload_n C dX7_goOnFrom_46 (i := 3) rfl rfl ?_
          refine p_callVv C (As := [.int (y2 ||| z1), .int y1, .int y3]) (i := 17) kd_17 (hid 17 (by decide)) ⟨_, _, rfl⟩ (by decide) h (fun _ e => Z_X7_meet hid e) mi_X7_meet ml_RX7_34 rfl rfl (Nat.le_of_ble_eq_true rfl) (Nat.le_of_ble_eq_true rfl) (Nat.le_of_ble_eq_true rfl) dX7_goOnFrom_47 (fun σ2 h => ?_)
          refine AW.sub (vs' := [some (.ref (ad 17)), some (.int y1), some (.int y2), some (.int y3), none]) (lsub_of (by simp [lsubB])) ?_
          exact j50 (f_X7_goOnFrom_20 n) (fun y1 y2 y3 σ h => ih y1 y2 y3 σ h) _ _ _ _ h
  refine a_iload_n C dX7_goOnFrom_0 (i := 1) rfl rfl ?_
  refine a_iconst C dX7_goOnFrom_1 (v := 1) rfl ?_
  refine a_ishr C dX7_goOnFrom_2 ?_
  refine p_istore_n C (fun z1 => [some (.ref (ad 17)), some (.int x1), some (.int z1), none, none]) dX7_goOnFrom_3 (i := 2) rfl (by decide) rfl (fun _ => rfl) h (fun z1 h => ?_)
  refine a_iload_n C dX7_goOnFrom_4 (i := 1) rfl rfl ?_
  refine a_iconst C dX7_goOnFrom_5 (v := 1) rfl ?_
  refine a_iand C dX7_goOnFrom_6 ?_
  refine p_if_ne C (X := (x1 &&& (1 : Int32)).toInt) rfl dX7_goOnFrom_7 (tgt := 18) rfl h (fun h => ?_) (fun h => ?_)
  ·
    refine a_iconst C dX7_goOnFrom_18 (v := 1) rfl ?_
    refine a_istore_n C dX7_goOnFrom_19 (i := 3) rfl (by decide) rfl (vs1 := [some (.ref (ad 17)), some (.int x1), some (.int z1), some (.int 1), none]) rfl ?_
    exact j20 _ _ _ _ _ h
  ·
    refine a_aload_n C dX7_goOnFrom_10 (i := 0) rfl rfl ?_
    refine a_iload_n C dX7_goOnFrom_11 (i := 2) rfl rfl ?_
    refine a_iload_n C dX7_goOnFrom_12 (i := 1) rfl rfl ?_
    refine a_iconst C dX7_goOnFrom_13 (v := 0) rfl ?_
    refine p_callVv C (As := [.int z1, .int x1, .int 0]) (i := 17) kd_17 (hid 17 (by decide)) ⟨_, _, rfl⟩ (by decide) h (fun _ e => Z_X7_meet hid e) mi_X7_meet ml_RX7_34 rfl rfl (Nat.le_of_ble_eq_true rfl) (Nat.le_of_ble_eq_true rfl) (Nat.le_of_ble_eq_true rfl) dX7_goOnFrom_14 (fun σ2 h => ?_)
    exact a_vret Rt dX7_goOnFrom_17 (retv_eq (h.trans (congrArg some hR.symm)))
set_option maxHeartbeats 4000000 in
set_option maxRecDepth 100000 in
theorem Z_X7_find {l : Launch} {D : va_G} {ids : List Nat} {ad : Nat → Nat} {ca : Nat → ClassId} {σ : HS} {x1 : Int32} {x2 : Int32} {r0 : Int32} {s0 : HS} (hid : ∀ i, i < 277 → i ∈ ids) (h : f_X7_find x1 x2 σ = some (r0, s0)) : Ki l D ids ad ca yX7_find cX7_find 6 .boolean 2 47 [.ref (ad 17), .int x1, .int x2] σ (fun r σ1 => r = r0 ∧ σ1 = s0) := by
  obtain ⟨R, hR⟩ : ∃ R, (r0, s0) = R := ⟨_, rfl⟩
  replace h := h.trans (congrArg some hR)
  refine Ki.of (by decide) (Nat.le_of_ble_eq_true rfl) 3 (fun Γ C Rt => ?_)
  show AW ids ad ca Γ 0 [some (.ref (ad 17)), some (.int x1), some (.int x2), none, none, none] [] σ
  unfold f_X7_find at h
  have j134 : ∀ (n : Nat) (y4 : Int32) (y5 : Int32) (σ : HS), f_X7_find_134 n y4 y5 σ = some R → AW ids ad ca Γ 134 [some (.ref (ad 17)), none, none, none, some (.int y4), some (.int y5)] [] σ := by
    intro n
    induction n with
    | zero => intro y4 y5 σ h; exact nn h
    | succ n ih =>
      intro y4 y5 σ h
      have h : b_X7_find_134 (f_X7_find_134 n) y4 y5 σ = some R := h
      unfold b_X7_find_134 at h
      refine a_iload C dX7_find_134 rfl ?_
      refine p_if_lt C (X := y5.toInt) rfl dX7_find_136 (tgt := 168) rfl h (fun h => ?_) (fun h => ?_)
      ·
        refine a_iconst C dX7_find_168 (v := 1) rfl ?_
        exact a_iret Rt dX7_find_169 (nar_z (by decide)).1 (ret_eq (h.trans (congrArg some hR.symm)))
      ·
        refine a_aload_n C dX7_find_139 (i := 0) rfl rfl ?_
        refine a_get C fl_RX7_21 (i := 17) kd_17 (hid 17 (by decide)) (v := .ref (ad 21)) rfl dX7_find_140 ?_
        refine a_iload C dX7_find_143 rfl ?_
        refine a_aload_n C dX7_find_145 (i := 0) rfl rfl ?_
        refine a_get C fl_RX7_18 (i := 17) kd_17 (hid 17 (by decide)) (v := .ref (ad 20)) rfl dX7_find_146 ?_
        refine a_iload C dX7_find_149 rfl ?_
        refine p_iald C (i := 20) (show rowOK 20 from ⟨kd_20, by decide⟩) hid (by rw [al_20]; rfl) dX7_find_151 h (fun h => ?_)
        refine p_iast C (i := 21) (show rowOK 21 from ⟨kd_21, by decide⟩) hid (by rw [al_21]; rfl) dX7_find_152 h (fun σ1 h => ?_)
        refine a_aload_n C dX7_find_153 (i := 0) rfl rfl ?_
        refine a_get C fl_RX7_15 (i := 17) kd_17 (hid 17 (by decide)) (v := .ref (ad 19)) rfl dX7_find_154 ?_
        refine a_iload C dX7_find_157 rfl ?_
        refine p_iald C (i := 19) (show rowOK 19 from ⟨kd_19, by decide⟩) hid (by rw [al_19]; rfl) dX7_find_159 h (fun h => ?_)
        refine p_istore C (fun z2 => [some (.ref (ad 17)), none, none, none, some (.int z2), some (.int y5)]) dX7_find_160 (by decide) rfl (fun _ => rfl) h (fun z2 h => ?_)
        refine p_iinc C (y := (y5 + (-1))) (fun z3 => [some (.ref (ad 17)), none, none, none, some (.int z2), some (.int z3)]) dX7_find_162 rfl rfl (by decide) rfl (fun _ => rfl) h (fun z3 h => ?_)
        refine a_goto C dX7_find_165 (tgt := 134) rfl ?_
        exact ih _ _ _ h
  have j111 : ∀ (y2 : Int32) (σ : HS), f_X7_find_111 y2 σ = some R → AW ids ad ca Γ 111 [some (.ref (ad 17)), none, some (.int y2), none, none, none] [] σ := by
    intro y2 σ h
    unfold f_X7_find_111 at h
    refine a_aload_n C dX7_find_111 (i := 0) rfl rfl ?_
    refine a_get C fl_RX7_15 (i := 17) kd_17 (hid 17 (by decide)) (v := .ref (ad 19)) rfl dX7_find_112 ?_
    refine a_iload_n C dX7_find_115 (i := 2) rfl rfl ?_
    refine p_iald C (i := 19) (show rowOK 19 from ⟨kd_19, by decide⟩) hid (by rw [al_19]; rfl) dX7_find_116 h (fun h => ?_)
    refine a_iconst C dX7_find_117 (v := (-1)) rfl ?_
    refine p_ic_ne C (X := (σ.1 19 y2.toInt.toNat).toInt) (Y := (-1)) rfl (by decide) dX7_find_118 (tgt := 123) rfl h (fun h => ?_) (fun h => ?_)
    ·
      refine a_iload_n C dX7_find_123 (i := 2) rfl rfl ?_
      refine a_istore C dX7_find_124 (by decide) rfl (vs1 := [some (.ref (ad 17)), none, some (.int y2), none, some (.int y2), none]) rfl ?_
      refine a_aload_n C dX7_find_126 (i := 0) rfl rfl ?_
      refine a_get C fl_RX7_38 (i := 17) kd_17 (hid 17 (by decide)) (v := .int (σ.1 17 5)) rfl dX7_find_127 ?_
      refine a_iconst C dX7_find_130 (v := 1) rfl ?_
      refine a_isub C dX7_find_131 ?_
      refine p_istore C (fun z1 => [some (.ref (ad 17)), none, some (.int y2), none, some (.int y2), some (.int z1)]) dX7_find_132 (by decide) rfl (fun _ => rfl) h (fun z1 h => ?_)
      refine AW.sub (vs' := [some (.ref (ad 17)), none, none, none, some (.int y2), some (.int z1)]) (lsub_of (by simp [lsubB])) ?_
      exact j134 _ _ _ _ h
    ·
      refine a_iconst C dX7_find_121 (v := 0) rfl ?_
      exact a_iret Rt dX7_find_122 (nar_z (by decide)).1 (ret_eq (h.trans (congrArg some hR.symm)))
  have j76 : ∀ (k51 : Int32 → Int32 → HS → Option (Int32 × HS)) (hk51 : ∀ (y2 : Int32) (y3 : Int32) (σ : HS), k51 y2 y3 σ = some R → AW ids ad ca Γ 51 [some (.ref (ad 17)), none, some (.int y2), some (.int y3), none, none] [] σ) (n : Nat) (y2 : Int32) (y3 : Int32) (y4 : Int32) (σ : HS), f_X7_find_76 k51 n y2 y3 y4 σ = some R → AW ids ad ca Γ 76 [some (.ref (ad 17)), none, some (.int y2), some (.int y3), some (.int y4), none] [] σ := by
    intro k51 hk51 n
    induction n with
    | zero => intro y2 y3 y4 σ h; exact nn h
    | succ n ih =>
      intro y2 y3 y4 σ h
      have h : b_X7_find_76 k51 (f_X7_find_76 k51 n) y2 y3 y4 σ = some R := h
      unfold b_X7_find_76 at h
      refine a_iload_n C dX7_find_76 (i := 3) rfl rfl ?_
      refine a_iload C dX7_find_77 rfl ?_
      refine p_ic_ge C (X := y3.toInt) (Y := y4.toInt) rfl rfl dX7_find_79 (tgt := 98) rfl h (fun h => ?_) (fun h => ?_)
      ·
        refine a_aload_n C dX7_find_98 (i := 0) rfl rfl ?_
        refine a_dup C dX7_find_99 rfl ?_
        refine a_get C fl_RX7_38 (i := 17) kd_17 (hid 17 (by decide)) (v := .int (σ.1 17 5)) rfl dX7_find_100 ?_
        refine a_iconst C dX7_find_103 (v := 1) rfl ?_
        refine a_iadd C dX7_find_104 ?_
        refine p_put C fp_RX7_38 (i := 17) kd_17 (hid 17 (by decide)) rfl rfl dX7_find_105 h (fun σ1 h => ?_)
        refine a_goto C dX7_find_108 (tgt := 51) rfl ?_
        refine AW.sub (vs' := [some (.ref (ad 17)), none, some (.int y2), some (.int y3), none, none]) (lsub_of (by simp [lsubB])) ?_
        exact hk51 _ _ _ h
      ·
        refine a_aload_n C dX7_find_82 (i := 0) rfl rfl ?_
        refine a_aload_n C dX7_find_83 (i := 0) rfl rfl ?_
        refine a_get C fl_RX7_11 (i := 17) kd_17 (hid 17 (by decide)) (v := .ref (ad 18)) rfl dX7_find_84 ?_
        refine a_iload_n C dX7_find_87 (i := 3) rfl rfl ?_
        refine p_iald C (i := 18) (show rowOK 18 from ⟨kd_18, by decide⟩) hid (by rw [al_18]; rfl) dX7_find_88 h (fun h => ?_)
        refine p_callVv C (As := [.int (σ.1 18 y3.toInt.toNat)]) (i := 17) kd_17 (hid 17 (by decide)) ⟨_, _, rfl⟩ (by decide) h (fun _ e => Z_X7_goOnFrom hid e) mi_X7_goOnFrom ml_RX7_41 rfl rfl (Nat.le_of_ble_eq_true rfl) (Nat.le_of_ble_eq_true rfl) (Nat.le_of_ble_eq_true rfl) dX7_find_89 (fun σ2 h => ?_)
        refine p_iinc C (y := (y3 + 1)) (fun z4 => [some (.ref (ad 17)), none, some (.int y2), some (.int z4), some (.int y4), none]) dX7_find_92 rfl rfl (by decide) rfl (fun _ => rfl) h (fun z4 h => ?_)
        refine a_goto C dX7_find_95 (tgt := 76) rfl ?_
        exact ih _ _ _ _ h
  have j51 : ∀ (n : Nat) (y2 : Int32) (y3 : Int32) (σ : HS), f_X7_find_51 n y2 y3 σ = some R → AW ids ad ca Γ 51 [some (.ref (ad 17)), none, some (.int y2), some (.int y3), none, none] [] σ := by
    intro n
    induction n with
    | zero => intro y2 y3 σ h; exact nn h
    | succ n ih =>
      intro y2 y3 σ h
      have h : b_X7_find_51 (f_X7_find_51 n) y2 y3 σ = some R := h
      unfold b_X7_find_51 at h
      refine a_aload_n C dX7_find_51 (i := 0) rfl rfl ?_
      refine a_get C fl_RX7_38 (i := 17) kd_17 (hid 17 (by decide)) (v := .int (σ.1 17 5)) rfl dX7_find_52 ?_
      refine a_bipush C dX7_find_55 (v := 12) rfl ?_
      refine p_ic_ge C (X := (σ.1 17 5).toInt) (Y := 12) rfl (by decide) dX7_find_57 (tgt := 111) rfl h (fun h => ?_) (fun h => ?_)
      ·
        refine AW.sub (vs' := [some (.ref (ad 17)), none, some (.int y2), none, none, none]) (lsub_of (by simp [lsubB])) ?_
        exact j111 _ _ h
      ·
        refine a_aload_n C dX7_find_60 (i := 0) rfl rfl ?_
        refine a_get C fl_RX7_15 (i := 17) kd_17 (hid 17 (by decide)) (v := .ref (ad 19)) rfl dX7_find_61 ?_
        refine a_iload_n C dX7_find_64 (i := 2) rfl rfl ?_
        refine p_iald C (i := 19) (show rowOK 19 from ⟨kd_19, by decide⟩) hid (by rw [al_19]; rfl) dX7_find_65 h (fun h => ?_)
        refine a_iconst C dX7_find_66 (v := (-1)) rfl ?_
        refine p_ic_ne C (X := (σ.1 19 y2.toInt.toNat).toInt) (Y := (-1)) rfl (by decide) dX7_find_67 (tgt := 111) rfl h (fun h => ?_) (fun h => ?_)
        ·
          refine AW.sub (vs' := [some (.ref (ad 17)), none, some (.int y2), none, none, none]) (lsub_of (by simp [lsubB])) ?_
          exact j111 _ _ h
        ·
          refine a_aload_n C dX7_find_70 (i := 0) rfl rfl ?_
          refine a_get C fl_RX7_30 (i := 17) kd_17 (hid 17 (by decide)) (v := .int (σ.1 17 1)) rfl dX7_find_71 ?_
          refine p_istore C (fun z1 => [some (.ref (ad 17)), none, some (.int y2), some (.int y3), some (.int z1), none]) dX7_find_74 (by decide) rfl (fun _ => rfl) h (fun z1 h => ?_)
          exact j76 (f_X7_find_51 n) (fun y2 y3 σ h => ih y2 y3 σ h) _ _ _ _ _ h
  refine a_iload_n C dX7_find_0 (i := 1) rfl rfl ?_
  refine p_if_lt C (X := x1.toInt) rfl dX7_find_1 (tgt := 22) rfl h (fun h => ?_) (fun h => ?_)
  ·
    refine a_iconst C dX7_find_22 (v := 0) rfl ?_
    exact a_iret Rt dX7_find_23 (nar_z (by decide)).1 (ret_eq (h.trans (congrArg some hR.symm)))
  ·
    refine a_iload_n C dX7_find_4 (i := 1) rfl rfl ?_
    refine a_sipush C dX7_find_5 (v := 1024) rfl ?_
    refine p_ic_ge C (X := x1.toInt) (Y := 1024) rfl (by decide) dX7_find_8 (tgt := 22) rfl h (fun h => ?_) (fun h => ?_)
    ·
      refine a_iconst C dX7_find_22 (v := 0) rfl ?_
      exact a_iret Rt dX7_find_23 (nar_z (by decide)).1 (ret_eq (h.trans (congrArg some hR.symm)))
    ·
      refine a_iload_n C dX7_find_11 (i := 2) rfl rfl ?_
      refine p_if_lt C (X := x2.toInt) rfl dX7_find_12 (tgt := 22) rfl h (fun h => ?_) (fun h => ?_)
      ·
        refine a_iconst C dX7_find_22 (v := 0) rfl ?_
        exact a_iret Rt dX7_find_23 (nar_z (by decide)).1 (ret_eq (h.trans (congrArg some hR.symm)))
      ·
        refine a_iload_n C dX7_find_15 (i := 2) rfl rfl ?_
        refine a_sipush C dX7_find_16 (v := 1024) rfl ?_
        refine p_ic_lt C (X := x2.toInt) (Y := 1024) rfl (by decide) dX7_find_19 (tgt := 24) rfl h (fun h => ?_) (fun h => ?_)
        ·
          refine a_aload_n C dX7_find_24 (i := 0) rfl rfl ?_
          refine a_get C fl_RX7_15 (i := 17) kd_17 (hid 17 (by decide)) (v := .ref (ad 19)) rfl dX7_find_25 ?_
          refine a_iconst C dX7_find_28 (v := (-1)) rfl ?_
          refine p_callSv C (As := [.ref (ad 19), .int (-1)]) h (fun _ e => Z_J7_fill_53178 hid (show rowOK 19 from ⟨kd_19, by decide⟩) e) ms_J7_fill_53178 ml_RX7_24 rfl rfl (Nat.le_of_ble_eq_true rfl) (Nat.le_of_ble_eq_true rfl) (Nat.le_of_ble_eq_true rfl) dX7_find_29 (fun σ1 h => ?_)
          refine a_aload_n C dX7_find_32 (i := 0) rfl rfl ?_
          refine a_iconst C dX7_find_33 (v := 0) rfl ?_
          refine p_put C fp_RX7_30 (i := 17) kd_17 (hid 17 (by decide)) rfl rfl dX7_find_34 h (fun σ3 h => ?_)
          refine a_aload_n C dX7_find_37 (i := 0) rfl rfl ?_
          refine a_iload_n C dX7_find_38 (i := 1) rfl rfl ?_
          refine a_iload_n C dX7_find_39 (i := 1) rfl rfl ?_
          refine a_iconst C dX7_find_40 (v := 0) rfl ?_
          refine p_callVv C (As := [.int x1, .int x1, .int 0]) (i := 17) kd_17 (hid 17 (by decide)) ⟨_, _, rfl⟩ (by decide) h (fun _ e => Z_X7_meet hid e) mi_X7_meet ml_RX7_34 rfl rfl (Nat.le_of_ble_eq_true rfl) (Nat.le_of_ble_eq_true rfl) (Nat.le_of_ble_eq_true rfl) dX7_find_41 (fun σ4 h => ?_)
          refine a_iconst C dX7_find_44 (v := 0) rfl ?_
          refine a_istore_n C dX7_find_45 (i := 3) rfl (by decide) rfl (vs1 := [some (.ref (ad 17)), some (.int x1), some (.int x2), some (.int 0), none, none]) rfl ?_
          refine a_aload_n C dX7_find_46 (i := 0) rfl rfl ?_
          refine a_iconst C dX7_find_47 (v := 0) rfl ?_
          refine p_put C fp_RX7_38 (i := 17) kd_17 (hid 17 (by decide)) rfl rfl dX7_find_48 h (fun σ6 h => ?_)
          refine AW.sub (vs' := [some (.ref (ad 17)), none, some (.int x2), some (.int 0), none, none]) (lsub_of (by simp [lsubB])) ?_
          exact j51 _ _ _ _ h
        ·
          refine a_iconst C dX7_find_22 (v := 0) rfl ?_
          exact a_iret Rt dX7_find_23 (nar_z (by decide)).1 (ret_eq (h.trans (congrArg some hR.symm)))
set_option maxHeartbeats 4000000 in
set_option maxRecDepth 100000 in
theorem Z_X8_finish {l : Launch} {D : va_G} {ids : List Nat} {ad : Nat → Nat} {ca : Nat → ClassId} {σ : HS} {s0 : HS} (hid : ∀ i, i < 277 → i ∈ ids) (h : f_X8_finish σ = some s0) : Kv l D ids ad ca yX8_finish cX8_finish 1 1 60 [.ref (ad 22)] σ (fun σ1 => σ1 = s0) := by
  obtain ⟨R, hR⟩ : ∃ R, s0 = R := ⟨_, rfl⟩
  replace h := h.trans (congrArg some hR)
  refine Kv.of (by decide) (Nat.le_of_ble_eq_true rfl) 0 (fun Γ C Rt => ?_)
  show AW ids ad ca Γ 0 [some (.ref (ad 22))] [] σ
  unfold f_X8_finish at h
  have j24 : ∀ (σ : HS), f_X8_finish_24 σ = some R → AW ids ad ca Γ 24 [some (.ref (ad 22))] [] σ := by
    intro σ h
    unfold f_X8_finish_24 at h
    refine a_aload_n C dX8_finish_24 (i := 0) rfl rfl ?_
    refine a_dup C dX8_finish_25 rfl ?_
    refine a_get C fl_RX8_32 (i := 22) kd_22 (hid 22 (by decide)) (v := .int (σ.1 22 2)) rfl dX8_finish_26 ?_
    refine a_iconst C dX8_finish_29 (v := 1) rfl ?_
    refine a_iadd C dX8_finish_30 ?_
    refine p_put C fp_RX8_32 (i := 22) kd_22 (hid 22 (by decide)) rfl rfl dX8_finish_31 h (fun σ1 h => ?_)
    exact a_vret Rt dX8_finish_34 (retv_eq (h.trans (congrArg some hR.symm)))
  refine a_aload_n C dX8_finish_0 (i := 0) rfl rfl ?_
  refine a_get C fl_RX8_32 (i := 22) kd_22 (hid 22 (by decide)) (v := .int (σ.1 22 2)) rfl dX8_finish_1 ?_
  refine p_if_ne C (X := (σ.1 22 2).toInt) rfl dX8_finish_4 (tgt := 24) rfl h (fun h => ?_) (fun h => ?_)
  ·
    exact j24 _ h
  ·
    refine a_aload_n C dX8_finish_7 (i := 0) rfl rfl ?_
    refine a_get C fl_RX8_9 (i := 22) kd_22 (hid 22 (by decide)) (v := .ref (ad 23)) rfl dX8_finish_8 ?_
    refine a_iconst C dX8_finish_11 (v := 0) rfl ?_
    refine a_aload_n C dX8_finish_12 (i := 0) rfl rfl ?_
    refine a_get C fl_RX8_13 (i := 22) kd_22 (hid 22 (by decide)) (v := .ref (ad 24)) rfl dX8_finish_13 ?_
    refine a_iconst C dX8_finish_16 (v := 0) rfl ?_
    refine a_aload_n C dX8_finish_17 (i := 0) rfl rfl ?_
    refine a_get C fl_RX8_25 (i := 22) kd_22 (hid 22 (by decide)) (v := .int (σ.1 22 3)) rfl dX8_finish_18 ?_
    refine p_copyi C (i0 := 23) (i1 := 24) (SP := 0) (DP := 0) (Z := (σ.1 22 3).toInt) ml_RX8_42 ac_w.1 ac_w.2.1 ac_w.2.2 (show rowOK 23 from ⟨kd_23, by decide⟩) (show rowOK 24 from ⟨kd_24, by decide⟩) hid (by rw [al_23]; rfl) (by rw [al_24]; rfl) (by decide) (by decide) rfl (Nat.le_of_ble_eq_true rfl) (Nat.le_of_ble_eq_true rfl) dX8_finish_21 h (fun σ1 h => ?_)
    exact j24 _ h
set_option maxHeartbeats 4000000 in
set_option maxRecDepth 100000 in
theorem Zg_X8_fill {l : Launch} {D : va_G} {ids : List Nat} {ad : Nat → Nat} {ca : Nat → ClassId} {σ : HS} {x1 : Int32} {x2 : Int32} {x3 : Int32} {s0 : HS} (hid : ∀ i, i < 277 → i ∈ ids) (fE : Int32 → Int32 → Int32 → HS → Option HS) {fr0 lo0 : Nat} (hE : ∀ (x1 x2 x3 : Int32) (σ s0 : HS), fE x1 x2 x3 σ = some s0 → Kv l D ids ad ca yX8_fill cX8_fill 6 fr0 lo0 [.ref (ad 22), .int x1, .int x2, .int x3] σ (fun σ1 => σ1 = s0)) (h : g_X8_fill fE x1 x2 x3 σ = some s0) : Kv l D ids ad ca yX8_fill cX8_fill 6 (fr0 + 2) (lo0 + 80) [.ref (ad 22), .int x1, .int x2, .int x3] σ (fun σ1 => σ1 = s0) := by
  obtain ⟨R, hR⟩ : ∃ R, s0 = R := ⟨_, rfl⟩
  replace h := h.trans (congrArg some hR)
  refine Kv.of (by decide) (Nat.le_of_ble_eq_true rfl) 2 (fun Γ C Rt => ?_)
  show AW ids ad ca Γ 0 [some (.ref (ad 22)), some (.int x1), some (.int x2), some (.int x3), none, none] [] σ
  unfold g_X8_fill at h
  have j78 : ∀ (k20 : Int32 → Int32 → Int32 → Int32 → HS → Option (HS)) (hk20 : ∀ (y1 : Int32) (y2 : Int32) (y3 : Int32) (y4 : Int32) (σ : HS), k20 y1 y2 y3 y4 σ = some R → AW ids ad ca Γ 20 [some (.ref (ad 22)), some (.int y1), some (.int y2), some (.int y3), some (.int y4), none] [] σ) (y1 : Int32) (y2 : Int32) (y3 : Int32) (y4 : Int32) (σ : HS), f_X8_fill_78 fE k20 y1 y2 y3 y4 σ = some R → AW ids ad ca Γ 78 [some (.ref (ad 22)), some (.int y1), some (.int y2), some (.int y3), some (.int y4), none] [] σ := by
    intro k20 hk20 y1 y2 y3 y4 σ h
    unfold f_X8_fill_78 at h
    refine p_iinc C (y := (y4 + 1)) (fun z1 => [some (.ref (ad 22)), some (.int y1), some (.int y2), some (.int y3), some (.int z1), none]) dX8_fill_78 rfl rfl (by decide) rfl (fun _ => rfl) h (fun z1 h => ?_)
    refine a_goto C dX8_fill_81 (tgt := 20) rfl ?_
    exact hk20 _ _ _ _ _ h
  have j20 : ∀ (n : Nat) (y1 : Int32) (y2 : Int32) (y3 : Int32) (y4 : Int32) (σ : HS), f_X8_fill_20 fE n y1 y2 y3 y4 σ = some R → AW ids ad ca Γ 20 [some (.ref (ad 22)), some (.int y1), some (.int y2), some (.int y3), some (.int y4), none] [] σ := by
    intro n
    induction n with
    | zero => intro y1 y2 y3 y4 σ h; exact nn h
    | succ n ih =>
      intro y1 y2 y3 y4 σ h
      have h : b_X8_fill_20 fE (f_X8_fill_20 fE n) y1 y2 y3 y4 σ = some R := h
      unfold b_X8_fill_20 at h
      refine a_iload C dX8_fill_20 rfl ?_
      refine a_aload_n C dX8_fill_22 (i := 0) rfl rfl ?_
      refine a_get C fl_RX8_29 (i := 22) kd_22 (hid 22 (by decide)) (v := .int (σ.1 22 4)) rfl dX8_fill_23 ?_
      refine p_ic_gt C (X := y4.toInt) (Y := (σ.1 22 4).toInt) rfl rfl dX8_fill_26 (tgt := 84) rfl h (fun h => ?_) (fun h => ?_)
      ·
        exact a_vret Rt dX8_fill_84 (retv_eq (h.trans (congrArg some hR.symm)))
      ·
        refine a_iload C dX8_fill_29 rfl ?_
        refine a_iload_n C dX8_fill_31 (i := 3) rfl rfl ?_
        refine p_ic_gt C (X := y4.toInt) (Y := y3.toInt) rfl rfl dX8_fill_32 (tgt := 84) rfl h (fun h => ?_) (fun h => ?_)
        ·
          exact a_vret Rt dX8_fill_84 (retv_eq (h.trans (congrArg some hR.symm)))
        ·
          refine a_iconst C dX8_fill_35 (v := 1) rfl ?_
          refine a_iload_n C dX8_fill_36 (i := 1) rfl rfl ?_
          refine a_iload C dX8_fill_37 rfl ?_
          refine a_iadd C dX8_fill_39 ?_
          refine a_aload_n C dX8_fill_40 (i := 0) rfl rfl ?_
          refine a_get C fl_RX8_25 (i := 22) kd_22 (hid 22 (by decide)) (v := .int (σ.1 22 3)) rfl dX8_fill_41 ?_
          refine p_irem C rfl dX8_fill_44 h (fun h => ?_)
          refine a_ishl C dX8_fill_45 ?_
          refine p_istore C (fun z1 => [some (.ref (ad 22)), some (.int y1), some (.int y2), some (.int y3), some (.int y4), some (.int z1)]) dX8_fill_46 (by decide) rfl (fun _ => rfl) h (fun z1 h => ?_)
          refine a_iload_n C dX8_fill_48 (i := 2) rfl rfl ?_
          refine a_iload C dX8_fill_49 rfl ?_
          refine a_iand C dX8_fill_51 ?_
          refine p_if_ne C (X := (y2 &&& z1).toInt) rfl dX8_fill_52 (tgt := 78) rfl h (fun h => ?_) (fun h => ?_)
          ·
            refine AW.sub (vs' := [some (.ref (ad 22)), some (.int y1), some (.int y2), some (.int y3), some (.int y4), none]) (lsub_of (by simp [lsubB])) ?_
            exact j78 (f_X8_fill_20 fE n) (fun y1 y2 y3 y4 σ h => ih y1 y2 y3 y4 σ h) _ _ _ _ _ h
          ·
            refine a_aload_n C dX8_fill_55 (i := 0) rfl rfl ?_
            refine a_get C fl_RX8_9 (i := 22) kd_22 (hid 22 (by decide)) (v := .ref (ad 23)) rfl dX8_fill_56 ?_
            refine a_iload_n C dX8_fill_59 (i := 1) rfl rfl ?_
            refine a_iload C dX8_fill_60 rfl ?_
            refine p_iast C (i := 23) (show rowOK 23 from ⟨kd_23, by decide⟩) hid (by rw [al_23]; rfl) dX8_fill_62 h (fun σ2 h => ?_)
            refine a_aload_n C dX8_fill_63 (i := 0) rfl rfl ?_
            refine a_iload_n C dX8_fill_64 (i := 1) rfl rfl ?_
            refine a_iconst C dX8_fill_65 (v := 1) rfl ?_
            refine a_iadd C dX8_fill_66 ?_
            refine a_iload_n C dX8_fill_67 (i := 2) rfl rfl ?_
            refine a_iload C dX8_fill_68 rfl ?_
            refine a_ior C dX8_fill_70 ?_
            refine a_iload_n C dX8_fill_71 (i := 3) rfl rfl ?_
            refine a_iload C dX8_fill_72 rfl ?_
            refine a_isub C dX8_fill_74 ?_
            refine p_callVv C (As := [.int (y1 + (1 : Int32)), .int (y2 ||| z1), .int (y3 - y4)]) (i := 22) kd_22 (hid 22 (by decide)) ⟨_, _, rfl⟩ (by decide) h (fun _ e => hE _ _ _ _ _ e) mi_X8_fill ml_RX8_35 rfl rfl (by omega) (by omega) (Nat.le_of_ble_eq_true rfl) dX8_fill_75 (fun σ3 h => ?_)
            refine AW.sub (vs' := [some (.ref (ad 22)), some (.int y1), some (.int y2), some (.int y3), some (.int y4), none]) (lsub_of (by simp [lsubB])) ?_
            exact j78 (f_X8_fill_20 fE n) (fun y1 y2 y3 y4 σ h => ih y1 y2 y3 y4 σ h) _ _ _ _ _ h
  refine a_iload_n C dX8_fill_0 (i := 1) rfl rfl ?_
  refine a_aload_n C dX8_fill_1 (i := 0) rfl rfl ?_
  refine a_get C fl_RX8_25 (i := 22) kd_22 (hid 22 (by decide)) (v := .int (σ.1 22 3)) rfl dX8_fill_2 ?_
  refine p_ic_lt C (X := x1.toInt) (Y := (σ.1 22 3).toInt) rfl rfl dX8_fill_5 (tgt := 17) rfl h (fun h => ?_) (fun h => ?_)
  ·
    refine a_iconst C dX8_fill_17 (v := 0) rfl ?_
    refine a_istore C dX8_fill_18 (by decide) rfl (vs1 := [some (.ref (ad 22)), some (.int x1), some (.int x2), some (.int x3), some (.int 0), none]) rfl ?_
    exact j20 _ _ _ _ _ _ h
  ·
    refine a_iload_n C dX8_fill_8 (i := 3) rfl rfl ?_
    refine p_if_ne C (X := x3.toInt) rfl dX8_fill_9 (tgt := 16) rfl h (fun h => ?_) (fun h => ?_)
    ·
      exact a_vret Rt dX8_fill_16 (retv_eq (h.trans (congrArg some hR.symm)))
    ·
      refine a_aload_n C dX8_fill_12 (i := 0) rfl rfl ?_
      refine p_callVv C (As := []) (i := 22) kd_22 (hid 22 (by decide)) ⟨_, _, rfl⟩ (by decide) h (fun _ e => Z_X8_finish hid e) mi_X8_finish ml_RX8_39 rfl rfl (by omega) (by omega) (Nat.le_of_ble_eq_true rfl) dX8_fill_13 (fun σ1 h => ?_)
      exact a_vret Rt dX8_fill_16 (retv_eq (h.trans (congrArg some hR.symm)))
theorem Z_X8_fill {l : Launch} {D : va_G} {ids : List Nat} {ad : Nat → Nat} {ca : Nat → ClassId} (hid : ∀ i, i < 277 → i ∈ ids) : ∀ (n : Nat) (x1 x2 x3 : Int32) (σ s0 : HS), f_X8_fill n x1 x2 x3 σ = some s0 → Kv l D ids ad ca yX8_fill cX8_fill 6 (2 * n) (80 * n) [.ref (ad 22), .int x1, .int x2, .int x3] σ (fun σ1 => σ1 = s0) := by
  intro n
  induction n with
  | zero => intro x1 x2 x3 σ s0 h; exact nn h
  | succ n ih => intro x1 x2 x3 σ s0 h; exact Zg_X8_fill hid (f_X8_fill n) ih h
set_option maxHeartbeats 4000000 in
set_option maxRecDepth 100000 in
theorem Z_X8_find {l : Launch} {D : va_G} {ids : List Nat} {ad : Nat → Nat} {ca : Nat → ClassId} {σ : HS} {x1 : Int32} {x2 : Int32} {x3 : Int32} {s0 : HS} (hid : ∀ i, i < 277 → i ∈ ids) (h : f_X8_find x1 x2 x3 σ = some s0) : Kv l D ids ad ca yX8_find cX8_find 4 15 585 [.ref (ad 22), .int x1, .int x2, .int x3] σ (fun σ1 => σ1 = s0) := by
  obtain ⟨R, hR⟩ : ∃ R, s0 = R := ⟨_, rfl⟩
  replace h := h.trans (congrArg some hR)
  refine Kv.of (by decide) (Nat.le_of_ble_eq_true rfl) 0 (fun Γ C Rt => ?_)
  show AW ids ad ca Γ 0 [some (.ref (ad 22)), some (.int x1), some (.int x2), some (.int x3)] [] σ
  unfold f_X8_find at h
  refine a_aload_n C dX8_find_0 (i := 0) rfl rfl ?_
  refine a_iconst C dX8_find_1 (v := 1) rfl ?_
  refine a_iload_n C dX8_find_2 (i := 1) rfl rfl ?_
  refine a_iconst C dX8_find_3 (v := 5) rfl ?_
  refine a_mmin C dX8_find_4 mm_RX8_16 mm_min.1 mm_min.2.1 mm_min.2.2 (Nat.le_of_ble_eq_true rfl) (Nat.le_of_ble_eq_true rfl) ?_
  refine a_mmax C dX8_find_7 mm_RX8_22 mm_max.1 mm_max.2.1 mm_max.2.2 (Nat.le_of_ble_eq_true rfl) (Nat.le_of_ble_eq_true rfl) ?_
  refine p_put C fp_RX8_25 (i := 22) kd_22 (hid 22 (by decide)) rfl rfl dX8_find_10 h (fun σ1 h => ?_)
  refine a_aload_n C dX8_find_13 (i := 0) rfl rfl ?_
  refine a_iload_n C dX8_find_14 (i := 2) rfl rfl ?_
  refine p_put C fp_RX8_29 (i := 22) kd_22 (hid 22 (by decide)) rfl rfl dX8_find_15 h (fun σ2 h => ?_)
  refine a_aload_n C dX8_find_18 (i := 0) rfl rfl ?_
  refine a_iconst C dX8_find_19 (v := 0) rfl ?_
  refine p_put C fp_RX8_32 (i := 22) kd_22 (hid 22 (by decide)) rfl rfl dX8_find_20 h (fun σ3 h => ?_)
  refine a_aload_n C dX8_find_23 (i := 0) rfl rfl ?_
  refine a_iconst C dX8_find_24 (v := 0) rfl ?_
  refine a_iconst C dX8_find_25 (v := 0) rfl ?_
  refine a_aload_n C dX8_find_26 (i := 0) rfl rfl ?_
  refine a_get C fl_RX8_25 (i := 22) kd_22 (hid 22 (by decide)) (v := .int (σ3.1 22 3)) rfl dX8_find_27 ?_
  refine a_iload_n C dX8_find_30 (i := 3) rfl rfl ?_
  refine a_imul C dX8_find_31 ?_
  refine p_callVv C (As := [.int 0, .int 0, .int ((σ3.1 22 3) * x3)]) (i := 22) kd_22 (hid 22 (by decide)) ⟨_, _, rfl⟩ (by decide) h (fun _ e => Z_X8_fill hid 7 _ _ _ _ _ e) mi_X8_fill ml_RX8_35 rfl rfl (Nat.le_of_ble_eq_true rfl) (Nat.le_of_ble_eq_true rfl) (Nat.le_of_ble_eq_true rfl) dX8_find_32 (fun σ4 h => ?_)
  exact a_vret Rt dX8_find_35 (retv_eq (h.trans (congrArg some hR.symm)))
set_option maxHeartbeats 4000000 in
set_option maxRecDepth 100000 in
theorem Z_X9_append {l : Launch} {D : va_G} {ids : List Nat} {ad : Nat → Nat} {ca : Nat → ClassId} {σ : HS} {x1 : Int32} {s0 : HS} (hid : ∀ i, i < 277 → i ∈ ids) (h : f_X9_append x1 σ = some s0) : Kv l D ids ad ca yX9_append cX9_append 3 0 0 [.ref (ad 2), .int x1] σ (fun σ1 => σ1 = s0) := by
  obtain ⟨R, hR⟩ : ∃ R, s0 = R := ⟨_, rfl⟩
  replace h := h.trans (congrArg some hR)
  refine Kv.of (by decide) (Nat.le_of_ble_eq_true rfl) 1 (fun Γ C Rt => ?_)
  show AW ids ad ca Γ 0 [some (.ref (ad 2)), some (.int x1), none] [] σ
  unfold f_X9_append at h
  have j43 : ∀ (k3 : Int32 → Int32 → HS → Option (HS)) (hk3 : ∀ (y1 : Int32) (y2 : Int32) (σ : HS), k3 y1 y2 σ = some R → AW ids ad ca Γ 3 [some (.ref (ad 2)), some (.int y1), some (.int y2)] [] σ) (y1 : Int32) (y2 : Int32) (σ : HS), f_X9_append_43 k3 y1 y2 σ = some R → AW ids ad ca Γ 43 [some (.ref (ad 2)), some (.int y1), some (.int y2)] [] σ := by
    intro k3 hk3 y1 y2 σ h
    unfold f_X9_append_43 at h
    refine p_iinc C (y := (y2 + (-8))) (fun z1 => [some (.ref (ad 2)), some (.int y1), some (.int z1)]) dX9_append_43 rfl rfl (by decide) rfl (fun _ => rfl) h (fun z1 h => ?_)
    refine a_goto C dX9_append_46 (tgt := 3) rfl ?_
    exact hk3 _ _ _ h
  have j3 : ∀ (n : Nat) (y1 : Int32) (y2 : Int32) (σ : HS), f_X9_append_3 n y1 y2 σ = some R → AW ids ad ca Γ 3 [some (.ref (ad 2)), some (.int y1), some (.int y2)] [] σ := by
    intro n
    induction n with
    | zero => intro y1 y2 σ h; exact nn h
    | succ n ih =>
      intro y1 y2 σ h
      have h : b_X9_append_3 (f_X9_append_3 n) y1 y2 σ = some R := h
      unfold b_X9_append_3 at h
      refine a_iload_n C dX9_append_3 (i := 2) rfl rfl ?_
      refine p_if_lt C (X := y2.toInt) rfl dX9_append_4 (tgt := 49) rfl h (fun h => ?_) (fun h => ?_)
      ·
        exact a_vret Rt dX9_append_49 (retv_eq (h.trans (congrArg some hR.symm)))
      ·
        refine a_aload_n C dX9_append_7 (i := 0) rfl rfl ?_
        refine a_get C fl_RX9_25 (i := 2) kd_2 (hid 2 (by decide)) (v := .int (σ.1 2 1)) rfl dX9_append_8 ?_
        refine a_sipush C dX9_append_11 (v := 2000) rfl ?_
        refine p_ic_ge C (X := (σ.1 2 1).toInt) (Y := 2000) rfl (by decide) dX9_append_14 (tgt := 43) rfl h (fun h => ?_) (fun h => ?_)
        ·
          exact j43 (f_X9_append_3 n) (fun y1 y2 σ h => ih y1 y2 σ h) _ _ _ h
        ·
          refine a_aload_n C dX9_append_17 (i := 0) rfl rfl ?_
          refine a_get C fl_RX9_9 (i := 2) kd_2 (hid 2 (by decide)) (v := .ref (ad 3)) rfl dX9_append_18 ?_
          refine a_aload_n C dX9_append_21 (i := 0) rfl rfl ?_
          refine a_get C fl_RX9_25 (i := 2) kd_2 (hid 2 (by decide)) (v := .int (σ.1 2 1)) rfl dX9_append_22 ?_
          refine a_iload_n C dX9_append_25 (i := 1) rfl rfl ?_
          refine a_iload_n C dX9_append_26 (i := 2) rfl rfl ?_
          refine a_iushr C dX9_append_27 ?_
          refine a_sipush C dX9_append_28 (v := 255) rfl ?_
          refine a_iand C dX9_append_31 ?_
          refine p_iast C (i := 3) (show rowOK 3 from ⟨kd_3, by decide⟩) hid (by rw [al_3]; rfl) dX9_append_32 h (fun σ1 h => ?_)
          refine a_aload_n C dX9_append_33 (i := 0) rfl rfl ?_
          refine a_dup C dX9_append_34 rfl ?_
          refine a_get C fl_RX9_25 (i := 2) kd_2 (hid 2 (by decide)) (v := .int (σ1.1 2 1)) rfl dX9_append_35 ?_
          refine a_iconst C dX9_append_38 (v := 1) rfl ?_
          refine a_iadd C dX9_append_39 ?_
          refine p_put C fp_RX9_25 (i := 2) kd_2 (hid 2 (by decide)) rfl rfl dX9_append_40 h (fun σ2 h => ?_)
          exact j43 (f_X9_append_3 n) (fun y1 y2 σ h => ih y1 y2 σ h) _ _ _ h
  refine a_bipush C dX9_append_0 (v := 24) rfl ?_
  refine a_istore_n C dX9_append_2 (i := 2) rfl (by decide) rfl (vs1 := [some (.ref (ad 2)), some (.int x1), some (.int 24)]) rfl ?_
  exact j3 _ _ _ _ h
set_option maxHeartbeats 4000000 in
set_option maxRecDepth 100000 in
theorem Z_X10_hasThing {l : Launch} {D : va_G} {ids : List Nat} {ad : Nat → Nat} {ca : Nat → ClassId} {σ : HS} {t : Nat} {x1 : Int32} {r0 : Int32} {s0 : HS} (hid : ∀ i, i < 277 → i ∈ ids) (ht : txtOK t) (h : f_X10_hasThing t x1 σ = some (r0, s0)) : Ki l D ids ad ca yX10_hasThing cX10_hasThing 2 .boolean 0 0 [.ref (ad t), .int x1] σ (fun r σ1 => r = r0 ∧ σ1 = s0) := by
  obtain ⟨R, hR⟩ : ∃ R, (r0, s0) = R := ⟨_, rfl⟩
  replace h := h.trans (congrArg some hR)
  refine Ki.of (by decide) (Nat.le_of_ble_eq_true rfl) 0 (fun Γ C Rt => ?_)
  show AW ids ad ca Γ 0 [some (.ref (ad t)), some (.int x1)] [] σ
  unfold f_X10_hasThing at h
  refine a_iload_n C dX10_hasThing_0 (i := 1) rfl rfl ?_
  refine p_if_lt C (X := x1.toInt) rfl dX10_hasThing_1 (tgt := 16) rfl h (fun h => ?_) (fun h => ?_)
  ·
    refine a_iconst C dX10_hasThing_16 (v := 0) rfl ?_
    exact a_iret Rt dX10_hasThing_17 (nar_z (by decide)).1 (ret_eq (h.trans (congrArg some hR.symm)))
  ·
    refine a_iload_n C dX10_hasThing_4 (i := 1) rfl rfl ?_
    refine a_aload_n C dX10_hasThing_5 (i := 0) rfl rfl ?_
    refine a_get C fl_RX10_38 (i := t) ht.1.1 (hid _ ht.1.2) (v := .int (σ.1 t 0)) rfl dX10_hasThing_6 ?_
    refine p_ic_ge C (X := x1.toInt) (Y := (σ.1 t 0).toInt) rfl rfl dX10_hasThing_9 (tgt := 16) rfl h (fun h => ?_) (fun h => ?_)
    ·
      refine a_iconst C dX10_hasThing_16 (v := 0) rfl ?_
      exact a_iret Rt dX10_hasThing_17 (nar_z (by decide)).1 (ret_eq (h.trans (congrArg some hR.symm)))
    ·
      refine a_iconst C dX10_hasThing_12 (v := 1) rfl ?_
      refine a_goto C dX10_hasThing_13 (tgt := 17) rfl ?_
      exact a_iret Rt dX10_hasThing_17 (nar_z (by decide)).1 (ret_eq (h.trans (congrArg some hR.symm)))
set_option maxHeartbeats 4000000 in
set_option maxRecDepth 100000 in
theorem Z_X11_feed {l : Launch} {D : va_G} {ids : List Nat} {ad : Nat → Nat} {ca : Nat → ClassId} {σ : HS} {x1 : Int32} {x2 : Int32} {x3 : Int32} {x4 : Int32} {x5 : Int32} {r0 : Int32} {s0 : HS} (hid : ∀ i, i < 277 → i ∈ ids) (h : f_X11_feed x1 x2 x3 x4 x5 σ = some (r0, s0)) : Ki l D ids ad ca yX11_feed cX11_feed 6 .int 1 22 [.ref (ad 0), .int x1, .int x2, .int x3, .int x4, .int x5] σ (fun r σ1 => r = r0 ∧ σ1 = s0) := by
  obtain ⟨R, hR⟩ : ∃ R, (r0, s0) = R := ⟨_, rfl⟩
  replace h := h.trans (congrArg some hR)
  refine Ki.of (by decide) (Nat.le_of_ble_eq_true rfl) 0 (fun Γ C Rt => ?_)
  show AW ids ad ca Γ 0 [some (.ref (ad 0)), some (.int x1), some (.int x2), some (.int x3), some (.int x4), some (.int x5)] [] σ
  unfold f_X11_feed at h
  refine a_aload_n C dX11_feed_0 (i := 0) rfl rfl ?_
  refine a_get C fl_RX11_10 (i := 0) kd_0 (hid 0 (by decide)) (v := .ref (ad 1)) rfl dX11_feed_1 ?_
  refine a_get C fl_RX11_89 (i := 1) kd_1 (hid 1 (by decide)) (v := .ref (ad 2)) rfl dX11_feed_4 ?_
  refine a_get C fl_RX11_93 (i := 2) kd_2 (hid 2 (by decide)) (v := .int (σ.1 2 1)) rfl dX11_feed_7 ?_
  refine a_bipush C dX11_feed_10 (v := 20) rfl ?_
  refine a_iadd C dX11_feed_12 ?_
  refine a_sipush C dX11_feed_13 (v := 2000) rfl ?_
  refine p_ic_le C (X := ((σ.1 2 1) + (20 : Int32)).toInt) (Y := 2000) rfl (by decide) dX11_feed_16 (tgt := 21) rfl h (fun h => ?_) (fun h => ?_)
  ·
    refine a_aload_n C dX11_feed_21 (i := 0) rfl rfl ?_
    refine a_get C fl_RX11_10 (i := 0) kd_0 (hid 0 (by decide)) (v := .ref (ad 1)) rfl dX11_feed_22 ?_
    refine a_get C fl_RX11_89 (i := 1) kd_1 (hid 1 (by decide)) (v := .ref (ad 2)) rfl dX11_feed_25 ?_
    refine a_iload_n C dX11_feed_28 (i := 1) rfl rfl ?_
    refine p_callVv C (As := [.int x1]) (i := 2) kd_2 (hid 2 (by decide)) ⟨_, _, rfl⟩ (by decide) h (fun _ e => Z_X9_append hid e) mi_X9_append ml_RX11_99 rfl rfl (Nat.le_of_ble_eq_true rfl) (Nat.le_of_ble_eq_true rfl) (Nat.le_of_ble_eq_true rfl) dX11_feed_29 (fun σ1 h => ?_)
    refine a_aload_n C dX11_feed_32 (i := 0) rfl rfl ?_
    refine a_get C fl_RX11_10 (i := 0) kd_0 (hid 0 (by decide)) (v := .ref (ad 1)) rfl dX11_feed_33 ?_
    refine a_get C fl_RX11_89 (i := 1) kd_1 (hid 1 (by decide)) (v := .ref (ad 2)) rfl dX11_feed_36 ?_
    refine a_iload_n C dX11_feed_39 (i := 2) rfl rfl ?_
    refine p_callVv C (As := [.int x2]) (i := 2) kd_2 (hid 2 (by decide)) ⟨_, _, rfl⟩ (by decide) h (fun _ e => Z_X9_append hid e) mi_X9_append ml_RX11_99 rfl rfl (Nat.le_of_ble_eq_true rfl) (Nat.le_of_ble_eq_true rfl) (Nat.le_of_ble_eq_true rfl) dX11_feed_40 (fun σ3 h => ?_)
    refine a_aload_n C dX11_feed_43 (i := 0) rfl rfl ?_
    refine a_get C fl_RX11_10 (i := 0) kd_0 (hid 0 (by decide)) (v := .ref (ad 1)) rfl dX11_feed_44 ?_
    refine a_get C fl_RX11_89 (i := 1) kd_1 (hid 1 (by decide)) (v := .ref (ad 2)) rfl dX11_feed_47 ?_
    refine a_iload_n C dX11_feed_50 (i := 3) rfl rfl ?_
    refine p_callVv C (As := [.int x3]) (i := 2) kd_2 (hid 2 (by decide)) ⟨_, _, rfl⟩ (by decide) h (fun _ e => Z_X9_append hid e) mi_X9_append ml_RX11_99 rfl rfl (Nat.le_of_ble_eq_true rfl) (Nat.le_of_ble_eq_true rfl) (Nat.le_of_ble_eq_true rfl) dX11_feed_51 (fun σ5 h => ?_)
    refine a_aload_n C dX11_feed_54 (i := 0) rfl rfl ?_
    refine a_get C fl_RX11_10 (i := 0) kd_0 (hid 0 (by decide)) (v := .ref (ad 1)) rfl dX11_feed_55 ?_
    refine a_get C fl_RX11_89 (i := 1) kd_1 (hid 1 (by decide)) (v := .ref (ad 2)) rfl dX11_feed_58 ?_
    refine a_iload C dX11_feed_61 rfl ?_
    refine p_callVv C (As := [.int x4]) (i := 2) kd_2 (hid 2 (by decide)) ⟨_, _, rfl⟩ (by decide) h (fun _ e => Z_X9_append hid e) mi_X9_append ml_RX11_99 rfl rfl (Nat.le_of_ble_eq_true rfl) (Nat.le_of_ble_eq_true rfl) (Nat.le_of_ble_eq_true rfl) dX11_feed_63 (fun σ7 h => ?_)
    refine a_aload_n C dX11_feed_66 (i := 0) rfl rfl ?_
    refine a_get C fl_RX11_10 (i := 0) kd_0 (hid 0 (by decide)) (v := .ref (ad 1)) rfl dX11_feed_67 ?_
    refine a_get C fl_RX11_89 (i := 1) kd_1 (hid 1 (by decide)) (v := .ref (ad 2)) rfl dX11_feed_70 ?_
    refine a_iload C dX11_feed_73 rfl ?_
    refine p_callVv C (As := [.int x5]) (i := 2) kd_2 (hid 2 (by decide)) ⟨_, _, rfl⟩ (by decide) h (fun _ e => Z_X9_append hid e) mi_X9_append ml_RX11_99 rfl rfl (Nat.le_of_ble_eq_true rfl) (Nat.le_of_ble_eq_true rfl) (Nat.le_of_ble_eq_true rfl) dX11_feed_75 (fun σ9 h => ?_)
    refine a_aload_n C dX11_feed_78 (i := 0) rfl rfl ?_
    refine a_get C fl_RX11_10 (i := 0) kd_0 (hid 0 (by decide)) (v := .ref (ad 1)) rfl dX11_feed_79 ?_
    refine a_get C fl_RX11_89 (i := 1) kd_1 (hid 1 (by decide)) (v := .ref (ad 2)) rfl dX11_feed_82 ?_
    refine a_get C fl_RX11_93 (i := 2) kd_2 (hid 2 (by decide)) (v := .int (σ9.1 2 1)) rfl dX11_feed_85 ?_
    exact a_iret Rt dX11_feed_88 rfl (ret_eq (h.trans (congrArg some hR.symm)))
  ·
    refine a_iconst C dX11_feed_19 (v := (-1)) rfl ?_
    exact a_iret Rt dX11_feed_20 rfl (ret_eq (h.trans (congrArg some hR.symm)))
set_option maxHeartbeats 4000000 in
set_option maxRecDepth 100000 in
theorem Z_X11_back {l : Launch} {D : va_G} {ids : List Nat} {ad : Nat → Nat} {ca : Nat → ClassId} {σ : HS} {x1 : Int32} {r0 : Int32} {s0 : HS} (hid : ∀ i, i < 277 → i ∈ ids) (h : f_X11_back x1 σ = some (r0, s0)) : Ki l D ids ad ca yX11_back cX11_back 2 .int 0 0 [.ref (ad 0), .int x1] σ (fun r σ1 => r = r0 ∧ σ1 = s0) := by
  obtain ⟨R, hR⟩ : ∃ R, (r0, s0) = R := ⟨_, rfl⟩
  replace h := h.trans (congrArg some hR)
  refine Ki.of (by decide) (Nat.le_of_ble_eq_true rfl) 0 (fun Γ C Rt => ?_)
  show AW ids ad ca Γ 0 [some (.ref (ad 0)), some (.int x1)] [] σ
  unfold f_X11_back at h
  refine a_iload_n C dX11_back_0 (i := 1) rfl rfl ?_
  refine p_if_lt C (X := x1.toInt) rfl dX11_back_1 (tgt := 18) rfl h (fun h => ?_) (fun h => ?_)
  ·
    refine a_iconst C dX11_back_18 (v := (-1)) rfl ?_
    exact a_iret Rt dX11_back_19 rfl (ret_eq (h.trans (congrArg some hR.symm)))
  ·
    refine a_iload_n C dX11_back_4 (i := 1) rfl rfl ?_
    refine a_aload_n C dX11_back_5 (i := 0) rfl rfl ?_
    refine a_get C fl_RX11_10 (i := 0) kd_0 (hid 0 (by decide)) (v := .ref (ad 1)) rfl dX11_back_6 ?_
    refine a_get C fl_RX11_89 (i := 1) kd_1 (hid 1 (by decide)) (v := .ref (ad 2)) rfl dX11_back_9 ?_
    refine a_get C fl_RX11_93 (i := 2) kd_2 (hid 2 (by decide)) (v := .int (σ.1 2 1)) rfl dX11_back_12 ?_
    refine p_ic_le C (X := x1.toInt) (Y := (σ.1 2 1).toInt) rfl rfl dX11_back_15 (tgt := 20) rfl h (fun h => ?_) (fun h => ?_)
    ·
      refine a_aload_n C dX11_back_20 (i := 0) rfl rfl ?_
      refine a_get C fl_RX11_10 (i := 0) kd_0 (hid 0 (by decide)) (v := .ref (ad 1)) rfl dX11_back_21 ?_
      refine a_get C fl_RX11_89 (i := 1) kd_1 (hid 1 (by decide)) (v := .ref (ad 2)) rfl dX11_back_24 ?_
      refine a_dup C dX11_back_27 rfl ?_
      refine a_get C fl_RX11_93 (i := 2) kd_2 (hid 2 (by decide)) (v := .int (σ.1 2 1)) rfl dX11_back_28 ?_
      refine a_iload_n C dX11_back_31 (i := 1) rfl rfl ?_
      refine a_isub C dX11_back_32 ?_
      refine p_put C fp_RX11_93 (i := 2) kd_2 (hid 2 (by decide)) rfl rfl dX11_back_33 h (fun σ1 h => ?_)
      refine a_aload_n C dX11_back_36 (i := 0) rfl rfl ?_
      refine a_get C fl_RX11_10 (i := 0) kd_0 (hid 0 (by decide)) (v := .ref (ad 1)) rfl dX11_back_37 ?_
      refine a_get C fl_RX11_89 (i := 1) kd_1 (hid 1 (by decide)) (v := .ref (ad 2)) rfl dX11_back_40 ?_
      refine a_get C fl_RX11_93 (i := 2) kd_2 (hid 2 (by decide)) (v := .int (σ1.1 2 1)) rfl dX11_back_43 ?_
      exact a_iret Rt dX11_back_46 rfl (ret_eq (h.trans (congrArg some hR.symm)))
    ·
      refine a_iconst C dX11_back_18 (v := (-1)) rfl ?_
      exact a_iret Rt dX11_back_19 rfl (ret_eq (h.trans (congrArg some hR.symm)))
set_option maxHeartbeats 4000000 in
set_option maxRecDepth 100000 in
theorem Z_X11_beginAnew {l : Launch} {D : va_G} {ids : List Nat} {ad : Nat → Nat} {ca : Nat → ClassId} {σ : HS} {s0 : HS} (hid : ∀ i, i < 277 → i ∈ ids) (h : f_X11_beginAnew σ = some s0) : Kv l D ids ad ca yX11_beginAnew cX11_beginAnew 3 2 81 [.ref (ad 0)] σ (fun σ1 => σ1 = s0) := by
  obtain ⟨R, hR⟩ : ∃ R, s0 = R := ⟨_, rfl⟩
  replace h := h.trans (congrArg some hR)
  refine Kv.of (by decide) (Nat.le_of_ble_eq_true rfl) 2 (fun Γ C Rt => ?_)
  show AW ids ad ca Γ 0 [some (.ref (ad 0)), none, none] [] σ
  unfold f_X11_beginAnew at h
  have j46 : ∀ (n : Nat) (y2 : Int32) (σ : HS), f_X11_beginAnew_46 n y2 σ = some R → AW ids ad ca Γ 46 [some (.ref (ad 0)), none, some (.int y2)] [] σ := by
    intro n
    induction n with
    | zero => intro y2 σ h; exact nn h
    | succ n ih =>
      intro y2 σ h
      have h : b_X11_beginAnew_46 (f_X11_beginAnew_46 n) y2 σ = some R := h
      unfold b_X11_beginAnew_46 at h
      refine a_iload_n C dX11_beginAnew_46 (i := 2) rfl rfl ?_
      refine a_iconst C dX11_beginAnew_47 (v := 3) rfl ?_
      refine p_ic_ge C (X := y2.toInt) (Y := 3) rfl (by decide) dX11_beginAnew_48 (tgt := 64) rfl h (fun h => ?_) (fun h => ?_)
      ·
        exact a_vret Rt dX11_beginAnew_64 (retv_eq (h.trans (congrArg some hR.symm)))
      ·
        refine a_aload_n C dX11_beginAnew_51 (i := 0) rfl rfl ?_
        refine a_get C fl_RX11_65 (i := 0) kd_0 (hid 0 (by decide)) (v := .ref (ad 26)) rfl dX11_beginAnew_52 ?_
        refine a_iload_n C dX11_beginAnew_55 (i := 2) rfl rfl ?_
        refine a_iconst C dX11_beginAnew_56 (v := 0) rfl ?_
        refine p_zast C (i := 26) kd_26 (hid 26 (by decide)) (by rw [al_26]; rfl) (by decide) dX11_beginAnew_57 h (fun σ1 h => ?_)
        refine p_iinc C (y := (y2 + 1)) (fun z2 => [some (.ref (ad 0)), none, some (.int z2)]) dX11_beginAnew_58 rfl rfl (by decide) rfl (fun _ => rfl) h (fun z2 h => ?_)
        refine a_goto C dX11_beginAnew_61 (tgt := 46) rfl ?_
        exact ih _ _ h
  refine a_aload_n C dX11_beginAnew_0 (i := 0) rfl rfl ?_
  refine p_getT C fl_RX11_86 (tx := (σ.2.2 1)) kd_0 (hid 0 (by decide)) (fun t e => by subst e; rfl) dX11_beginAnew_1 h (fun ht1 h => ?_)
  refine a_astore_n C dX11_beginAnew_4 (i := 1) rfl (by decide) rfl (vs1 := [some (.ref (ad 0)), some (.ref (ad ((σ.2.2 1)))), none]) rfl ?_
  refine a_aload_n C dX11_beginAnew_5 (i := 0) rfl rfl ?_
  refine a_aload_n C dX11_beginAnew_6 (i := 0) rfl rfl ?_
  refine p_getT C fl_RX11_82 (tx := (σ.2.2 0)) kd_0 (hid 0 (by decide)) (fun t e => by subst e; rfl) dX11_beginAnew_7 h (fun ht2 h => ?_)
  refine p_putR C (hid 0 (by decide)) fpr_86 dX11_beginAnew_10 h (fun σ3 h => ?_)
  refine a_aload_n C dX11_beginAnew_13 (i := 0) rfl rfl ?_
  refine a_aload_n C dX11_beginAnew_14 (i := 1) rfl rfl ?_
  refine p_putR C (hid 0 (by decide)) fpr_82 dX11_beginAnew_15 h (fun σ4 h => ?_)
  refine a_aload_n C dX11_beginAnew_18 (i := 0) rfl rfl ?_
  refine a_get C fl_RX11_54 (i := 0) kd_0 (hid 0 (by decide)) (v := .ref (ad 56)) rfl dX11_beginAnew_19 ?_
  refine a_aload_n C dX11_beginAnew_22 (i := 0) rfl rfl ?_
  refine p_getT C fl_RX11_82 (tx := (σ4.2.2 0)) kd_0 (hid 0 (by decide)) (fun t e => by subst e; rfl) dX11_beginAnew_23 h (fun ht5 h => ?_)
  refine p_callVv C (As := [.ref (ad ((σ4.2.2 0)))]) (i := 56) (show airOK 56 from airOK_of 0 (by decide)).1.1 (hid _ (show airOK 56 from airOK_of 0 (by decide)).1.2) ⟨_, _, rfl⟩ (by decide) h (fun _ e => Z_X0_begin hid (show airOK 56 from airOK_of 0 (by decide)) ht5 e) mi_X0_begin ml_RX11_110 rfl rfl (Nat.le_of_ble_eq_true rfl) (Nat.le_of_ble_eq_true rfl) (Nat.le_of_ble_eq_true rfl) dX11_beginAnew_26 (fun σ6 h => ?_)
  refine a_aload_n C dX11_beginAnew_29 (i := 0) rfl rfl ?_
  refine a_get C fl_RX11_26 (i := 0) kd_0 (hid 0 (by decide)) (v := .ref (ad 12)) rfl dX11_beginAnew_30 ?_
  refine p_callVv C (As := []) (i := 12) kd_12 (hid 12 (by decide)) ⟨_, _, rfl⟩ (by decide) h (fun _ e => Z_X5_clear hid e) mi_X5_clear ml_RX11_114 rfl rfl (Nat.le_of_ble_eq_true rfl) (Nat.le_of_ble_eq_true rfl) (Nat.le_of_ble_eq_true rfl) dX11_beginAnew_33 (fun σ8 h => ?_)
  refine a_aload_n C dX11_beginAnew_36 (i := 0) rfl rfl ?_
  refine a_get C fl_RX11_33 (i := 0) kd_0 (hid 0 (by decide)) (v := .ref (ad 14)) rfl dX11_beginAnew_37 ?_
  refine a_iconst C dX11_beginAnew_40 (v := 0) rfl ?_
  refine p_put C fp_RX11_117 (i := 14) kd_14 (hid 14 (by decide)) rfl rfl dX11_beginAnew_41 h (fun σ10 h => ?_)
  refine a_iconst C dX11_beginAnew_44 (v := 0) rfl ?_
  refine a_istore_n C dX11_beginAnew_45 (i := 2) rfl (by decide) rfl (vs1 := [some (.ref (ad 0)), some (.ref (ad ((σ.2.2 1)))), some (.int 0)]) rfl ?_
  refine AW.sub (vs' := [some (.ref (ad 0)), none, some (.int 0)]) (lsub_of (by simp [lsubB])) ?_
  exact j46 _ _ _ h
set_option maxHeartbeats 4000000 in
set_option maxRecDepth 100000 in
theorem Z_X11_read {l : Launch} {D : va_G} {ids : List Nat} {ad : Nat → Nat} {ca : Nat → ClassId} {K : (Nat → Nat) × (Nat → Nat)} {σ : HS} {r0 : Int32} {s0 : HS} (hid : ∀ i, i < 277 → i ∈ ids) (h : f_X11_read σ = some (r0, s0)) : KiS l D ids ad ca K yX11_read cX11_read 2 .int 37 835 [.ref (ad 0)] σ (fun r σ1 => r = r0 ∧ σ1 = s0) := by
  obtain ⟨R, hR⟩ : ∃ R, (r0, s0) = R := ⟨_, rfl⟩
  replace h := h.trans (congrArg some hR)
  refine KiS.of (by decide) (Nat.le_of_ble_eq_true rfl) 1 (fun Γ C E Rt => ?_)
  show AW ids ad ca Γ 0 [some (.ref (ad 0)), none] [] σ
  unfold f_X11_read at h
  refine a_aload_n C dX11_read_0 (i := 0) rfl rfl ?_
  refine a_get C fl_RX11_10 (i := 0) kd_0 (hid 0 (by decide)) (v := .ref (ad 1)) rfl dX11_read_1 ?_
  refine a_aload_n C dX11_read_4 (i := 0) rfl rfl ?_
  refine p_getT C fl_RX11_86 (tx := (σ.2.2 1)) kd_0 (hid 0 (by decide)) (fun t e => by subst e; rfl) dX11_read_5 h (fun ht1 h => ?_)
  refine p_cViS C E (As := [.ref (ad ((σ.2.2 1)))]) (i := 1) kd_1 (hid 1 (by decide)) ⟨_, _, rfl⟩ (by decide) h (fun _ _ e => Z_X6_readInto hid ht1 e) mi_X6_readInto ml_RX11_103 rfl rfl (Nat.le_of_ble_eq_true rfl) (Nat.le_of_ble_eq_true rfl) (Nat.le_of_ble_eq_true rfl) dX11_read_8 (fun r3 σ2 h => ?_)
  refine a_istore_n C dX11_read_11 (i := 1) rfl (by decide) rfl (vs1 := [some (.ref (ad 0)), some (.int r3)]) rfl ?_
  refine a_aload_n C dX11_read_12 (i := 0) rfl rfl ?_
  refine a_get C fl_RX11_10 (i := 0) kd_0 (hid 0 (by decide)) (v := .ref (ad 1)) rfl dX11_read_13 ?_
  refine a_get C fl_RX11_89 (i := 1) kd_1 (hid 1 (by decide)) (v := .ref (ad 2)) rfl dX11_read_16 ?_
  refine a_iconst C dX11_read_19 (v := 0) rfl ?_
  refine p_put C fp_RX11_93 (i := 2) kd_2 (hid 2 (by decide)) rfl rfl dX11_read_20 h (fun σ4 h => ?_)
  refine a_iload_n C dX11_read_23 (i := 1) rfl rfl ?_
  refine p_if_ne C (X := r3.toInt) rfl dX11_read_24 (tgt := 31) rfl h (fun h => ?_) (fun h => ?_)
  ·
    refine a_iload_n C dX11_read_31 (i := 1) rfl rfl ?_
    exact a_iret Rt dX11_read_32 rfl (ret_eq (h.trans (congrArg some hR.symm)))
  ·
    refine a_aload_n C dX11_read_27 (i := 0) rfl rfl ?_
    refine p_callVv C (As := []) (i := 0) kd_0 (hid 0 (by decide)) ⟨_, _, rfl⟩ (by decide) h (fun _ e => Z_X11_beginAnew hid e) mi_X11_beginAnew ml_RX11_107 rfl rfl (Nat.le_of_ble_eq_true rfl) (Nat.le_of_ble_eq_true rfl) (Nat.le_of_ble_eq_true rfl) dX11_read_28 (fun σ5 h => ?_)
    refine a_iload_n C dX11_read_31 (i := 1) rfl rfl ?_
    exact a_iret Rt dX11_read_32 rfl (ret_eq (h.trans (congrArg some hR.symm)))
set_option maxHeartbeats 4000000 in
set_option maxRecDepth 100000 in
theorem Z_X11_place {l : Launch} {D : va_G} {ids : List Nat} {ad : Nat → Nat} {ca : Nat → ClassId} {σ : HS} {r0 : Int32} {s0 : HS} (hid : ∀ i, i < 277 → i ∈ ids) (h : f_X11_place σ = some (r0, s0)) : Ki l D ids ad ca yX11_place cX11_place 1 .int 0 0 [.ref (ad 0)] σ (fun r σ1 => r = r0 ∧ σ1 = s0) := by
  obtain ⟨R, hR⟩ : ∃ R, (r0, s0) = R := ⟨_, rfl⟩
  replace h := h.trans (congrArg some hR)
  refine Ki.of (by decide) (Nat.le_of_ble_eq_true rfl) 0 (fun Γ C Rt => ?_)
  show AW ids ad ca Γ 0 [some (.ref (ad 0))] [] σ
  unfold f_X11_place at h
  refine a_aload_n C dX11_place_0 (i := 0) rfl rfl ?_
  refine a_get C fl_RX11_10 (i := 0) kd_0 (hid 0 (by decide)) (v := .ref (ad 1)) rfl dX11_place_1 ?_
  refine a_get C fl_RX11_118 (i := 1) kd_1 (hid 1 (by decide)) (v := .int (σ.1 1 1)) rfl dX11_place_4 ?_
  exact a_iret Rt dX11_place_7 rfl (ret_eq (h.trans (congrArg some hR.symm)))
set_option maxHeartbeats 4000000 in
set_option maxRecDepth 100000 in
theorem Z_X11_thing {l : Launch} {D : va_G} {ids : List Nat} {ad : Nat → Nat} {ca : Nat → ClassId} {σ : HS} {x1 : Int32} {x2 : Int32} {r0 : Int32} {s0 : HS} (hid : ∀ i, i < 277 → i ∈ ids) (h : f_X11_thing x1 x2 σ = some (r0, s0)) : Ki l D ids ad ca yX11_thing cX11_thing 3 .int 1 21 [.ref (ad 0), .int x1, .int x2] σ (fun r σ1 => r = r0 ∧ σ1 = s0) := by
  obtain ⟨R, hR⟩ : ∃ R, (r0, s0) = R := ⟨_, rfl⟩
  replace h := h.trans (congrArg some hR)
  refine Ki.of (by decide) (Nat.le_of_ble_eq_true rfl) 0 (fun Γ C Rt => ?_)
  show AW ids ad ca Γ 0 [some (.ref (ad 0)), some (.int x1), some (.int x2)] [] σ
  unfold f_X11_thing at h
  refine a_aload_n C dX11_thing_0 (i := 0) rfl rfl ?_
  refine p_getT C fl_RX11_82 (tx := (σ.2.2 0)) kd_0 (hid 0 (by decide)) (fun t e => by subst e; rfl) dX11_thing_1 h (fun ht1 h => ?_)
  refine a_iload_n C dX11_thing_4 (i := 1) rfl rfl ?_
  refine p_callVi C (As := [.int x1]) (i := ((σ.2.2 0))) ht1.1.1 (hid _ ht1.1.2) ⟨_, _, rfl⟩ (by decide) h (fun _ _ e => Z_X10_hasThing hid ht1 e) mi_X10_hasThing ml_RX11_121 rfl rfl (Nat.le_of_ble_eq_true rfl) (Nat.le_of_ble_eq_true rfl) (Nat.le_of_ble_eq_true rfl) dX11_thing_5 (fun r3 σ2 h => ?_)
  refine p_if_ne C (X := r3.toInt) rfl dX11_thing_8 (tgt := 13) rfl h (fun h => ?_) (fun h => ?_)
  ·
    refine a_iload_n C dX11_thing_13 (i := 2) rfl rfl ?_
    refine ite_k h (fun c1 h => ?_) (fun c1 h => ?_)
    ·
      refine a_tableIn C dX11_thing_14 (by omega) (by omega) (by rw [c1]; rfl) (tgt := 48) rfl ?_
      refine a_aload_n C dX11_thing_48 (i := 0) rfl rfl ?_
      refine p_getT C fl_RX11_82 (tx := (σ2.2.2 0)) kd_0 (hid 0 (by decide)) (fun t e => by subst e; rfl) dX11_thing_49 h (fun ht4 h => ?_)
      refine a_get C fl_RX11_125 (i := ((σ2.2.2 0))) ht4.1.1 (hid _ ht4.1.2) (v := .ref (ad ((σ2.2.2 0) + 1))) rfl dX11_thing_52 ?_
      refine a_iload_n C dX11_thing_55 (i := 1) rfl rfl ?_
      refine p_iald C (i := ((σ2.2.2 0) + 1)) ht4.2.1.1 hid (by rw [ht4.2.1.2]; rfl) dX11_thing_56 h (fun h => ?_)
      exact a_iret Rt dX11_thing_57 rfl (ret_eq (h.trans (congrArg some hR.symm)))
    ·
      refine ite_k h (fun c2 h => ?_) (fun c2 h => ?_)
      ·
        refine a_tableIn C dX11_thing_14 (by omega) (by omega) (by rw [c2]; rfl) (tgt := 58) rfl ?_
        refine a_aload_n C dX11_thing_58 (i := 0) rfl rfl ?_
        refine p_getT C fl_RX11_82 (tx := (σ2.2.2 0)) kd_0 (hid 0 (by decide)) (fun t e => by subst e; rfl) dX11_thing_59 h (fun ht5 h => ?_)
        refine a_get C fl_RX11_128 (i := ((σ2.2.2 0))) ht5.1.1 (hid _ ht5.1.2) (v := .ref (ad ((σ2.2.2 0) + 2))) rfl dX11_thing_62 ?_
        refine a_iload_n C dX11_thing_65 (i := 1) rfl rfl ?_
        refine p_iald C (i := ((σ2.2.2 0) + 2)) ht5.2.2.1.1 hid (by rw [ht5.2.2.1.2]; rfl) dX11_thing_66 h (fun h => ?_)
        exact a_iret Rt dX11_thing_67 rfl (ret_eq (h.trans (congrArg some hR.symm)))
      ·
        refine ite_k h (fun c3 h => ?_) (fun c3 h => ?_)
        ·
          refine a_tableIn C dX11_thing_14 (by omega) (by omega) (by rw [c3]; rfl) (tgt := 68) rfl ?_
          refine a_aload_n C dX11_thing_68 (i := 0) rfl rfl ?_
          refine a_get C fl_RX11_54 (i := 0) kd_0 (hid 0 (by decide)) (v := .ref (ad 56)) rfl dX11_thing_69 ?_
          refine a_get C fl_RX11_131 (i := 56) (show airOK 56 from airOK_of 0 (by decide)).1.1 (hid _ (show airOK 56 from airOK_of 0 (by decide)).1.2) (v := .ref (ad 57)) rfl dX11_thing_72 ?_
          refine a_iload_n C dX11_thing_75 (i := 1) rfl rfl ?_
          refine p_iald C (i := 57) (show rowOK 57 from ⟨kd_57, by decide⟩) hid (by rw [al_57]; rfl) dX11_thing_76 h (fun h => ?_)
          exact a_iret Rt dX11_thing_77 rfl (ret_eq (h.trans (congrArg some hR.symm)))
        ·
          refine ite_k h (fun c4 h => ?_) (fun c4 h => ?_)
          ·
            refine a_tableIn C dX11_thing_14 (by omega) (by omega) (by rw [c4]; rfl) (tgt := 78) rfl ?_
            refine a_aload_n C dX11_thing_78 (i := 0) rfl rfl ?_
            refine a_get C fl_RX11_54 (i := 0) kd_0 (hid 0 (by decide)) (v := .ref (ad 56)) rfl dX11_thing_79 ?_
            refine a_iload_n C dX11_thing_82 (i := 1) rfl rfl ?_
            refine p_callVi C (As := [.int x1]) (i := 56) (show airOK 56 from airOK_of 0 (by decide)).1.1 (hid _ (show airOK 56 from airOK_of 0 (by decide)).1.2) ⟨_, _, rfl⟩ (by decide) h (fun _ _ e => Z_X0_isUp hid (show airOK 56 from airOK_of 0 (by decide)) e) mi_X0_isUp ml_RX11_134 rfl rfl (Nat.le_of_ble_eq_true rfl) (Nat.le_of_ble_eq_true rfl) (Nat.le_of_ble_eq_true rfl) dX11_thing_83 (fun r7 σ6 h => ?_)
            refine p_if_eq C (X := r7.toInt) rfl dX11_thing_86 (tgt := 101) rfl h (fun h => ?_) (fun h => ?_)
            ·
              refine a_bipush C dX11_thing_101 (v := (-2)) rfl ?_
              exact a_iret Rt dX11_thing_103 rfl (ret_eq (h.trans (congrArg some hR.symm)))
            ·
              refine a_aload_n C dX11_thing_89 (i := 0) rfl rfl ?_
              refine a_get C fl_RX11_54 (i := 0) kd_0 (hid 0 (by decide)) (v := .ref (ad 56)) rfl dX11_thing_90 ?_
              refine a_get C fl_RX11_137 (i := 56) (show airOK 56 from airOK_of 0 (by decide)).1.1 (hid _ (show airOK 56 from airOK_of 0 (by decide)).1.2) (v := .ref (ad 58)) rfl dX11_thing_93 ?_
              refine a_iload_n C dX11_thing_96 (i := 1) rfl rfl ?_
              refine p_iald C (i := 58) (show rowOK 58 from ⟨kd_58, by decide⟩) hid (by rw [al_58]; rfl) dX11_thing_97 h (fun h => ?_)
              refine a_goto C dX11_thing_98 (tgt := 103) rfl ?_
              exact a_iret Rt dX11_thing_103 rfl (ret_eq (h.trans (congrArg some hR.symm)))
          ·
            refine ite_k h (fun c5 h => ?_) (fun c5 h => ?_)
            ·
              refine a_tableIn C dX11_thing_14 (by omega) (by omega) (by rw [c5]; rfl) (tgt := 104) rfl ?_
              refine a_aload_n C dX11_thing_104 (i := 0) rfl rfl ?_
              refine a_get C fl_RX11_54 (i := 0) kd_0 (hid 0 (by decide)) (v := .ref (ad 56)) rfl dX11_thing_105 ?_
              refine a_get C fl_RX11_140 (i := 56) (show airOK 56 from airOK_of 0 (by decide)).1.1 (hid _ (show airOK 56 from airOK_of 0 (by decide)).1.2) (v := .ref (ad 59)) rfl dX11_thing_108 ?_
              refine a_iload_n C dX11_thing_111 (i := 1) rfl rfl ?_
              refine p_iald C (i := 59) (show rowOK 59 from ⟨kd_59, by decide⟩) hid (by rw [al_59]; rfl) dX11_thing_112 h (fun h => ?_)
              exact a_iret Rt dX11_thing_113 rfl (ret_eq (h.trans (congrArg some hR.symm)))
            ·
              refine a_tableOut C dX11_thing_14 (by omega) (tgt := 114) rfl ?_
              refine a_iconst C dX11_thing_114 (v := (-1)) rfl ?_
              exact a_iret Rt dX11_thing_115 rfl (ret_eq (h.trans (congrArg some hR.symm)))
  ·
    refine a_iconst C dX11_thing_11 (v := (-1)) rfl ?_
    exact a_iret Rt dX11_thing_12 rfl (ret_eq (h.trans (congrArg some hR.symm)))
set_option maxHeartbeats 4000000 in
set_option maxRecDepth 100000 in
theorem Z_X11_pattern {l : Launch} {D : va_G} {ids : List Nat} {ad : Nat → Nat} {ca : Nat → ClassId} {σ : HS} {x1 : Int32} {x2 : Int32} {r0 : Int32} {s0 : HS} (hid : ∀ i, i < 277 → i ∈ ids) (h : f_X11_pattern x1 x2 σ = some (r0, s0)) : Ki l D ids ad ca yX11_pattern cX11_pattern 3 .int 1 21 [.ref (ad 0), .int x1, .int x2] σ (fun r σ1 => r = r0 ∧ σ1 = s0) := by
  obtain ⟨R, hR⟩ : ∃ R, (r0, s0) = R := ⟨_, rfl⟩
  replace h := h.trans (congrArg some hR)
  refine Ki.of (by decide) (Nat.le_of_ble_eq_true rfl) 0 (fun Γ C Rt => ?_)
  show AW ids ad ca Γ 0 [some (.ref (ad 0)), some (.int x1), some (.int x2)] [] σ
  unfold f_X11_pattern at h
  refine a_aload_n C dX11_pattern_0 (i := 0) rfl rfl ?_
  refine p_getT C fl_RX11_82 (tx := (σ.2.2 0)) kd_0 (hid 0 (by decide)) (fun t e => by subst e; rfl) dX11_pattern_1 h (fun ht1 h => ?_)
  refine a_iload_n C dX11_pattern_4 (i := 1) rfl rfl ?_
  refine p_callVi C (As := [.int x1]) (i := ((σ.2.2 0))) ht1.1.1 (hid _ ht1.1.2) ⟨_, _, rfl⟩ (by decide) h (fun _ _ e => Z_X10_hasPattern hid ht1 e) mi_X10_hasPattern ml_RX11_143 rfl rfl (Nat.le_of_ble_eq_true rfl) (Nat.le_of_ble_eq_true rfl) (Nat.le_of_ble_eq_true rfl) dX11_pattern_5 (fun r3 σ2 h => ?_)
  refine p_if_ne C (X := r3.toInt) rfl dX11_pattern_8 (tgt := 13) rfl h (fun h => ?_) (fun h => ?_)
  ·
    refine a_iload_n C dX11_pattern_13 (i := 2) rfl rfl ?_
    refine a_iconst C dX11_pattern_14 (v := (-1)) rfl ?_
    refine p_ic_ne C (X := x2.toInt) (Y := (-1)) rfl (by decide) dX11_pattern_15 (tgt := 28) rfl h (fun h => ?_) (fun h => ?_)
    ·
      refine a_iload_n C dX11_pattern_28 (i := 2) rfl rfl ?_
      refine p_if_lt C (X := x2.toInt) rfl dX11_pattern_29 (tgt := 59) rfl h (fun h => ?_) (fun h => ?_)
      ·
        refine a_iconst C dX11_pattern_59 (v := (-1)) rfl ?_
        exact a_iret Rt dX11_pattern_60 rfl (ret_eq (h.trans (congrArg some hR.symm)))
      ·
        refine a_iload_n C dX11_pattern_32 (i := 2) rfl rfl ?_
        refine a_aload_n C dX11_pattern_33 (i := 0) rfl rfl ?_
        refine p_getT C fl_RX11_82 (tx := (σ2.2.2 0)) kd_0 (hid 0 (by decide)) (fun t e => by subst e; rfl) dX11_pattern_34 h (fun ht4 h => ?_)
        refine a_get C fl_RX11_146 (i := ((σ2.2.2 0))) ht4.1.1 (hid _ ht4.1.2) (v := .ref (ad ((σ2.2.2 0) + 10))) rfl dX11_pattern_37 ?_
        refine a_iload_n C dX11_pattern_40 (i := 1) rfl rfl ?_
        refine p_iald C (i := ((σ2.2.2 0) + 10)) ht4.2.2.2.2.1.1 hid (by rw [ht4.2.2.2.2.1.2]; rfl) dX11_pattern_41 h (fun h => ?_)
        refine p_ic_ge C (X := x2.toInt) (Y := (σ2.1 ((σ2.2.2 0) + 10) x1.toInt.toNat).toInt) rfl rfl dX11_pattern_42 (tgt := 59) rfl h (fun h => ?_) (fun h => ?_)
        ·
          refine a_iconst C dX11_pattern_59 (v := (-1)) rfl ?_
          exact a_iret Rt dX11_pattern_60 rfl (ret_eq (h.trans (congrArg some hR.symm)))
        ·
          refine a_aload_n C dX11_pattern_45 (i := 0) rfl rfl ?_
          refine p_getT C fl_RX11_82 (tx := (σ2.2.2 0)) kd_0 (hid 0 (by decide)) (fun t e => by subst e; rfl) dX11_pattern_46 h (fun ht5 h => ?_)
          refine a_get C fl_RX11_149 (i := ((σ2.2.2 0))) ht5.1.1 (hid _ ht5.1.2) (v := .ref (ad ((σ2.2.2 0) + 4))) rfl dX11_pattern_49 ?_
          refine a_iload_n C dX11_pattern_52 (i := 1) rfl rfl ?_
          refine p_aaldH C (t := ((σ2.2.2 0))) ht5 hid dX11_pattern_53 h (fun hr6 h => ?_)
          refine a_iload_n C dX11_pattern_54 (i := 2) rfl rfl ?_
          refine p_iald C (i := ((σ2.2.2 0) + 5 + x1.toInt.toNat)) hr6.1 hid (by rw [hr6.2]; rfl) dX11_pattern_55 h (fun h => ?_)
          refine a_goto C dX11_pattern_56 (tgt := 60) rfl ?_
          exact a_iret Rt dX11_pattern_60 rfl (ret_eq (h.trans (congrArg some hR.symm)))
    ·
      refine a_aload_n C dX11_pattern_18 (i := 0) rfl rfl ?_
      refine p_getT C fl_RX11_82 (tx := (σ2.2.2 0)) kd_0 (hid 0 (by decide)) (fun t e => by subst e; rfl) dX11_pattern_19 h (fun ht7 h => ?_)
      refine a_get C fl_RX11_146 (i := ((σ2.2.2 0))) ht7.1.1 (hid _ ht7.1.2) (v := .ref (ad ((σ2.2.2 0) + 10))) rfl dX11_pattern_22 ?_
      refine a_iload_n C dX11_pattern_25 (i := 1) rfl rfl ?_
      refine p_iald C (i := ((σ2.2.2 0) + 10)) ht7.2.2.2.2.1.1 hid (by rw [ht7.2.2.2.2.1.2]; rfl) dX11_pattern_26 h (fun h => ?_)
      exact a_iret Rt dX11_pattern_27 rfl (ret_eq (h.trans (congrArg some hR.symm)))
  ·
    refine a_iconst C dX11_pattern_11 (v := (-1)) rfl ?_
    exact a_iret Rt dX11_pattern_12 rfl (ret_eq (h.trans (congrArg some hR.symm)))
set_option maxHeartbeats 4000000 in
set_option maxRecDepth 100000 in
theorem Z_X11_tells {l : Launch} {D : va_G} {ids : List Nat} {ad : Nat → Nat} {ca : Nat → ClassId} {σ : HS} {x1 : Int32} {x2 : Int32} {x3 : Int32} {r0 : Int32} {s0 : HS} (hid : ∀ i, i < 277 → i ∈ ids) (h : f_X11_tells x1 x2 x3 σ = some (r0, s0)) : Ki l D ids ad ca yX11_tells cX11_tells 5 .int 3 74 [.ref (ad 0), .int x1, .int x2, .int x3] σ (fun r σ1 => r = r0 ∧ σ1 = s0) := by
  obtain ⟨R, hR⟩ : ∃ R, (r0, s0) = R := ⟨_, rfl⟩
  replace h := h.trans (congrArg some hR)
  refine Ki.of (by decide) (Nat.le_of_ble_eq_true rfl) 1 (fun Γ C Rt => ?_)
  show AW ids ad ca Γ 0 [some (.ref (ad 0)), some (.int x1), some (.int x2), some (.int x3), none] [] σ
  unfold f_X11_tells at h
  have j96 : ∀ (v0 : Int32) (v1 : Int32) (w2 : Nat) (σ : HS) (hw2 : txtOK w2), f_X11_tells_96 v0 v1 w2 σ = some R → AW ids ad ca Γ 96 [none, none, none, none, none] [.int v0, .int v1, .ref (ad w2), .ref (ad 8)] σ := by
    intro v0 v1 w2 σ hw2 h
    unfold f_X11_tells_96 at h
    refine p_callVi C (As := [.ref (ad w2), .int v1, .int v0]) (i := 8) kd_8 (hid 8 (by decide)) ⟨_, _, rfl⟩ (by decide) h (fun _ _ e => Z_X4_asks hid hw2 e) mi_X4_asks ml_RX11_164 rfl rfl (Nat.le_of_ble_eq_true rfl) (Nat.le_of_ble_eq_true rfl) (Nat.le_of_ble_eq_true rfl) dX11_tells_96 (fun r2 σ1 h => ?_)
    exact a_iret Rt dX11_tells_99 rfl (ret_eq (h.trans (congrArg some hR.symm)))
  have j54 : ∀ (y1 : Int32) (y2 : Int32) (y3 : Int32) (y4 : Int32) (σ : HS), f_X11_tells_54 y1 y2 y3 y4 σ = some R → AW ids ad ca Γ 54 [some (.ref (ad 0)), some (.int y1), some (.int y2), some (.int y3), some (.int y4)] [] σ := by
    intro y1 y2 y3 y4 σ h
    unfold f_X11_tells_54 at h
    refine a_aload_n C dX11_tells_54 (i := 0) rfl rfl ?_
    refine a_get C fl_RX11_19 (i := 0) kd_0 (hid 0 (by decide)) (v := .ref (ad 8)) rfl dX11_tells_55 ?_
    refine a_aload_n C dX11_tells_58 (i := 0) rfl rfl ?_
    refine p_getT C fl_RX11_82 (tx := (σ.2.2 0)) kd_0 (hid 0 (by decide)) (fun t e => by subst e; rfl) dX11_tells_59 h (fun ht1 h => ?_)
    refine a_aload_n C dX11_tells_62 (i := 0) rfl rfl ?_
    refine a_get C fl_RX11_54 (i := 0) kd_0 (hid 0 (by decide)) (v := .ref (ad 56)) rfl dX11_tells_63 ?_
    refine a_iload_n C dX11_tells_66 (i := 1) rfl rfl ?_
    refine a_aload_n C dX11_tells_67 (i := 0) rfl rfl ?_
    refine a_get C fl_RX11_54 (i := 0) kd_0 (hid 0 (by decide)) (v := .ref (ad 56)) rfl dX11_tells_68 ?_
    refine p_callVi C (As := []) (i := 56) (show airOK 56 from airOK_of 0 (by decide)).1.1 (hid _ (show airOK 56 from airOK_of 0 (by decide)).1.2) ⟨_, _, rfl⟩ (by decide) h (fun _ _ e => Z_X0_howManyUp hid (show airOK 56 from airOK_of 0 (by decide)) e) mi_X0_howManyUp ml_RX11_156 rfl rfl (Nat.le_of_ble_eq_true rfl) (Nat.le_of_ble_eq_true rfl) (Nat.le_of_ble_eq_true rfl) dX11_tells_71 (fun r3 σ2 h => ?_)
    refine p_callVv C (As := [.ref (ad ((σ.2.2 0))), .ref (ad 56), .int y1, .int r3]) (i := 8) kd_8 (hid 8 (by decide)) ⟨_, _, rfl⟩ (by decide) h (fun _ e => Z_X4_lookAt hid ht1 (show airOK 56 from airOK_of 0 (by decide)) e) mi_X4_lookAt ml_RX11_160 rfl rfl (Nat.le_of_ble_eq_true rfl) (Nat.le_of_ble_eq_true rfl) (Nat.le_of_ble_eq_true rfl) dX11_tells_74 (fun σ4 h => ?_)
    refine a_aload_n C dX11_tells_77 (i := 0) rfl rfl ?_
    refine a_get C fl_RX11_19 (i := 0) kd_0 (hid 0 (by decide)) (v := .ref (ad 8)) rfl dX11_tells_78 ?_
    refine a_aload_n C dX11_tells_81 (i := 0) rfl rfl ?_
    refine p_getT C fl_RX11_82 (tx := (σ4.2.2 0)) kd_0 (hid 0 (by decide)) (fun t e => by subst e; rfl) dX11_tells_82 h (fun ht6 h => ?_)
    refine a_iload_n C dX11_tells_85 (i := 3) rfl rfl ?_
    refine a_iload C dX11_tells_86 rfl ?_
    refine p_if_eq C (X := y4.toInt) rfl dX11_tells_88 (tgt := 95) rfl h (fun h => ?_) (fun h => ?_)
    ·
      refine a_iconst C dX11_tells_95 (v := 0) rfl ?_
      refine AW.sub (vs' := [none, none, none, none, none]) (lsub_of (by simp [lsubB])) ?_
      exact j96 _ _ _ _ ht6 h
    ·
      refine a_iload_n C dX11_tells_91 (i := 2) rfl rfl ?_
      refine a_goto C dX11_tells_92 (tgt := 96) rfl ?_
      refine AW.sub (vs' := [none, none, none, none, none]) (lsub_of (by simp [lsubB])) ?_
      exact j96 _ _ _ _ ht6 h
  have j37 : ∀ (y1 : Int32) (y2 : Int32) (y3 : Int32) (v0 : Int32) (σ : HS), f_X11_tells_37 y1 y2 y3 v0 σ = some R → AW ids ad ca Γ 37 [some (.ref (ad 0)), some (.int y1), some (.int y2), some (.int y3), none] [.int v0] σ := by
    intro y1 y2 y3 v0 σ h
    unfold f_X11_tells_37 at h
    refine a_istore C dX11_tells_37 (by decide) rfl (vs1 := [some (.ref (ad 0)), some (.int y1), some (.int y2), some (.int y3), some (.int v0)]) rfl ?_
    refine a_iload C dX11_tells_39 rfl ?_
    refine p_if_eq C (X := v0.toInt) rfl dX11_tells_41 (tgt := 54) rfl h (fun h => ?_) (fun h => ?_)
    ·
      exact j54 _ _ _ _ _ h
    ·
      refine a_iload_n C dX11_tells_44 (i := 2) rfl rfl ?_
      refine p_callSi C (As := [.int y2]) h (fun _ _ e => Z_X11_isHeight hid e) ms_X11_isHeight ml_RX11_153 rfl rfl (Nat.le_of_ble_eq_true rfl) (Nat.le_of_ble_eq_true rfl) (Nat.le_of_ble_eq_true rfl) dX11_tells_45 (fun r2 σ1 h => ?_)
      refine p_if_ne C (X := r2.toInt) rfl dX11_tells_48 (tgt := 54) rfl h (fun h => ?_) (fun h => ?_)
      ·
        exact j54 _ _ _ _ _ h
      ·
        refine a_bipush C dX11_tells_51 (v := (-100)) rfl ?_
        exact a_iret Rt dX11_tells_53 rfl (ret_eq (h.trans (congrArg some hR.symm)))
  have j32 : ∀ (y1 : Int32) (y2 : Int32) (y3 : Int32) (σ : HS), f_X11_tells_32 y1 y2 y3 σ = some R → AW ids ad ca Γ 32 [some (.ref (ad 0)), some (.int y1), some (.int y2), some (.int y3), none] [] σ := by
    intro y1 y2 y3 σ h
    unfold f_X11_tells_32 at h
    refine a_iconst C dX11_tells_32 (v := 1) rfl ?_
    refine a_goto C dX11_tells_33 (tgt := 37) rfl ?_
    exact j37 _ _ _ _ _ h
  refine a_aload_n C dX11_tells_0 (i := 0) rfl rfl ?_
  refine p_getT C fl_RX11_82 (tx := (σ.2.2 0)) kd_0 (hid 0 (by decide)) (fun t e => by subst e; rfl) dX11_tells_1 h (fun ht1 h => ?_)
  refine a_iload_n C dX11_tells_4 (i := 1) rfl rfl ?_
  refine p_callVi C (As := [.int x1]) (i := ((σ.2.2 0))) ht1.1.1 (hid _ ht1.1.2) ⟨_, _, rfl⟩ (by decide) h (fun _ _ e => Z_X10_hasThing hid ht1 e) mi_X10_hasThing ml_RX11_121 rfl rfl (Nat.le_of_ble_eq_true rfl) (Nat.le_of_ble_eq_true rfl) (Nat.le_of_ble_eq_true rfl) dX11_tells_5 (fun r3 σ2 h => ?_)
  refine p_if_eq C (X := r3.toInt) rfl dX11_tells_8 (tgt := 20) rfl h (fun h => ?_) (fun h => ?_)
  ·
    refine a_bipush C dX11_tells_20 (v := (-100)) rfl ?_
    exact a_iret Rt dX11_tells_22 rfl (ret_eq (h.trans (congrArg some hR.symm)))
  ·
    refine a_iload_n C dX11_tells_11 (i := 3) rfl rfl ?_
    refine p_if_lt C (X := x3.toInt) rfl dX11_tells_12 (tgt := 20) rfl h (fun h => ?_) (fun h => ?_)
    ·
      refine a_bipush C dX11_tells_20 (v := (-100)) rfl ?_
      exact a_iret Rt dX11_tells_22 rfl (ret_eq (h.trans (congrArg some hR.symm)))
    ·
      refine a_iload_n C dX11_tells_15 (i := 3) rfl rfl ?_
      refine a_iconst C dX11_tells_16 (v := 3) rfl ?_
      refine p_ic_le C (X := x3.toInt) (Y := 3) rfl (by decide) dX11_tells_17 (tgt := 23) rfl h (fun h => ?_) (fun h => ?_)
      ·
        refine a_iload_n C dX11_tells_23 (i := 3) rfl rfl ?_
        refine p_if_eq C (X := x3.toInt) rfl dX11_tells_24 (tgt := 32) rfl h (fun h => ?_) (fun h => ?_)
        ·
          exact j32 _ _ _ _ h
        ·
          refine a_iload_n C dX11_tells_27 (i := 3) rfl rfl ?_
          refine a_iconst C dX11_tells_28 (v := 1) rfl ?_
          refine p_ic_ne C (X := x3.toInt) (Y := 1) rfl (by decide) dX11_tells_29 (tgt := 36) rfl h (fun h => ?_) (fun h => ?_)
          ·
            refine a_iconst C dX11_tells_36 (v := 0) rfl ?_
            exact j37 _ _ _ _ _ h
          ·
            exact j32 _ _ _ _ h
      ·
        refine a_bipush C dX11_tells_20 (v := (-100)) rfl ?_
        exact a_iret Rt dX11_tells_22 rfl (ret_eq (h.trans (congrArg some hR.symm)))
set_option maxHeartbeats 4000000 in
set_option maxRecDepth 100000 in
theorem Z_X11_slotsHeld {l : Launch} {D : va_G} {ids : List Nat} {ad : Nat → Nat} {ca : Nat → ClassId} {σ : HS} {r0 : Int32} {s0 : HS} (hid : ∀ i, i < 277 → i ∈ ids) (h : f_X11_slotsHeld σ = some (r0, s0)) : Ki l D ids ad ca yX11_slotsHeld cX11_slotsHeld 3 .int 0 0 [.ref (ad 0)] σ (fun r σ1 => r = r0 ∧ σ1 = s0) := by
  obtain ⟨R, hR⟩ : ∃ R, (r0, s0) = R := ⟨_, rfl⟩
  replace h := h.trans (congrArg some hR)
  refine Ki.of (by decide) (Nat.le_of_ble_eq_true rfl) 2 (fun Γ C Rt => ?_)
  show AW ids ad ca Γ 0 [some (.ref (ad 0)), none, none] [] σ
  unfold f_X11_slotsHeld at h
  have j21 : ∀ (k4 : Int32 → Int32 → HS → Option (Int32 × HS)) (hk4 : ∀ (y1 : Int32) (y2 : Int32) (σ : HS), k4 y1 y2 σ = some R → AW ids ad ca Γ 4 [some (.ref (ad 0)), some (.int y1), some (.int y2)] [] σ) (y1 : Int32) (y2 : Int32) (σ : HS), f_X11_slotsHeld_21 k4 y1 y2 σ = some R → AW ids ad ca Γ 21 [some (.ref (ad 0)), some (.int y1), some (.int y2)] [] σ := by
    intro k4 hk4 y1 y2 σ h
    unfold f_X11_slotsHeld_21 at h
    refine p_iinc C (y := (y2 + 1)) (fun z1 => [some (.ref (ad 0)), some (.int y1), some (.int z1)]) dX11_slotsHeld_21 rfl rfl (by decide) rfl (fun _ => rfl) h (fun z1 h => ?_)
    refine a_goto C dX11_slotsHeld_24 (tgt := 4) rfl ?_
    exact hk4 _ _ _ h
  have j4 : ∀ (n : Nat) (y1 : Int32) (y2 : Int32) (σ : HS), f_X11_slotsHeld_4 n y1 y2 σ = some R → AW ids ad ca Γ 4 [some (.ref (ad 0)), some (.int y1), some (.int y2)] [] σ := by
    intro n
    induction n with
    | zero => intro y1 y2 σ h; exact nn h
    | succ n ih =>
      intro y1 y2 σ h
      have h : b_X11_slotsHeld_4 (f_X11_slotsHeld_4 n) y1 y2 σ = some R := h
      unfold b_X11_slotsHeld_4 at h
      refine a_iload_n C dX11_slotsHeld_4 (i := 2) rfl rfl ?_
      refine a_iconst C dX11_slotsHeld_5 (v := 3) rfl ?_
      refine p_ic_ge C (X := y2.toInt) (Y := 3) rfl (by decide) dX11_slotsHeld_6 (tgt := 27) rfl h (fun h => ?_) (fun h => ?_)
      ·
        refine a_iload_n C dX11_slotsHeld_27 (i := 1) rfl rfl ?_
        exact a_iret Rt dX11_slotsHeld_28 rfl (ret_eq (h.trans (congrArg some hR.symm)))
      ·
        refine a_aload_n C dX11_slotsHeld_9 (i := 0) rfl rfl ?_
        refine a_get C fl_RX11_65 (i := 0) kd_0 (hid 0 (by decide)) (v := .ref (ad 26)) rfl dX11_slotsHeld_10 ?_
        refine a_iload_n C dX11_slotsHeld_13 (i := 2) rfl rfl ?_
        refine p_zald C (i := 26) kd_26 (hid 26 (by decide)) (by rw [al_26]; rfl) dX11_slotsHeld_14 h (fun h => ?_)
        refine p_if_eq C (X := (σ.1 26 y2.toInt.toNat).toInt) rfl dX11_slotsHeld_15 (tgt := 21) rfl h (fun h => ?_) (fun h => ?_)
        ·
          exact j21 (f_X11_slotsHeld_4 n) (fun y1 y2 σ h => ih y1 y2 σ h) _ _ _ h
        ·
          refine p_iinc C (y := (y1 + 1)) (fun z1 => [some (.ref (ad 0)), some (.int z1), some (.int y2)]) dX11_slotsHeld_18 rfl rfl (by decide) rfl (fun _ => rfl) h (fun z1 h => ?_)
          exact j21 (f_X11_slotsHeld_4 n) (fun y1 y2 σ h => ih y1 y2 σ h) _ _ _ h
  refine a_iconst C dX11_slotsHeld_0 (v := 0) rfl ?_
  refine a_istore_n C dX11_slotsHeld_1 (i := 1) rfl (by decide) rfl (vs1 := [some (.ref (ad 0)), some (.int 0), none]) rfl ?_
  refine a_iconst C dX11_slotsHeld_2 (v := 0) rfl ?_
  refine a_istore_n C dX11_slotsHeld_3 (i := 2) rfl (by decide) rfl (vs1 := [some (.ref (ad 0)), some (.int 0), some (.int 0)]) rfl ?_
  exact j4 _ _ _ _ h
set_option maxHeartbeats 4000000 in
set_option maxRecDepth 100000 in
theorem Z_X11_weightsOf {l : Launch} {D : va_G} {ids : List Nat} {ad : Nat → Nat} {ca : Nat → ClassId} {σ : HS} {x1 : Int32} {r0 : Int32} {s0 : HS} (hid : ∀ i, i < 277 → i ∈ ids) (h : f_X11_weightsOf x1 σ = some (r0, s0)) : Ki l D ids ad ca yX11_weightsOf cX11_weightsOf 4 .int 0 0 [.ref (ad 0), .int x1] σ (fun r σ1 => r = r0 ∧ σ1 = s0) := by
  obtain ⟨R, hR⟩ : ∃ R, (r0, s0) = R := ⟨_, rfl⟩
  replace h := h.trans (congrArg some hR)
  refine Ki.of (by decide) (Nat.le_of_ble_eq_true rfl) 2 (fun Γ C Rt => ?_)
  show AW ids ad ca Γ 0 [some (.ref (ad 0)), some (.int x1), none, none] [] σ
  unfold f_X11_weightsOf at h
  have j36 : ∀ (k4 : Int32 → Int32 → Int32 → HS → Option (Int32 × HS)) (hk4 : ∀ (y1 : Int32) (y2 : Int32) (y3 : Int32) (σ : HS), k4 y1 y2 y3 σ = some R → AW ids ad ca Γ 4 [some (.ref (ad 0)), some (.int y1), some (.int y2), some (.int y3)] [] σ) (y1 : Int32) (y2 : Int32) (y3 : Int32) (σ : HS), f_X11_weightsOf_36 k4 y1 y2 y3 σ = some R → AW ids ad ca Γ 36 [some (.ref (ad 0)), some (.int y1), some (.int y2), some (.int y3)] [] σ := by
    intro k4 hk4 y1 y2 y3 σ h
    unfold f_X11_weightsOf_36 at h
    refine p_iinc C (y := (y3 + 1)) (fun z1 => [some (.ref (ad 0)), some (.int y1), some (.int y2), some (.int z1)]) dX11_weightsOf_36 rfl rfl (by decide) rfl (fun _ => rfl) h (fun z1 h => ?_)
    refine a_goto C dX11_weightsOf_39 (tgt := 4) rfl ?_
    exact hk4 _ _ _ _ h
  have j4 : ∀ (n : Nat) (y1 : Int32) (y2 : Int32) (y3 : Int32) (σ : HS), f_X11_weightsOf_4 n y1 y2 y3 σ = some R → AW ids ad ca Γ 4 [some (.ref (ad 0)), some (.int y1), some (.int y2), some (.int y3)] [] σ := by
    intro n
    induction n with
    | zero => intro y1 y2 y3 σ h; exact nn h
    | succ n ih =>
      intro y1 y2 y3 σ h
      have h : b_X11_weightsOf_4 (f_X11_weightsOf_4 n) y1 y2 y3 σ = some R := h
      unfold b_X11_weightsOf_4 at h
      refine a_iload_n C dX11_weightsOf_4 (i := 3) rfl rfl ?_
      refine a_aload_n C dX11_weightsOf_5 (i := 0) rfl rfl ?_
      refine p_getT C fl_RX11_82 (tx := (σ.2.2 0)) kd_0 (hid 0 (by decide)) (fun t e => by subst e; rfl) dX11_weightsOf_6 h (fun ht1 h => ?_)
      refine a_get C fl_RX11_168 (i := ((σ.2.2 0))) ht1.1.1 (hid _ ht1.1.2) (v := .int (σ.1 ((σ.2.2 0)) 0)) rfl dX11_weightsOf_9 ?_
      refine p_ic_ge C (X := y3.toInt) (Y := (σ.1 ((σ.2.2 0)) 0).toInt) rfl rfl dX11_weightsOf_12 (tgt := 42) rfl h (fun h => ?_) (fun h => ?_)
      ·
        refine a_iload_n C dX11_weightsOf_42 (i := 2) rfl rfl ?_
        exact a_iret Rt dX11_weightsOf_43 rfl (ret_eq (h.trans (congrArg some hR.symm)))
      ·
        refine a_iload_n C dX11_weightsOf_15 (i := 1) rfl rfl ?_
        refine a_iload_n C dX11_weightsOf_16 (i := 3) rfl rfl ?_
        refine a_ishr C dX11_weightsOf_17 ?_
        refine a_iconst C dX11_weightsOf_18 (v := 1) rfl ?_
        refine a_iand C dX11_weightsOf_19 ?_
        refine a_iconst C dX11_weightsOf_20 (v := 1) rfl ?_
        refine p_ic_ne C (X := ((y1 >>> (y3 &&& 31)) &&& (1 : Int32)).toInt) (Y := 1) rfl (by decide) dX11_weightsOf_21 (tgt := 36) rfl h (fun h => ?_) (fun h => ?_)
        ·
          exact j36 (f_X11_weightsOf_4 n) (fun y1 y2 y3 σ h => ih y1 y2 y3 σ h) _ _ _ _ h
        ·
          refine a_iload_n C dX11_weightsOf_24 (i := 2) rfl rfl ?_
          refine a_aload_n C dX11_weightsOf_25 (i := 0) rfl rfl ?_
          refine p_getT C fl_RX11_82 (tx := (σ.2.2 0)) kd_0 (hid 0 (by decide)) (fun t e => by subst e; rfl) dX11_weightsOf_26 h (fun ht2 h => ?_)
          refine a_get C fl_RX11_125 (i := ((σ.2.2 0))) ht2.1.1 (hid _ ht2.1.2) (v := .ref (ad ((σ.2.2 0) + 1))) rfl dX11_weightsOf_29 ?_
          refine a_iload_n C dX11_weightsOf_32 (i := 3) rfl rfl ?_
          refine p_iald C (i := ((σ.2.2 0) + 1)) ht2.2.1.1 hid (by rw [ht2.2.1.2]; rfl) dX11_weightsOf_33 h (fun h => ?_)
          refine a_iadd C dX11_weightsOf_34 ?_
          refine p_istore_n C (fun z3 => [some (.ref (ad 0)), some (.int y1), some (.int z3), some (.int y3)]) dX11_weightsOf_35 (i := 2) rfl (by decide) rfl (fun _ => rfl) h (fun z3 h => ?_)
          exact j36 (f_X11_weightsOf_4 n) (fun y1 y2 y3 σ h => ih y1 y2 y3 σ h) _ _ _ _ h
  refine a_iconst C dX11_weightsOf_0 (v := 0) rfl ?_
  refine a_istore_n C dX11_weightsOf_1 (i := 2) rfl (by decide) rfl (vs1 := [some (.ref (ad 0)), some (.int x1), some (.int 0), none]) rfl ?_
  refine a_iconst C dX11_weightsOf_2 (v := 0) rfl ?_
  refine a_istore_n C dX11_weightsOf_3 (i := 3) rfl (by decide) rfl (vs1 := [some (.ref (ad 0)), some (.int x1), some (.int 0), some (.int 0)]) rfl ?_
  exact j4 _ _ _ _ _ h

set_option maxHeartbeats 4000000 in
set_option maxRecDepth 100000 in
theorem Z_X11_count {l : Launch} {D : va_G} {ids : List Nat} {ad : Nat → Nat} {ca : Nat → ClassId} {σ : HS} {x1 : Int32} {r0 : Int32} {s0 : HS} (hid : ∀ i, i < 277 → i ∈ ids) (h : f_X11_count x1 σ = some (r0, s0)) : Ki l D ids ad ca yX11_count cX11_count 2 .int 2 43 [.ref (ad 0), .int x1] σ (fun r σ1 => r = r0 ∧ σ1 = s0) := by
  obtain ⟨R, hR⟩ : ∃ R, (r0, s0) = R := ⟨_, rfl⟩
  replace h := h.trans (congrArg some hR)
  refine Ki.of (by decide) (Nat.le_of_ble_eq_true rfl) 0 (fun Γ C Rt => ?_)
  show AW ids ad ca Γ 0 [some (.ref (ad 0)), some (.int x1)] [] σ
  unfold f_X11_count at h
  refine a_iload_n C dX11_count_0 (i := 1) rfl rfl ?_
  refine ite_k h (fun c1 h => ?_) (fun c1 h => ?_)
  ·
    refine a_tableIn C dX11_count_1 (by omega) (by omega) (by rw [c1]; rfl) (tgt := 88) rfl ?_
    refine a_aload_n C dX11_count_88 (i := 0) rfl rfl ?_
    refine p_getT C fl_RX11_82 (tx := (σ.2.2 0)) kd_0 (hid 0 (by decide)) (fun t e => by subst e; rfl) dX11_count_89 h (fun ht1 h => ?_)
    refine a_get C fl_RX11_168 (i := ((σ.2.2 0))) ht1.1.1 (hid _ ht1.1.2) (v := .int (σ.1 ((σ.2.2 0)) 0)) rfl dX11_count_92 ?_
    exact a_iret Rt dX11_count_95 rfl (ret_eq (h.trans (congrArg some hR.symm)))
  ·
    refine ite_k h (fun c2 h => ?_) (fun c2 h => ?_)
    ·
      refine a_tableIn C dX11_count_1 (by omega) (by omega) (by rw [c2]; rfl) (tgt := 96) rfl ?_
      refine a_aload_n C dX11_count_96 (i := 0) rfl rfl ?_
      refine p_getT C fl_RX11_82 (tx := (σ.2.2 0)) kd_0 (hid 0 (by decide)) (fun t e => by subst e; rfl) dX11_count_97 h (fun ht2 h => ?_)
      refine a_get C fl_RX11_171 (i := ((σ.2.2 0))) ht2.1.1 (hid _ ht2.1.2) (v := .int (σ.1 ((σ.2.2 0)) 4)) rfl dX11_count_100 ?_
      exact a_iret Rt dX11_count_103 rfl (ret_eq (h.trans (congrArg some hR.symm)))
    ·
      refine ite_k h (fun c3 h => ?_) (fun c3 h => ?_)
      ·
        refine a_tableIn C dX11_count_1 (by omega) (by omega) (by rw [c3]; rfl) (tgt := 104) rfl ?_
        refine a_aload_n C dX11_count_104 (i := 0) rfl rfl ?_
        refine a_get C fl_RX11_54 (i := 0) kd_0 (hid 0 (by decide)) (v := .ref (ad 56)) rfl dX11_count_105 ?_
        refine a_get C fl_RX11_174 (i := 56) (show airOK 56 from airOK_of 0 (by decide)).1.1 (hid _ (show airOK 56 from airOK_of 0 (by decide)).1.2) (v := .int (σ.1 56 4)) rfl dX11_count_108 ?_
        exact a_iret Rt dX11_count_111 rfl (ret_eq (h.trans (congrArg some hR.symm)))
      ·
        refine ite_k h (fun c4 h => ?_) (fun c4 h => ?_)
        ·
          refine a_tableIn C dX11_count_1 (by omega) (by omega) (by rw [c4]; rfl) (tgt := 112) rfl ?_
          refine a_aload_n C dX11_count_112 (i := 0) rfl rfl ?_
          refine a_get C fl_RX11_54 (i := 0) kd_0 (hid 0 (by decide)) (v := .ref (ad 56)) rfl dX11_count_113 ?_
          refine a_get C fl_RX11_177 (i := 56) (show airOK 56 from airOK_of 0 (by decide)).1.1 (hid _ (show airOK 56 from airOK_of 0 (by decide)).1.2) (v := .int (σ.1 56 5)) rfl dX11_count_116 ?_
          exact a_iret Rt dX11_count_119 rfl (ret_eq (h.trans (congrArg some hR.symm)))
        ·
          refine ite_k h (fun c5 h => ?_) (fun c5 h => ?_)
          ·
            refine a_tableIn C dX11_count_1 (by omega) (by omega) (by rw [c5]; rfl) (tgt := 120) rfl ?_
            refine a_aload_n C dX11_count_120 (i := 0) rfl rfl ?_
            refine a_get C fl_RX11_54 (i := 0) kd_0 (hid 0 (by decide)) (v := .ref (ad 56)) rfl dX11_count_121 ?_
            refine a_iconst C dX11_count_124 (v := 0) rfl ?_
            refine p_callVi C (As := [.int 0]) (i := 56) (show airOK 56 from airOK_of 0 (by decide)).1.1 (hid _ (show airOK 56 from airOK_of 0 (by decide)).1.2) ⟨_, _, rfl⟩ (by decide) h (fun _ _ e => Z_X0_bitsOf hid (show airOK 56 from airOK_of 0 (by decide)) e) mi_X0_bitsOf ml_RX11_180 rfl rfl (Nat.le_of_ble_eq_true rfl) (Nat.le_of_ble_eq_true rfl) (Nat.le_of_ble_eq_true rfl) dX11_count_125 (fun r4 σ3 h => ?_)
            exact a_iret Rt dX11_count_128 rfl (ret_eq (h.trans (congrArg some hR.symm)))
          ·
            refine ite_k h (fun c6 h => ?_) (fun c6 h => ?_)
            ·
              refine a_tableIn C dX11_count_1 (by omega) (by omega) (by rw [c6]; rfl) (tgt := 129) rfl ?_
              refine a_aload_n C dX11_count_129 (i := 0) rfl rfl ?_
              refine a_get C fl_RX11_54 (i := 0) kd_0 (hid 0 (by decide)) (v := .ref (ad 56)) rfl dX11_count_130 ?_
              refine a_iconst C dX11_count_133 (v := 2) rfl ?_
              refine p_callVi C (As := [.int 2]) (i := 56) (show airOK 56 from airOK_of 0 (by decide)).1.1 (hid _ (show airOK 56 from airOK_of 0 (by decide)).1.2) ⟨_, _, rfl⟩ (by decide) h (fun _ _ e => Z_X0_bitsOf hid (show airOK 56 from airOK_of 0 (by decide)) e) mi_X0_bitsOf ml_RX11_180 rfl rfl (Nat.le_of_ble_eq_true rfl) (Nat.le_of_ble_eq_true rfl) (Nat.le_of_ble_eq_true rfl) dX11_count_134 (fun r6 σ5 h => ?_)
              exact a_iret Rt dX11_count_137 rfl (ret_eq (h.trans (congrArg some hR.symm)))
            ·
              refine ite_k h (fun c7 h => ?_) (fun c7 h => ?_)
              ·
                refine a_tableIn C dX11_count_1 (by omega) (by omega) (by rw [c7]; rfl) (tgt := 138) rfl ?_
                refine a_aload_n C dX11_count_138 (i := 0) rfl rfl ?_
                refine a_get C fl_RX11_54 (i := 0) kd_0 (hid 0 (by decide)) (v := .ref (ad 56)) rfl dX11_count_139 ?_
                refine a_get C fl_RX11_184 (i := 56) (show airOK 56 from airOK_of 0 (by decide)).1.1 (hid _ (show airOK 56 from airOK_of 0 (by decide)).1.2) (v := .int (σ.1 56 6)) rfl dX11_count_142 ?_
                exact a_iret Rt dX11_count_145 rfl (ret_eq (h.trans (congrArg some hR.symm)))
              ·
                refine ite_k h (fun c8 h => ?_) (fun c8 h => ?_)
                ·
                  refine a_tableIn C dX11_count_1 (by omega) (by omega) (by rw [c8]; rfl) (tgt := 146) rfl ?_
                  refine a_aload_n C dX11_count_146 (i := 0) rfl rfl ?_
                  refine a_get C fl_RX11_54 (i := 0) kd_0 (hid 0 (by decide)) (v := .ref (ad 56)) rfl dX11_count_147 ?_
                  refine a_get C fl_RX11_187 (i := 56) (show airOK 56 from airOK_of 0 (by decide)).1.1 (hid _ (show airOK 56 from airOK_of 0 (by decide)).1.2) (v := .int (σ.1 56 7)) rfl dX11_count_150 ?_
                  exact a_iret Rt dX11_count_153 rfl (ret_eq (h.trans (congrArg some hR.symm)))
                ·
                  refine ite_k h (fun c9 h => ?_) (fun c9 h => ?_)
                  ·
                    refine a_tableIn C dX11_count_1 (by omega) (by omega) (by rw [c9]; rfl) (tgt := 154) rfl ?_
                    refine a_aload_n C dX11_count_154 (i := 0) rfl rfl ?_
                    refine a_get C fl_RX11_54 (i := 0) kd_0 (hid 0 (by decide)) (v := .ref (ad 56)) rfl dX11_count_155 ?_
                    refine a_get C fl_RX11_190 (i := 56) (show airOK 56 from airOK_of 0 (by decide)).1.1 (hid _ (show airOK 56 from airOK_of 0 (by decide)).1.2) (v := .int (σ.1 56 8)) rfl dX11_count_158 ?_
                    exact a_iret Rt dX11_count_161 rfl (ret_eq (h.trans (congrArg some hR.symm)))
                  ·
                    refine ite_k h (fun c10 h => ?_) (fun c10 h => ?_)
                    ·
                      refine a_tableIn C dX11_count_1 (by omega) (by omega) (by rw [c10]; rfl) (tgt := 162) rfl ?_
                      refine a_aload_n C dX11_count_162 (i := 0) rfl rfl ?_
                      refine a_get C fl_RX11_54 (i := 0) kd_0 (hid 0 (by decide)) (v := .ref (ad 56)) rfl dX11_count_163 ?_
                      refine a_get C fl_RX11_193 (i := 56) (show airOK 56 from airOK_of 0 (by decide)).1.1 (hid _ (show airOK 56 from airOK_of 0 (by decide)).1.2) (v := .int (σ.1 56 9)) rfl dX11_count_166 ?_
                      refine a_iconst C dX11_count_169 (v := (-1)) rfl ?_
                      refine p_ic_ne C (X := (σ.1 56 9).toInt) (Y := (-1)) rfl (by decide) dX11_count_170 (tgt := 178) rfl h (fun h => ?_) (fun h => ?_)
                      ·
                        refine a_aload_n C dX11_count_178 (i := 0) rfl rfl ?_
                        refine a_get C fl_RX11_54 (i := 0) kd_0 (hid 0 (by decide)) (v := .ref (ad 56)) rfl dX11_count_179 ?_
                        refine a_get C fl_RX11_193 (i := 56) (show airOK 56 from airOK_of 0 (by decide)).1.1 (hid _ (show airOK 56 from airOK_of 0 (by decide)).1.2) (v := .int (σ.1 56 9)) rfl dX11_count_182 ?_
                        exact a_iret Rt dX11_count_185 rfl (ret_eq (h.trans (congrArg some hR.symm)))
                      ·
                        refine a_bipush C dX11_count_173 (v := (-2)) rfl ?_
                        refine a_goto C dX11_count_175 (tgt := 185) rfl ?_
                        exact a_iret Rt dX11_count_185 rfl (ret_eq (h.trans (congrArg some hR.symm)))
                    ·
                      refine ite_k h (fun c11 h => ?_) (fun c11 h => ?_)
                      ·
                        refine a_tableIn C dX11_count_1 (by omega) (by omega) (by rw [c11]; rfl) (tgt := 186) rfl ?_
                        refine a_aload_n C dX11_count_186 (i := 0) rfl rfl ?_
                        refine a_get C fl_RX11_54 (i := 0) kd_0 (hid 0 (by decide)) (v := .ref (ad 56)) rfl dX11_count_187 ?_
                        refine a_aload_n C dX11_count_190 (i := 0) rfl rfl ?_
                        refine p_getT C fl_RX11_82 (tx := (σ.2.2 0)) kd_0 (hid 0 (by decide)) (fun t e => by subst e; rfl) dX11_count_191 h (fun ht7 h => ?_)
                        refine p_callVi C (As := [.ref (ad ((σ.2.2 0)))]) (i := 56) (show airOK 56 from airOK_of 0 (by decide)).1.1 (hid _ (show airOK 56 from airOK_of 0 (by decide)).1.2) ⟨_, _, rfl⟩ (by decide) h (fun _ _ e => Z_X0_heightBy hid (show airOK 56 from airOK_of 0 (by decide)) ht7 e) mi_X0_heightBy ml_RX11_196 rfl rfl (Nat.le_of_ble_eq_true rfl) (Nat.le_of_ble_eq_true rfl) (Nat.le_of_ble_eq_true rfl) dX11_count_194 (fun r9 σ8 h => ?_)
                        exact a_iret Rt dX11_count_197 rfl (ret_eq (h.trans (congrArg some hR.symm)))
                      ·
                        refine ite_k h (fun c12 h => ?_) (fun c12 h => ?_)
                        ·
                          refine a_tableIn C dX11_count_1 (by omega) (by omega) (by rw [c12]; rfl) (tgt := 198) rfl ?_
                          refine a_aload_n C dX11_count_198 (i := 0) rfl rfl ?_
                          refine a_get C fl_RX11_10 (i := 0) kd_0 (hid 0 (by decide)) (v := .ref (ad 1)) rfl dX11_count_199 ?_
                          refine a_get C fl_RX11_89 (i := 1) kd_1 (hid 1 (by decide)) (v := .ref (ad 2)) rfl dX11_count_202 ?_
                          refine a_get C fl_RX11_93 (i := 2) kd_2 (hid 2 (by decide)) (v := .int (σ.1 2 1)) rfl dX11_count_205 ?_
                          exact a_iret Rt dX11_count_208 rfl (ret_eq (h.trans (congrArg some hR.symm)))
                        ·
                          refine ite_k h (fun c13 h => ?_) (fun c13 h => ?_)
                          ·
                            refine a_tableIn C dX11_count_1 (by omega) (by omega) (by rw [c13]; rfl) (tgt := 209) rfl ?_
                            refine a_aload_n C dX11_count_209 (i := 0) rfl rfl ?_
                            refine a_get C fl_RX11_26 (i := 0) kd_0 (hid 0 (by decide)) (v := .ref (ad 12)) rfl dX11_count_210 ?_
                            refine a_get C fl_RX11_199 (i := 12) kd_12 (hid 12 (by decide)) (v := .int (σ.1 12 2)) rfl dX11_count_213 ?_
                            exact a_iret Rt dX11_count_216 rfl (ret_eq (h.trans (congrArg some hR.symm)))
                          ·
                            refine ite_k h (fun c14 h => ?_) (fun c14 h => ?_)
                            ·
                              refine a_tableIn C dX11_count_1 (by omega) (by omega) (by rw [c14]; rfl) (tgt := 217) rfl ?_
                              refine a_aload_n C dX11_count_217 (i := 0) rfl rfl ?_
                              refine a_get C fl_RX11_33 (i := 0) kd_0 (hid 0 (by decide)) (v := .ref (ad 14)) rfl dX11_count_218 ?_
                              refine a_get C fl_RX11_117 (i := 14) kd_14 (hid 14 (by decide)) (v := .int (σ.1 14 2)) rfl dX11_count_221 ?_
                              exact a_iret Rt dX11_count_224 rfl (ret_eq (h.trans (congrArg some hR.symm)))
                            ·
                              refine ite_k h (fun c15 h => ?_) (fun c15 h => ?_)
                              ·
                                refine a_tableIn C dX11_count_1 (by omega) (by omega) (by rw [c15]; rfl) (tgt := 225) rfl ?_
                                refine a_aload_n C dX11_count_225 (i := 0) rfl rfl ?_
                                refine p_callVi C (As := []) (i := 0) kd_0 (hid 0 (by decide)) ⟨_, _, rfl⟩ (by decide) h (fun _ _ e => Z_X11_slotsHeld hid e) mi_X11_slotsHeld ml_RX11_200 rfl rfl (Nat.le_of_ble_eq_true rfl) (Nat.le_of_ble_eq_true rfl) (Nat.le_of_ble_eq_true rfl) dX11_count_226 (fun r11 σ10 h => ?_)
                                exact a_iret Rt dX11_count_229 rfl (ret_eq (h.trans (congrArg some hR.symm)))
                              ·
                                refine ite_k h (fun c16 h => ?_) (fun c16 h => ?_)
                                ·
                                  refine a_tableIn C dX11_count_1 (by omega) (by omega) (by rw [c16]; rfl) (tgt := 230) rfl ?_
                                  refine a_aload_n C dX11_count_230 (i := 0) rfl rfl ?_
                                  refine a_aload_n C dX11_count_231 (i := 0) rfl rfl ?_
                                  refine a_get C fl_RX11_54 (i := 0) kd_0 (hid 0 (by decide)) (v := .ref (ad 56)) rfl dX11_count_232 ?_
                                  refine a_iconst C dX11_count_235 (v := 0) rfl ?_
                                  refine p_callVi C (As := [.int 0]) (i := 56) (show airOK 56 from airOK_of 0 (by decide)).1.1 (hid _ (show airOK 56 from airOK_of 0 (by decide)).1.2) ⟨_, _, rfl⟩ (by decide) h (fun _ _ e => Z_X0_bitsOf hid (show airOK 56 from airOK_of 0 (by decide)) e) mi_X0_bitsOf ml_RX11_180 rfl rfl (Nat.le_of_ble_eq_true rfl) (Nat.le_of_ble_eq_true rfl) (Nat.le_of_ble_eq_true rfl) dX11_count_236 (fun r13 σ12 h => ?_)
                                  refine p_callVi C (As := [.int r13]) (i := 0) kd_0 (hid 0 (by decide)) ⟨_, _, rfl⟩ (by decide) h (fun _ _ e => Z_X11_weightsOf hid e) mi_X11_weightsOf ml_RX11_203 rfl rfl (Nat.le_of_ble_eq_true rfl) (Nat.le_of_ble_eq_true rfl) (Nat.le_of_ble_eq_true rfl) dX11_count_239 (fun r15 σ14 h => ?_)
                                  exact a_iret Rt dX11_count_242 rfl (ret_eq (h.trans (congrArg some hR.symm)))
                                ·
                                  refine ite_k h (fun c17 h => ?_) (fun c17 h => ?_)
                                  ·
                                    refine a_tableIn C dX11_count_1 (by omega) (by omega) (by rw [c17]; rfl) (tgt := 243) rfl ?_
                                    refine a_aload_n C dX11_count_243 (i := 0) rfl rfl ?_
                                    refine a_aload_n C dX11_count_244 (i := 0) rfl rfl ?_
                                    refine a_get C fl_RX11_54 (i := 0) kd_0 (hid 0 (by decide)) (v := .ref (ad 56)) rfl dX11_count_245 ?_
                                    refine a_iconst C dX11_count_248 (v := 2) rfl ?_
                                    refine p_callVi C (As := [.int 2]) (i := 56) (show airOK 56 from airOK_of 0 (by decide)).1.1 (hid _ (show airOK 56 from airOK_of 0 (by decide)).1.2) ⟨_, _, rfl⟩ (by decide) h (fun _ _ e => Z_X0_bitsOf hid (show airOK 56 from airOK_of 0 (by decide)) e) mi_X0_bitsOf ml_RX11_180 rfl rfl (Nat.le_of_ble_eq_true rfl) (Nat.le_of_ble_eq_true rfl) (Nat.le_of_ble_eq_true rfl) dX11_count_249 (fun r17 σ16 h => ?_)
                                    refine p_callVi C (As := [.int r17]) (i := 0) kd_0 (hid 0 (by decide)) ⟨_, _, rfl⟩ (by decide) h (fun _ _ e => Z_X11_weightsOf hid e) mi_X11_weightsOf ml_RX11_203 rfl rfl (Nat.le_of_ble_eq_true rfl) (Nat.le_of_ble_eq_true rfl) (Nat.le_of_ble_eq_true rfl) dX11_count_252 (fun r19 σ18 h => ?_)
                                    exact a_iret Rt dX11_count_255 rfl (ret_eq (h.trans (congrArg some hR.symm)))
                                  ·
                                    refine ite_k h (fun c18 h => ?_) (fun c18 h => ?_)
                                    ·
                                      refine a_tableIn C dX11_count_1 (by omega) (by omega) (by rw [c18]; rfl) (tgt := 256) rfl ?_
                                      refine a_aload_n C dX11_count_256 (i := 0) rfl rfl ?_
                                      refine a_get C fl_RX11_54 (i := 0) kd_0 (hid 0 (by decide)) (v := .ref (ad 56)) rfl dX11_count_257 ?_
                                      refine a_iconst C dX11_count_260 (v := 1) rfl ?_
                                      refine p_callVi C (As := [.int 1]) (i := 56) (show airOK 56 from airOK_of 0 (by decide)).1.1 (hid _ (show airOK 56 from airOK_of 0 (by decide)).1.2) ⟨_, _, rfl⟩ (by decide) h (fun _ _ e => Z_X0_bitsOf hid (show airOK 56 from airOK_of 0 (by decide)) e) mi_X0_bitsOf ml_RX11_180 rfl rfl (Nat.le_of_ble_eq_true rfl) (Nat.le_of_ble_eq_true rfl) (Nat.le_of_ble_eq_true rfl) dX11_count_261 (fun r21 σ20 h => ?_)
                                      exact a_iret Rt dX11_count_264 rfl (ret_eq (h.trans (congrArg some hR.symm)))
                                    ·
                                      refine a_tableOut C dX11_count_1 (by omega) (tgt := 265) rfl ?_
                                      refine a_iconst C dX11_count_265 (v := (-1)) rfl ?_
                                      exact a_iret Rt dX11_count_266 rfl (ret_eq (h.trans (congrArg some hR.symm)))
set_option maxHeartbeats 4000000 in
set_option maxRecDepth 100000 in
theorem Z_X11_throwIn {l : Launch} {D : va_G} {ids : List Nat} {ad : Nat → Nat} {ca : Nat → ClassId} {σ : HS} {x1 : Int32} {x2 : Int32} {r0 : Int32} {s0 : HS} (hid : ∀ i, i < 277 → i ∈ ids) (h : f_X11_throwIn x1 x2 σ = some (r0, s0)) : Ki l D ids ad ca yX11_throwIn cX11_throwIn 3 .boolean 3 102 [.ref (ad 0), .int x1, .int x2] σ (fun r σ1 => r = r0 ∧ σ1 = s0) := by
  obtain ⟨R, hR⟩ : ∃ R, (r0, s0) = R := ⟨_, rfl⟩
  replace h := h.trans (congrArg some hR)
  refine Ki.of (by decide) (Nat.le_of_ble_eq_true rfl) 0 (fun Γ C Rt => ?_)
  show AW ids ad ca Γ 0 [some (.ref (ad 0)), some (.int x1), some (.int x2)] [] σ
  unfold f_X11_throwIn at h
  refine a_aload_n C dX11_throwIn_0 (i := 0) rfl rfl ?_
  refine p_getT C fl_RX11_82 (tx := (σ.2.2 0)) kd_0 (hid 0 (by decide)) (fun t e => by subst e; rfl) dX11_throwIn_1 h (fun ht1 h => ?_)
  refine a_iload_n C dX11_throwIn_4 (i := 1) rfl rfl ?_
  refine p_callVi C (As := [.int x1]) (i := ((σ.2.2 0))) ht1.1.1 (hid _ ht1.1.2) ⟨_, _, rfl⟩ (by decide) h (fun _ _ e => Z_X10_hasThing hid ht1 e) mi_X10_hasThing ml_RX11_121 rfl rfl (Nat.le_of_ble_eq_true rfl) (Nat.le_of_ble_eq_true rfl) (Nat.le_of_ble_eq_true rfl) dX11_throwIn_5 (fun r3 σ2 h => ?_)
  refine p_if_eq C (X := r3.toInt) rfl dX11_throwIn_8 (tgt := 29) rfl h (fun h => ?_) (fun h => ?_)
  ·
    refine a_iconst C dX11_throwIn_29 (v := 0) rfl ?_
    exact a_iret Rt dX11_throwIn_30 (nar_z (by decide)).1 (ret_eq (h.trans (congrArg some hR.symm)))
  ·
    refine a_aload_n C dX11_throwIn_11 (i := 0) rfl rfl ?_
    refine a_get C fl_RX11_54 (i := 0) kd_0 (hid 0 (by decide)) (v := .ref (ad 56)) rfl dX11_throwIn_12 ?_
    refine a_iload_n C dX11_throwIn_15 (i := 1) rfl rfl ?_
    refine p_callVi C (As := [.int x1]) (i := 56) (show airOK 56 from airOK_of 0 (by decide)).1.1 (hid _ (show airOK 56 from airOK_of 0 (by decide)).1.2) ⟨_, _, rfl⟩ (by decide) h (fun _ _ e => Z_X0_isUp hid (show airOK 56 from airOK_of 0 (by decide)) e) mi_X0_isUp ml_RX11_134 rfl rfl (Nat.le_of_ble_eq_true rfl) (Nat.le_of_ble_eq_true rfl) (Nat.le_of_ble_eq_true rfl) dX11_throwIn_16 (fun r5 σ4 h => ?_)
    refine p_if_ne C (X := r5.toInt) rfl dX11_throwIn_19 (tgt := 29) rfl h (fun h => ?_) (fun h => ?_)
    ·
      refine a_iconst C dX11_throwIn_29 (v := 0) rfl ?_
      exact a_iret Rt dX11_throwIn_30 (nar_z (by decide)).1 (ret_eq (h.trans (congrArg some hR.symm)))
    ·
      refine a_iload_n C dX11_throwIn_22 (i := 2) rfl rfl ?_
      refine p_callSi C (As := [.int x2]) h (fun _ _ e => Z_X11_isHeight hid e) ms_X11_isHeight ml_RX11_153 rfl rfl (Nat.le_of_ble_eq_true rfl) (Nat.le_of_ble_eq_true rfl) (Nat.le_of_ble_eq_true rfl) dX11_throwIn_23 (fun r7 σ6 h => ?_)
      refine p_if_ne C (X := r7.toInt) rfl dX11_throwIn_26 (tgt := 31) rfl h (fun h => ?_) (fun h => ?_)
      ·
        refine a_aload_n C dX11_throwIn_31 (i := 0) rfl rfl ?_
        refine a_get C fl_RX11_26 (i := 0) kd_0 (hid 0 (by decide)) (v := .ref (ad 12)) rfl dX11_throwIn_32 ?_
        refine a_aload_n C dX11_throwIn_35 (i := 0) rfl rfl ?_
        refine a_get C fl_RX11_54 (i := 0) kd_0 (hid 0 (by decide)) (v := .ref (ad 56)) rfl dX11_throwIn_36 ?_
        refine p_callVv C (As := [.ref (ad 56)]) (i := 12) kd_12 (hid 12 (by decide)) ⟨_, _, rfl⟩ (by decide) h (fun _ e => Z_X5_keep hid (show airOK 56 from airOK_of 0 (by decide)) e) mi_X5_keep ml_RX11_206 rfl rfl (Nat.le_of_ble_eq_true rfl) (Nat.le_of_ble_eq_true rfl) (Nat.le_of_ble_eq_true rfl) dX11_throwIn_39 (fun σ8 h => ?_)
        refine a_aload_n C dX11_throwIn_42 (i := 0) rfl rfl ?_
        refine a_get C fl_RX11_54 (i := 0) kd_0 (hid 0 (by decide)) (v := .ref (ad 56)) rfl dX11_throwIn_43 ?_
        refine a_iload_n C dX11_throwIn_46 (i := 1) rfl rfl ?_
        refine a_iload_n C dX11_throwIn_47 (i := 2) rfl rfl ?_
        refine p_callVv C (As := [.int x1, .int x2]) (i := 56) (show airOK 56 from airOK_of 0 (by decide)).1.1 (hid _ (show airOK 56 from airOK_of 0 (by decide)).1.2) ⟨_, _, rfl⟩ (by decide) h (fun _ e => Z_X0_putUp hid (show airOK 56 from airOK_of 0 (by decide)) e) mi_X0_putUp ml_RX11_210 rfl rfl (Nat.le_of_ble_eq_true rfl) (Nat.le_of_ble_eq_true rfl) (Nat.le_of_ble_eq_true rfl) dX11_throwIn_48 (fun σ10 h => ?_)
        refine a_iconst C dX11_throwIn_51 (v := 1) rfl ?_
        exact a_iret Rt dX11_throwIn_52 (nar_z (by decide)).1 (ret_eq (h.trans (congrArg some hR.symm)))
      ·
        refine a_iconst C dX11_throwIn_29 (v := 0) rfl ?_
        exact a_iret Rt dX11_throwIn_30 (nar_z (by decide)).1 (ret_eq (h.trans (congrArg some hR.symm)))
set_option maxHeartbeats 4000000 in
set_option maxRecDepth 100000 in
theorem Z_X11_use {l : Launch} {D : va_G} {ids : List Nat} {ad : Nat → Nat} {ca : Nat → ClassId} {σ : HS} {x1 : Int32} {r0 : Int32} {s0 : HS} (hid : ∀ i, i < 277 → i ∈ ids) (h : f_X11_use x1 σ = some (r0, s0)) : Ki l D ids ad ca yX11_use cX11_use 2 .boolean 3 102 [.ref (ad 0), .int x1] σ (fun r σ1 => r = r0 ∧ σ1 = s0) := by
  obtain ⟨R, hR⟩ : ∃ R, (r0, s0) = R := ⟨_, rfl⟩
  replace h := h.trans (congrArg some hR)
  refine Ki.of (by decide) (Nat.le_of_ble_eq_true rfl) 0 (fun Γ C Rt => ?_)
  show AW ids ad ca Γ 0 [some (.ref (ad 0)), some (.int x1)] [] σ
  unfold f_X11_use at h
  refine a_aload_n C dX11_use_0 (i := 0) rfl rfl ?_
  refine p_getT C fl_RX11_82 (tx := (σ.2.2 0)) kd_0 (hid 0 (by decide)) (fun t e => by subst e; rfl) dX11_use_1 h (fun ht1 h => ?_)
  refine a_iload_n C dX11_use_4 (i := 1) rfl rfl ?_
  refine p_callVi C (As := [.int x1]) (i := ((σ.2.2 0))) ht1.1.1 (hid _ ht1.1.2) ⟨_, _, rfl⟩ (by decide) h (fun _ _ e => Z_X10_hasPattern hid ht1 e) mi_X10_hasPattern ml_RX11_143 rfl rfl (Nat.le_of_ble_eq_true rfl) (Nat.le_of_ble_eq_true rfl) (Nat.le_of_ble_eq_true rfl) dX11_use_5 (fun r3 σ2 h => ?_)
  refine p_if_ne C (X := r3.toInt) rfl dX11_use_8 (tgt := 13) rfl h (fun h => ?_) (fun h => ?_)
  ·
    refine a_aload_n C dX11_use_13 (i := 0) rfl rfl ?_
    refine a_get C fl_RX11_26 (i := 0) kd_0 (hid 0 (by decide)) (v := .ref (ad 12)) rfl dX11_use_14 ?_
    refine a_aload_n C dX11_use_17 (i := 0) rfl rfl ?_
    refine a_get C fl_RX11_54 (i := 0) kd_0 (hid 0 (by decide)) (v := .ref (ad 56)) rfl dX11_use_18 ?_
    refine p_callVv C (As := [.ref (ad 56)]) (i := 12) kd_12 (hid 12 (by decide)) ⟨_, _, rfl⟩ (by decide) h (fun _ e => Z_X5_keep hid (show airOK 56 from airOK_of 0 (by decide)) e) mi_X5_keep ml_RX11_206 rfl rfl (Nat.le_of_ble_eq_true rfl) (Nat.le_of_ble_eq_true rfl) (Nat.le_of_ble_eq_true rfl) dX11_use_21 (fun σ4 h => ?_)
    refine a_aload_n C dX11_use_24 (i := 0) rfl rfl ?_
    refine a_get C fl_RX11_54 (i := 0) kd_0 (hid 0 (by decide)) (v := .ref (ad 56)) rfl dX11_use_25 ?_
    refine a_iload_n C dX11_use_28 (i := 1) rfl rfl ?_
    refine p_callVv C (As := [.int x1]) (i := 56) (show airOK 56 from airOK_of 0 (by decide)).1.1 (hid _ (show airOK 56 from airOK_of 0 (by decide)).1.2) ⟨_, _, rfl⟩ (by decide) h (fun _ e => Z_X0_takeUp hid (show airOK 56 from airOK_of 0 (by decide)) e) mi_X0_takeUp ml_RX11_214 rfl rfl (Nat.le_of_ble_eq_true rfl) (Nat.le_of_ble_eq_true rfl) (Nat.le_of_ble_eq_true rfl) dX11_use_29 (fun σ6 h => ?_)
    refine a_iconst C dX11_use_32 (v := 1) rfl ?_
    exact a_iret Rt dX11_use_33 (nar_z (by decide)).1 (ret_eq (h.trans (congrArg some hR.symm)))
  ·
    refine a_iconst C dX11_use_11 (v := 0) rfl ?_
    exact a_iret Rt dX11_use_12 (nar_z (by decide)).1 (ret_eq (h.trans (congrArg some hR.symm)))
set_option maxHeartbeats 4000000 in
set_option maxRecDepth 100000 in
theorem Z_X11_set {l : Launch} {D : va_G} {ids : List Nat} {ad : Nat → Nat} {ca : Nat → ClassId} {σ : HS} {x1 : Int32} {r0 : Int32} {s0 : HS} (hid : ∀ i, i < 277 → i ∈ ids) (h : f_X11_set x1 σ = some (r0, s0)) : Ki l D ids ad ca yX11_set cX11_set 2 .boolean 3 102 [.ref (ad 0), .int x1] σ (fun r σ1 => r = r0 ∧ σ1 = s0) := by
  obtain ⟨R, hR⟩ : ∃ R, (r0, s0) = R := ⟨_, rfl⟩
  replace h := h.trans (congrArg some hR)
  refine Ki.of (by decide) (Nat.le_of_ble_eq_true rfl) 0 (fun Γ C Rt => ?_)
  show AW ids ad ca Γ 0 [some (.ref (ad 0)), some (.int x1)] [] σ
  unfold f_X11_set at h
  refine a_iload_n C dX11_set_0 (i := 1) rfl rfl ?_
  refine p_callSi C (As := [.int x1]) h (fun _ _ e => Z_X11_isHeight hid e) ms_X11_isHeight ml_RX11_153 rfl rfl (Nat.le_of_ble_eq_true rfl) (Nat.le_of_ble_eq_true rfl) (Nat.le_of_ble_eq_true rfl) dX11_set_1 (fun r2 σ1 h => ?_)
  refine p_if_eq C (X := r2.toInt) rfl dX11_set_4 (tgt := 18) rfl h (fun h => ?_) (fun h => ?_)
  ·
    refine a_iconst C dX11_set_18 (v := 0) rfl ?_
    exact a_iret Rt dX11_set_19 (nar_z (by decide)).1 (ret_eq (h.trans (congrArg some hR.symm)))
  ·
    refine a_aload_n C dX11_set_7 (i := 0) rfl rfl ?_
    refine a_get C fl_RX11_54 (i := 0) kd_0 (hid 0 (by decide)) (v := .ref (ad 56)) rfl dX11_set_8 ?_
    refine a_get C fl_RX11_217 (i := 56) (show airOK 56 from airOK_of 0 (by decide)).1.1 (hid _ (show airOK 56 from airOK_of 0 (by decide)).1.2) (v := .int (σ1.1 56 11)) rfl dX11_set_11 ?_
    refine a_iload_n C dX11_set_14 (i := 1) rfl rfl ?_
    refine p_ic_ne C (X := (σ1.1 56 11).toInt) (Y := x1.toInt) rfl rfl dX11_set_15 (tgt := 20) rfl h (fun h => ?_) (fun h => ?_)
    ·
      refine a_aload_n C dX11_set_20 (i := 0) rfl rfl ?_
      refine a_get C fl_RX11_26 (i := 0) kd_0 (hid 0 (by decide)) (v := .ref (ad 12)) rfl dX11_set_21 ?_
      refine a_aload_n C dX11_set_24 (i := 0) rfl rfl ?_
      refine a_get C fl_RX11_54 (i := 0) kd_0 (hid 0 (by decide)) (v := .ref (ad 56)) rfl dX11_set_25 ?_
      refine p_callVv C (As := [.ref (ad 56)]) (i := 12) kd_12 (hid 12 (by decide)) ⟨_, _, rfl⟩ (by decide) h (fun _ e => Z_X5_keep hid (show airOK 56 from airOK_of 0 (by decide)) e) mi_X5_keep ml_RX11_206 rfl rfl (Nat.le_of_ble_eq_true rfl) (Nat.le_of_ble_eq_true rfl) (Nat.le_of_ble_eq_true rfl) dX11_set_28 (fun σ3 h => ?_)
      refine a_aload_n C dX11_set_31 (i := 0) rfl rfl ?_
      refine a_get C fl_RX11_54 (i := 0) kd_0 (hid 0 (by decide)) (v := .ref (ad 56)) rfl dX11_set_32 ?_
      refine a_iload_n C dX11_set_35 (i := 1) rfl rfl ?_
      refine p_put C fp_RX11_217 (i := 56) (show airOK 56 from airOK_of 0 (by decide)).1.1 (hid _ (show airOK 56 from airOK_of 0 (by decide)).1.2) rfl rfl dX11_set_36 h (fun σ5 h => ?_)
      refine a_iconst C dX11_set_39 (v := 1) rfl ?_
      exact a_iret Rt dX11_set_40 (nar_z (by decide)).1 (ret_eq (h.trans (congrArg some hR.symm)))
    ·
      refine a_iconst C dX11_set_18 (v := 0) rfl ?_
      exact a_iret Rt dX11_set_19 (nar_z (by decide)).1 (ret_eq (h.trans (congrArg some hR.symm)))
set_option maxHeartbeats 4000000 in
set_option maxRecDepth 100000 in
theorem Z_X11_beats {l : Launch} {D : va_G} {ids : List Nat} {ad : Nat → Nat} {ca : Nat → ClassId} {σ : HS} {x1 : Int32} {r0 : Int32} {s0 : HS} (hid : ∀ i, i < 277 → i ∈ ids) (h : f_X11_beats x1 σ = some (r0, s0)) : Ki l D ids ad ca yX11_beats cX11_beats 2 .int 6 149 [.ref (ad 0), .int x1] σ (fun r σ1 => r = r0 ∧ σ1 = s0) := by
  obtain ⟨R, hR⟩ : ∃ R, (r0, s0) = R := ⟨_, rfl⟩
  replace h := h.trans (congrArg some hR)
  refine Ki.of (by decide) (Nat.le_of_ble_eq_true rfl) 0 (fun Γ C Rt => ?_)
  show AW ids ad ca Γ 0 [some (.ref (ad 0)), some (.int x1)] [] σ
  unfold f_X11_beats at h
  have j50 : ∀ (σ : HS), f_X11_beats_50 σ = some R → AW ids ad ca Γ 50 [some (.ref (ad 0)), none] [] σ := by
    intro σ h
    unfold f_X11_beats_50 at h
    refine a_aload_n C dX11_beats_50 (i := 0) rfl rfl ?_
    refine a_get C fl_RX11_54 (i := 0) kd_0 (hid 0 (by decide)) (v := .ref (ad 56)) rfl dX11_beats_51 ?_
    refine a_get C fl_RX11_174 (i := 56) (show airOK 56 from airOK_of 0 (by decide)).1.1 (hid _ (show airOK 56 from airOK_of 0 (by decide)).1.2) (v := .int (σ.1 56 4)) rfl dX11_beats_54 ?_
    exact a_iret Rt dX11_beats_57 rfl (ret_eq (h.trans (congrArg some hR.symm)))
  refine a_iload_n C dX11_beats_0 (i := 1) rfl rfl ?_
  refine p_if_lt C (X := x1.toInt) rfl dX11_beats_1 (tgt := 10) rfl h (fun h => ?_) (fun h => ?_)
  ·
    refine a_iconst C dX11_beats_10 (v := (-1)) rfl ?_
    exact a_iret Rt dX11_beats_11 rfl (ret_eq (h.trans (congrArg some hR.symm)))
  ·
    refine a_iload_n C dX11_beats_4 (i := 1) rfl rfl ?_
    refine a_bipush C dX11_beats_5 (v := 60) rfl ?_
    refine p_ic_le C (X := x1.toInt) (Y := 60) rfl (by decide) dX11_beats_7 (tgt := 12) rfl h (fun h => ?_) (fun h => ?_)
    ·
      refine a_iload_n C dX11_beats_12 (i := 1) rfl rfl ?_
      refine p_if_le C (X := x1.toInt) rfl dX11_beats_13 (tgt := 50) rfl h (fun h => ?_) (fun h => ?_)
      ·
        refine AW.sub (vs' := [some (.ref (ad 0)), none]) (lsub_of (by simp [lsubB])) ?_
        exact j50 _ h
      ·
        refine a_aload_n C dX11_beats_16 (i := 0) rfl rfl ?_
        refine a_get C fl_RX11_26 (i := 0) kd_0 (hid 0 (by decide)) (v := .ref (ad 12)) rfl dX11_beats_17 ?_
        refine a_aload_n C dX11_beats_20 (i := 0) rfl rfl ?_
        refine a_get C fl_RX11_54 (i := 0) kd_0 (hid 0 (by decide)) (v := .ref (ad 56)) rfl dX11_beats_21 ?_
        refine p_callVv C (As := [.ref (ad 56)]) (i := 12) kd_12 (hid 12 (by decide)) ⟨_, _, rfl⟩ (by decide) h (fun _ e => Z_X5_keep hid (show airOK 56 from airOK_of 0 (by decide)) e) mi_X5_keep ml_RX11_206 rfl rfl (Nat.le_of_ble_eq_true rfl) (Nat.le_of_ble_eq_true rfl) (Nat.le_of_ble_eq_true rfl) dX11_beats_24 (fun σ1 h => ?_)
        refine a_aload_n C dX11_beats_27 (i := 0) rfl rfl ?_
        refine a_get C fl_RX11_19 (i := 0) kd_0 (hid 0 (by decide)) (v := .ref (ad 8)) rfl dX11_beats_28 ?_
        refine a_aload_n C dX11_beats_31 (i := 0) rfl rfl ?_
        refine p_getT C fl_RX11_82 (tx := (σ1.2.2 0)) kd_0 (hid 0 (by decide)) (fun t e => by subst e; rfl) dX11_beats_32 h (fun ht3 h => ?_)
        refine a_aload_n C dX11_beats_35 (i := 0) rfl rfl ?_
        refine a_get C fl_RX11_54 (i := 0) kd_0 (hid 0 (by decide)) (v := .ref (ad 56)) rfl dX11_beats_36 ?_
        refine a_iload_n C dX11_beats_39 (i := 1) rfl rfl ?_
        refine a_aload_n C dX11_beats_40 (i := 0) rfl rfl ?_
        refine p_getT C fl_RX11_82 (tx := (σ1.2.2 0)) kd_0 (hid 0 (by decide)) (fun t e => by subst e; rfl) dX11_beats_41 h (fun ht4 h => ?_)
        refine a_get C fl_RX11_220 (i := ((σ1.2.2 0))) ht4.1.1 (hid _ ht4.1.2) (v := .int (σ1.1 ((σ1.2.2 0)) 11)) rfl dX11_beats_44 ?_
        refine p_callVv C (As := [.ref (ad ((σ1.2.2 0))), .ref (ad 56), .int x1, .int (σ1.1 ((σ1.2.2 0)) 11)]) (i := 8) kd_8 (hid 8 (by decide)) ⟨_, _, rfl⟩ (by decide) h (fun _ e => Z_X4_goOn hid ht3 (show airOK 56 from airOK_of 0 (by decide)) e) mi_X4_goOn ml_RX11_223 rfl rfl (Nat.le_of_ble_eq_true rfl) (Nat.le_of_ble_eq_true rfl) (Nat.le_of_ble_eq_true rfl) dX11_beats_47 (fun σ5 h => ?_)
        refine AW.sub (vs' := [some (.ref (ad 0)), none]) (lsub_of (by simp [lsubB])) ?_
        exact j50 _ h
    ·
      refine a_iconst C dX11_beats_10 (v := (-1)) rfl ?_
      exact a_iret Rt dX11_beats_11 rfl (ret_eq (h.trans (congrArg some hR.symm)))
set_option maxHeartbeats 4000000 in
set_option maxRecDepth 100000 in
theorem Z_X11_undo {l : Launch} {D : va_G} {ids : List Nat} {ad : Nat → Nat} {ca : Nat → ClassId} {σ : HS} {r0 : Int32} {s0 : HS} (hid : ∀ i, i < 277 → i ∈ ids) (h : f_X11_undo σ = some (r0, s0)) : Ki l D ids ad ca yX11_undo cX11_undo 1 .boolean 3 102 [.ref (ad 0)] σ (fun r σ1 => r = r0 ∧ σ1 = s0) := by
  obtain ⟨R, hR⟩ : ∃ R, (r0, s0) = R := ⟨_, rfl⟩
  replace h := h.trans (congrArg some hR)
  refine Ki.of (by decide) (Nat.le_of_ble_eq_true rfl) 0 (fun Γ C Rt => ?_)
  show AW ids ad ca Γ 0 [some (.ref (ad 0))] [] σ
  unfold f_X11_undo at h
  refine a_aload_n C dX11_undo_0 (i := 0) rfl rfl ?_
  refine a_get C fl_RX11_26 (i := 0) kd_0 (hid 0 (by decide)) (v := .ref (ad 12)) rfl dX11_undo_1 ?_
  refine a_aload_n C dX11_undo_4 (i := 0) rfl rfl ?_
  refine a_get C fl_RX11_54 (i := 0) kd_0 (hid 0 (by decide)) (v := .ref (ad 56)) rfl dX11_undo_5 ?_
  refine p_callVi C (As := [.ref (ad 56)]) (i := 12) kd_12 (hid 12 (by decide)) ⟨_, _, rfl⟩ (by decide) h (fun _ _ e => Z_X5_giveBack hid (show airOK 56 from airOK_of 0 (by decide)) e) mi_X5_giveBack ml_RX11_226 rfl rfl (Nat.le_of_ble_eq_true rfl) (Nat.le_of_ble_eq_true rfl) (Nat.le_of_ble_eq_true rfl) dX11_undo_8 (fun r2 σ1 h => ?_)
  refine ite_n h (fun c h => ?_)
  exact a_iret Rt dX11_undo_11 (nar_z c).1 (ret_eq (h.trans (congrArg some hR.symm)))
set_option maxHeartbeats 4000000 in
set_option maxRecDepth 100000 in
theorem Z_X11_hold {l : Launch} {D : va_G} {ids : List Nat} {ad : Nat → Nat} {ca : Nat → ClassId} {σ : HS} {x1 : Int32} {r0 : Int32} {s0 : HS} (hid : ∀ i, i < 277 → i ∈ ids) (h : f_X11_hold x1 σ = some (r0, s0)) : Ki l D ids ad ca yX11_hold cX11_hold 2 .boolean 2 81 [.ref (ad 0), .int x1] σ (fun r σ1 => r = r0 ∧ σ1 = s0) := by
  obtain ⟨R, hR⟩ : ∃ R, (r0, s0) = R := ⟨_, rfl⟩
  replace h := h.trans (congrArg some hR)
  refine Ki.of (by decide) (Nat.le_of_ble_eq_true rfl) 0 (fun Γ C Rt => ?_)
  show AW ids ad ca Γ 0 [some (.ref (ad 0)), some (.int x1)] [] σ
  unfold f_X11_hold at h
  refine a_iload_n C dX11_hold_0 (i := 1) rfl rfl ?_
  refine p_if_lt C (X := x1.toInt) rfl dX11_hold_1 (tgt := 9) rfl h (fun h => ?_) (fun h => ?_)
  ·
    refine a_iconst C dX11_hold_9 (v := 0) rfl ?_
    exact a_iret Rt dX11_hold_10 (nar_z (by decide)).1 (ret_eq (h.trans (congrArg some hR.symm)))
  ·
    refine a_iload_n C dX11_hold_4 (i := 1) rfl rfl ?_
    refine a_iconst C dX11_hold_5 (v := 3) rfl ?_
    refine p_ic_lt C (X := x1.toInt) (Y := 3) rfl (by decide) dX11_hold_6 (tgt := 11) rfl h (fun h => ?_) (fun h => ?_)
    ·
      refine a_aload_n C dX11_hold_11 (i := 0) rfl rfl ?_
      refine a_get C fl_RX11_61 (i := 0) kd_0 (hid 0 (by decide)) (v := .ref (ad 25)) rfl dX11_hold_12 ?_
      refine a_iload_n C dX11_hold_15 (i := 1) rfl rfl ?_
      refine p_aaldS C hid dX11_hold_16 h (fun hr1 h => ?_)
      refine a_aload_n C dX11_hold_17 (i := 0) rfl rfl ?_
      refine a_get C fl_RX11_54 (i := 0) kd_0 (hid 0 (by decide)) (v := .ref (ad 56)) rfl dX11_hold_18 ?_
      refine p_callVv C (As := [.ref (ad 56)]) (i := (64 + 4 * x1.toInt.toNat)) hr1.1.1 (hid _ hr1.1.2) ⟨_, _, rfl⟩ (by decide) h (fun _ e => Z_X0_copy hid hr1 (show airOK 56 from airOK_of 0 (by decide)) e) mi_X0_copy ml_RX11_230 rfl rfl (Nat.le_of_ble_eq_true rfl) (Nat.le_of_ble_eq_true rfl) (Nat.le_of_ble_eq_true rfl) dX11_hold_21 (fun σ2 h => ?_)
      refine a_aload_n C dX11_hold_24 (i := 0) rfl rfl ?_
      refine a_get C fl_RX11_65 (i := 0) kd_0 (hid 0 (by decide)) (v := .ref (ad 26)) rfl dX11_hold_25 ?_
      refine a_iload_n C dX11_hold_28 (i := 1) rfl rfl ?_
      refine a_iconst C dX11_hold_29 (v := 1) rfl ?_
      refine p_zast C (i := 26) kd_26 (hid 26 (by decide)) (by rw [al_26]; rfl) (by decide) dX11_hold_30 h (fun σ4 h => ?_)
      refine a_iconst C dX11_hold_31 (v := 1) rfl ?_
      exact a_iret Rt dX11_hold_32 (nar_z (by decide)).1 (ret_eq (h.trans (congrArg some hR.symm)))
    ·
      refine a_iconst C dX11_hold_9 (v := 0) rfl ?_
      exact a_iret Rt dX11_hold_10 (nar_z (by decide)).1 (ret_eq (h.trans (congrArg some hR.symm)))
set_option maxHeartbeats 4000000 in
set_option maxRecDepth 100000 in
theorem Z_X11_restore {l : Launch} {D : va_G} {ids : List Nat} {ad : Nat → Nat} {ca : Nat → ClassId} {σ : HS} {x1 : Int32} {r0 : Int32} {s0 : HS} (hid : ∀ i, i < 277 → i ∈ ids) (h : f_X11_restore x1 σ = some (r0, s0)) : Ki l D ids ad ca yX11_restore cX11_restore 2 .boolean 2 81 [.ref (ad 0), .int x1] σ (fun r σ1 => r = r0 ∧ σ1 = s0) := by
  obtain ⟨R, hR⟩ : ∃ R, (r0, s0) = R := ⟨_, rfl⟩
  replace h := h.trans (congrArg some hR)
  refine Ki.of (by decide) (Nat.le_of_ble_eq_true rfl) 0 (fun Γ C Rt => ?_)
  show AW ids ad ca Γ 0 [some (.ref (ad 0)), some (.int x1)] [] σ
  unfold f_X11_restore at h
  refine a_iload_n C dX11_restore_0 (i := 1) rfl rfl ?_
  refine p_if_lt C (X := x1.toInt) rfl dX11_restore_1 (tgt := 18) rfl h (fun h => ?_) (fun h => ?_)
  ·
    refine a_iconst C dX11_restore_18 (v := 0) rfl ?_
    exact a_iret Rt dX11_restore_19 (nar_z (by decide)).1 (ret_eq (h.trans (congrArg some hR.symm)))
  ·
    refine a_iload_n C dX11_restore_4 (i := 1) rfl rfl ?_
    refine a_iconst C dX11_restore_5 (v := 3) rfl ?_
    refine p_ic_ge C (X := x1.toInt) (Y := 3) rfl (by decide) dX11_restore_6 (tgt := 18) rfl h (fun h => ?_) (fun h => ?_)
    ·
      refine a_iconst C dX11_restore_18 (v := 0) rfl ?_
      exact a_iret Rt dX11_restore_19 (nar_z (by decide)).1 (ret_eq (h.trans (congrArg some hR.symm)))
    ·
      refine a_aload_n C dX11_restore_9 (i := 0) rfl rfl ?_
      refine a_get C fl_RX11_65 (i := 0) kd_0 (hid 0 (by decide)) (v := .ref (ad 26)) rfl dX11_restore_10 ?_
      refine a_iload_n C dX11_restore_13 (i := 1) rfl rfl ?_
      refine p_zald C (i := 26) kd_26 (hid 26 (by decide)) (by rw [al_26]; rfl) dX11_restore_14 h (fun h => ?_)
      refine p_if_ne C (X := (σ.1 26 x1.toInt.toNat).toInt) rfl dX11_restore_15 (tgt := 20) rfl h (fun h => ?_) (fun h => ?_)
      ·
        refine a_aload_n C dX11_restore_20 (i := 0) rfl rfl ?_
        refine a_get C fl_RX11_54 (i := 0) kd_0 (hid 0 (by decide)) (v := .ref (ad 56)) rfl dX11_restore_21 ?_
        refine a_aload_n C dX11_restore_24 (i := 0) rfl rfl ?_
        refine a_get C fl_RX11_61 (i := 0) kd_0 (hid 0 (by decide)) (v := .ref (ad 25)) rfl dX11_restore_25 ?_
        refine a_iload_n C dX11_restore_28 (i := 1) rfl rfl ?_
        refine p_aaldS C hid dX11_restore_29 h (fun hr1 h => ?_)
        refine p_callVv C (As := [.ref (ad (64 + 4 * x1.toInt.toNat))]) (i := 56) (show airOK 56 from airOK_of 0 (by decide)).1.1 (hid _ (show airOK 56 from airOK_of 0 (by decide)).1.2) ⟨_, _, rfl⟩ (by decide) h (fun _ e => Z_X0_copy hid (show airOK 56 from airOK_of 0 (by decide)) hr1 e) mi_X0_copy ml_RX11_230 rfl rfl (Nat.le_of_ble_eq_true rfl) (Nat.le_of_ble_eq_true rfl) (Nat.le_of_ble_eq_true rfl) dX11_restore_30 (fun σ2 h => ?_)
        refine a_aload_n C dX11_restore_33 (i := 0) rfl rfl ?_
        refine a_get C fl_RX11_26 (i := 0) kd_0 (hid 0 (by decide)) (v := .ref (ad 12)) rfl dX11_restore_34 ?_
        refine p_callVv C (As := []) (i := 12) kd_12 (hid 12 (by decide)) ⟨_, _, rfl⟩ (by decide) h (fun _ e => Z_X5_clear hid e) mi_X5_clear ml_RX11_114 rfl rfl (Nat.le_of_ble_eq_true rfl) (Nat.le_of_ble_eq_true rfl) (Nat.le_of_ble_eq_true rfl) dX11_restore_37 (fun σ4 h => ?_)
        refine a_iconst C dX11_restore_40 (v := 1) rfl ?_
        exact a_iret Rt dX11_restore_41 (nar_z (by decide)).1 (ret_eq (h.trans (congrArg some hR.symm)))
      ·
        refine a_iconst C dX11_restore_18 (v := 0) rfl ?_
        exact a_iret Rt dX11_restore_19 (nar_z (by decide)).1 (ret_eq (h.trans (congrArg some hR.symm)))
set_option maxHeartbeats 4000000 in
set_option maxRecDepth 100000 in
theorem Z_X11_closingOf {l : Launch} {D : va_G} {ids : List Nat} {ad : Nat → Nat} {ca : Nat → ClassId} {σ : HS} {p1 : Nat} {x2 : Int32} {x3 : Int32} {r0 : Int32} {s0 : HS} (hid : ∀ i, i < 277 → i ∈ ids) (hp1 : rowOK p1) (h : f_X11_closingOf p1 x2 x3 σ = some (r0, s0)) : Ki l D ids ad ca yX11_closingOf cX11_closingOf 4 .int 1 24 [.ref (ad p1), .int x2, .int x3] σ (fun r σ1 => r = r0 ∧ σ1 = s0) := by
  obtain ⟨R, hR⟩ : ∃ R, (r0, s0) = R := ⟨_, rfl⟩
  replace h := h.trans (congrArg some hR)
  refine Ki.of (by decide) (Nat.le_of_ble_eq_true rfl) 1 (fun Γ C Rt => ?_)
  show AW ids ad ca Γ 0 [some (.ref (ad p1)), some (.int x2), some (.int x3), none] [] σ
  unfold f_X11_closingOf at h
  refine a_aload_n C dX11_closingOf_0 (i := 0) rfl rfl ?_
  refine a_iload_n C dX11_closingOf_1 (i := 1) rfl rfl ?_
  refine p_callSi C (As := [.ref (ad p1), .int x2]) h (fun _ _ e => Z_X3_close hid hp1 e) ms_X3_close ml_RX11_243 rfl rfl (Nat.le_of_ble_eq_true rfl) (Nat.le_of_ble_eq_true rfl) (Nat.le_of_ble_eq_true rfl) dX11_closingOf_2 (fun r2 σ1 h => ?_)
  refine a_istore_n C dX11_closingOf_5 (i := 3) rfl (by decide) rfl (vs1 := [some (.ref (ad p1)), some (.int x2), some (.int x3), some (.int r2)]) rfl ?_
  refine a_iload_n C dX11_closingOf_6 (i := 2) rfl rfl ?_
  refine p_if_ne C (X := x3.toInt) rfl dX11_closingOf_7 (tgt := 20) rfl h (fun h => ?_) (fun h => ?_)
  ·
    refine a_iload_n C dX11_closingOf_20 (i := 3) rfl rfl ?_
    refine p_if_eq C (X := r2.toInt) rfl dX11_closingOf_21 (tgt := 32) rfl h (fun h => ?_) (fun h => ?_)
    ·
      refine a_bipush C dX11_closingOf_32 (v := (-2)) rfl ?_
      exact a_iret Rt dX11_closingOf_34 rfl (ret_eq (h.trans (congrArg some hR.symm)))
    ·
      refine a_aload_n C dX11_closingOf_24 (i := 0) rfl rfl ?_
      refine a_iload_n C dX11_closingOf_25 (i := 1) rfl rfl ?_
      refine p_callSi C (As := [.ref (ad p1), .int x2]) h (fun _ _ e => Z_X3_kept hid hp1 e) ms_X3_kept ml_RX11_249 rfl rfl (Nat.le_of_ble_eq_true rfl) (Nat.le_of_ble_eq_true rfl) (Nat.le_of_ble_eq_true rfl) dX11_closingOf_26 (fun r4 σ3 h => ?_)
      refine a_goto C dX11_closingOf_29 (tgt := 34) rfl ?_
      exact a_iret Rt dX11_closingOf_34 rfl (ret_eq (h.trans (congrArg some hR.symm)))
  ·
    refine a_iload_n C dX11_closingOf_10 (i := 3) rfl rfl ?_
    refine p_if_eq C (X := r2.toInt) rfl dX11_closingOf_11 (tgt := 18) rfl h (fun h => ?_) (fun h => ?_)
    ·
      refine a_iconst C dX11_closingOf_18 (v := 0) rfl ?_
      exact a_iret Rt dX11_closingOf_19 rfl (ret_eq (h.trans (congrArg some hR.symm)))
    ·
      refine a_iconst C dX11_closingOf_14 (v := 1) rfl ?_
      refine a_goto C dX11_closingOf_15 (tgt := 19) rfl ?_
      exact a_iret Rt dX11_closingOf_19 rfl (ret_eq (h.trans (congrArg some hR.symm)))
set_option maxHeartbeats 4000000 in
set_option maxRecDepth 100000 in
theorem Z_X11_closes {l : Launch} {D : va_G} {ids : List Nat} {ad : Nat → Nat} {ca : Nat → ClassId} {σ : HS} {x1 : Int32} {x2 : Int32} {r0 : Int32} {s0 : HS} (hid : ∀ i, i < 277 → i ∈ ids) (h : f_X11_closes x1 x2 σ = some (r0, s0)) : Ki l D ids ad ca yX11_closes cX11_closes 3 .int 2 47 [.ref (ad 0), .int x1, .int x2] σ (fun r σ1 => r = r0 ∧ σ1 = s0) := by
  obtain ⟨R, hR⟩ : ∃ R, (r0, s0) = R := ⟨_, rfl⟩
  replace h := h.trans (congrArg some hR)
  refine Ki.of (by decide) (Nat.le_of_ble_eq_true rfl) 0 (fun Γ C Rt => ?_)
  show AW ids ad ca Γ 0 [some (.ref (ad 0)), some (.int x1), some (.int x2)] [] σ
  unfold f_X11_closes at h
  refine a_aload_n C dX11_closes_0 (i := 0) rfl rfl ?_
  refine p_getT C fl_RX11_82 (tx := (σ.2.2 0)) kd_0 (hid 0 (by decide)) (fun t e => by subst e; rfl) dX11_closes_1 h (fun ht1 h => ?_)
  refine a_iload_n C dX11_closes_4 (i := 1) rfl rfl ?_
  refine p_callVi C (As := [.int x1]) (i := ((σ.2.2 0))) ht1.1.1 (hid _ ht1.1.2) ⟨_, _, rfl⟩ (by decide) h (fun _ _ e => Z_X10_hasPattern hid ht1 e) mi_X10_hasPattern ml_RX11_143 rfl rfl (Nat.le_of_ble_eq_true rfl) (Nat.le_of_ble_eq_true rfl) (Nat.le_of_ble_eq_true rfl) dX11_closes_5 (fun r3 σ2 h => ?_)
  refine p_if_eq C (X := r3.toInt) rfl dX11_closes_8 (tgt := 20) rfl h (fun h => ?_) (fun h => ?_)
  ·
    refine a_iconst C dX11_closes_20 (v := (-1)) rfl ?_
    exact a_iret Rt dX11_closes_21 rfl (ret_eq (h.trans (congrArg some hR.symm)))
  ·
    refine a_iload_n C dX11_closes_11 (i := 2) rfl rfl ?_
    refine p_if_lt C (X := x2.toInt) rfl dX11_closes_12 (tgt := 20) rfl h (fun h => ?_) (fun h => ?_)
    ·
      refine a_iconst C dX11_closes_20 (v := (-1)) rfl ?_
      exact a_iret Rt dX11_closes_21 rfl (ret_eq (h.trans (congrArg some hR.symm)))
    ·
      refine a_iload_n C dX11_closes_15 (i := 2) rfl rfl ?_
      refine a_iconst C dX11_closes_16 (v := 1) rfl ?_
      refine p_ic_le C (X := x2.toInt) (Y := 1) rfl (by decide) dX11_closes_17 (tgt := 22) rfl h (fun h => ?_) (fun h => ?_)
      ·
        refine a_aload_n C dX11_closes_22 (i := 0) rfl rfl ?_
        refine p_getT C fl_RX11_82 (tx := (σ2.2.2 0)) kd_0 (hid 0 (by decide)) (fun t e => by subst e; rfl) dX11_closes_23 h (fun ht4 h => ?_)
        refine a_get C fl_RX11_149 (i := ((σ2.2.2 0))) ht4.1.1 (hid _ ht4.1.2) (v := .ref (ad ((σ2.2.2 0) + 4))) rfl dX11_closes_26 ?_
        refine a_iload_n C dX11_closes_29 (i := 1) rfl rfl ?_
        refine p_aaldH C (t := ((σ2.2.2 0))) ht4 hid dX11_closes_30 h (fun hr5 h => ?_)
        refine a_aload_n C dX11_closes_31 (i := 0) rfl rfl ?_
        refine p_getT C fl_RX11_82 (tx := (σ2.2.2 0)) kd_0 (hid 0 (by decide)) (fun t e => by subst e; rfl) dX11_closes_32 h (fun ht6 h => ?_)
        refine a_get C fl_RX11_146 (i := ((σ2.2.2 0))) ht6.1.1 (hid _ ht6.1.2) (v := .ref (ad ((σ2.2.2 0) + 10))) rfl dX11_closes_35 ?_
        refine a_iload_n C dX11_closes_38 (i := 1) rfl rfl ?_
        refine p_iald C (i := ((σ2.2.2 0) + 10)) ht6.2.2.2.2.1.1 hid (by rw [ht6.2.2.2.2.1.2]; rfl) dX11_closes_39 h (fun h => ?_)
        refine a_iload_n C dX11_closes_40 (i := 2) rfl rfl ?_
        refine p_callSi C (As := [.ref (ad ((σ2.2.2 0) + 5 + x1.toInt.toNat)), .int (σ2.1 ((σ2.2.2 0) + 10) x1.toInt.toNat), .int x2]) h (fun _ _ e => Z_X11_closingOf hid hr5.1 e) ms_X11_closingOf ml_RX11_233 rfl rfl (Nat.le_of_ble_eq_true rfl) (Nat.le_of_ble_eq_true rfl) (Nat.le_of_ble_eq_true rfl) dX11_closes_41 (fun r8 σ7 h => ?_)
        exact a_iret Rt dX11_closes_44 rfl (ret_eq (h.trans (congrArg some hR.symm)))
      ·
        refine a_iconst C dX11_closes_20 (v := (-1)) rfl ?_
        exact a_iret Rt dX11_closes_21 rfl (ret_eq (h.trans (congrArg some hR.symm)))
set_option maxHeartbeats 4000000 in
set_option maxRecDepth 100000 in
theorem Z_X11_joined {l : Launch} {D : va_G} {ids : List Nat} {ad : Nat → Nat} {ca : Nat → ClassId} {σ : HS} {x1 : Int32} {x2 : Int32} {x3 : Int32} {r0 : Int32} {s0 : HS} (hid : ∀ i, i < 277 → i ∈ ids) (h : f_X11_joined x1 x2 x3 σ = some (r0, s0)) : Ki l D ids ad ca yX11_joined cX11_joined 5 .int 2 60 [.ref (ad 0), .int x1, .int x2, .int x3] σ (fun r σ1 => r = r0 ∧ σ1 = s0) := by
  obtain ⟨R, hR⟩ : ∃ R, (r0, s0) = R := ⟨_, rfl⟩
  replace h := h.trans (congrArg some hR)
  refine Ki.of (by decide) (Nat.le_of_ble_eq_true rfl) 1 (fun Γ C Rt => ?_)
  show AW ids ad ca Γ 0 [some (.ref (ad 0)), some (.int x1), some (.int x2), some (.int x3), none] [] σ
  unfold f_X11_joined at h
  refine a_aload_n C dX11_joined_0 (i := 0) rfl rfl ?_
  refine p_getT C fl_RX11_82 (tx := (σ.2.2 0)) kd_0 (hid 0 (by decide)) (fun t e => by subst e; rfl) dX11_joined_1 h (fun ht1 h => ?_)
  refine a_iload_n C dX11_joined_4 (i := 1) rfl rfl ?_
  refine p_callVi C (As := [.int x1]) (i := ((σ.2.2 0))) ht1.1.1 (hid _ ht1.1.2) ⟨_, _, rfl⟩ (by decide) h (fun _ _ e => Z_X10_hasPattern hid ht1 e) mi_X10_hasPattern ml_RX11_143 rfl rfl (Nat.le_of_ble_eq_true rfl) (Nat.le_of_ble_eq_true rfl) (Nat.le_of_ble_eq_true rfl) dX11_joined_5 (fun r3 σ2 h => ?_)
  refine p_if_eq C (X := r3.toInt) rfl dX11_joined_8 (tgt := 31) rfl h (fun h => ?_) (fun h => ?_)
  ·
    refine a_iconst C dX11_joined_31 (v := (-1)) rfl ?_
    exact a_iret Rt dX11_joined_32 rfl (ret_eq (h.trans (congrArg some hR.symm)))
  ·
    refine a_aload_n C dX11_joined_11 (i := 0) rfl rfl ?_
    refine p_getT C fl_RX11_82 (tx := (σ2.2.2 0)) kd_0 (hid 0 (by decide)) (fun t e => by subst e; rfl) dX11_joined_12 h (fun ht4 h => ?_)
    refine a_iload_n C dX11_joined_15 (i := 2) rfl rfl ?_
    refine p_callVi C (As := [.int x2]) (i := ((σ2.2.2 0))) ht4.1.1 (hid _ ht4.1.2) ⟨_, _, rfl⟩ (by decide) h (fun _ _ e => Z_X10_hasPattern hid ht4 e) mi_X10_hasPattern ml_RX11_143 rfl rfl (Nat.le_of_ble_eq_true rfl) (Nat.le_of_ble_eq_true rfl) (Nat.le_of_ble_eq_true rfl) dX11_joined_16 (fun r6 σ5 h => ?_)
    refine p_if_eq C (X := r6.toInt) rfl dX11_joined_19 (tgt := 31) rfl h (fun h => ?_) (fun h => ?_)
    ·
      refine a_iconst C dX11_joined_31 (v := (-1)) rfl ?_
      exact a_iret Rt dX11_joined_32 rfl (ret_eq (h.trans (congrArg some hR.symm)))
    ·
      refine a_iload_n C dX11_joined_22 (i := 3) rfl rfl ?_
      refine p_if_lt C (X := x3.toInt) rfl dX11_joined_23 (tgt := 31) rfl h (fun h => ?_) (fun h => ?_)
      ·
        refine a_iconst C dX11_joined_31 (v := (-1)) rfl ?_
        exact a_iret Rt dX11_joined_32 rfl (ret_eq (h.trans (congrArg some hR.symm)))
      ·
        refine a_iload_n C dX11_joined_26 (i := 3) rfl rfl ?_
        refine a_iconst C dX11_joined_27 (v := 1) rfl ?_
        refine p_ic_le C (X := x3.toInt) (Y := 1) rfl (by decide) dX11_joined_28 (tgt := 33) rfl h (fun h => ?_) (fun h => ?_)
        ·
          refine a_aload_n C dX11_joined_33 (i := 0) rfl rfl ?_
          refine p_getT C fl_RX11_82 (tx := (σ5.2.2 0)) kd_0 (hid 0 (by decide)) (fun t e => by subst e; rfl) dX11_joined_34 h (fun ht7 h => ?_)
          refine a_get C fl_RX11_146 (i := ((σ5.2.2 0))) ht7.1.1 (hid _ ht7.1.2) (v := .ref (ad ((σ5.2.2 0) + 10))) rfl dX11_joined_37 ?_
          refine a_iload_n C dX11_joined_40 (i := 1) rfl rfl ?_
          refine p_iald C (i := ((σ5.2.2 0) + 10)) ht7.2.2.2.2.1.1 hid (by rw [ht7.2.2.2.2.1.2]; rfl) dX11_joined_41 h (fun h => ?_)
          refine p_istore C (fun z8 => [some (.ref (ad 0)), some (.int x1), some (.int x2), some (.int x3), some (.int z8)]) dX11_joined_42 (by decide) rfl (fun _ => rfl) h (fun z8 h => ?_)
          refine a_aload_n C dX11_joined_44 (i := 0) rfl rfl ?_
          refine p_getT C fl_RX11_82 (tx := (σ5.2.2 0)) kd_0 (hid 0 (by decide)) (fun t e => by subst e; rfl) dX11_joined_45 h (fun ht9 h => ?_)
          refine a_get C fl_RX11_149 (i := ((σ5.2.2 0))) ht9.1.1 (hid _ ht9.1.2) (v := .ref (ad ((σ5.2.2 0) + 4))) rfl dX11_joined_48 ?_
          refine a_iload_n C dX11_joined_51 (i := 1) rfl rfl ?_
          refine p_aaldH C (t := ((σ5.2.2 0))) ht9 hid dX11_joined_52 h (fun hr10 h => ?_)
          refine a_iconst C dX11_joined_53 (v := 0) rfl ?_
          refine a_aload_n C dX11_joined_54 (i := 0) rfl rfl ?_
          refine a_get C fl_RX11_76 (i := 0) kd_0 (hid 0 (by decide)) (v := .ref (ad 29)) rfl dX11_joined_55 ?_
          refine a_iconst C dX11_joined_58 (v := 0) rfl ?_
          refine a_iload C dX11_joined_59 rfl ?_
          refine p_copyi C (i0 := ((σ5.2.2 0) + 5 + x1.toInt.toNat)) (i1 := 29) (SP := 0) (DP := 0) (Z := z8.toInt) ml_RX11_237 ac_w.1 ac_w.2.1 ac_w.2.2 hr10.1 (show rowOK 29 from ⟨kd_29, by decide⟩) hid (by rw [hr10.2]; rfl) (by rw [al_29]; rfl) (by decide) (by decide) rfl (Nat.le_of_ble_eq_true rfl) (Nat.le_of_ble_eq_true rfl) dX11_joined_61 h (fun σ11 h => ?_)
          refine a_aload_n C dX11_joined_64 (i := 0) rfl rfl ?_
          refine p_getT C fl_RX11_82 (tx := (σ11.2.2 0)) kd_0 (hid 0 (by decide)) (fun t e => by subst e; rfl) dX11_joined_65 h (fun ht12 h => ?_)
          refine a_get C fl_RX11_149 (i := ((σ11.2.2 0))) ht12.1.1 (hid _ ht12.1.2) (v := .ref (ad ((σ11.2.2 0) + 4))) rfl dX11_joined_68 ?_
          refine a_iload_n C dX11_joined_71 (i := 2) rfl rfl ?_
          refine p_aaldH C (t := ((σ11.2.2 0))) ht12 hid dX11_joined_72 h (fun hr13 h => ?_)
          refine a_iconst C dX11_joined_73 (v := 0) rfl ?_
          refine a_aload_n C dX11_joined_74 (i := 0) rfl rfl ?_
          refine a_get C fl_RX11_76 (i := 0) kd_0 (hid 0 (by decide)) (v := .ref (ad 29)) rfl dX11_joined_75 ?_
          refine a_iload C dX11_joined_78 rfl ?_
          refine a_aload_n C dX11_joined_80 (i := 0) rfl rfl ?_
          refine p_getT C fl_RX11_82 (tx := (σ11.2.2 0)) kd_0 (hid 0 (by decide)) (fun t e => by subst e; rfl) dX11_joined_81 h (fun ht14 h => ?_)
          refine a_get C fl_RX11_146 (i := ((σ11.2.2 0))) ht14.1.1 (hid _ ht14.1.2) (v := .ref (ad ((σ11.2.2 0) + 10))) rfl dX11_joined_84 ?_
          refine a_iload_n C dX11_joined_87 (i := 2) rfl rfl ?_
          refine p_iald C (i := ((σ11.2.2 0) + 10)) ht14.2.2.2.2.1.1 hid (by rw [ht14.2.2.2.2.1.2]; rfl) dX11_joined_88 h (fun h => ?_)
          refine p_copyi C (i0 := ((σ11.2.2 0) + 5 + x2.toInt.toNat)) (i1 := 29) (SP := 0) (DP := z8.toInt) (Z := (σ11.1 ((σ11.2.2 0) + 10) x2.toInt.toNat).toInt) ml_RX11_237 ac_w.1 ac_w.2.1 ac_w.2.2 hr13.1 (show rowOK 29 from ⟨kd_29, by decide⟩) hid (by rw [hr13.2]; rfl) (by rw [al_29]; rfl) (by decide) rfl rfl (Nat.le_of_ble_eq_true rfl) (Nat.le_of_ble_eq_true rfl) dX11_joined_89 h (fun σ15 h => ?_)
          refine a_aload_n C dX11_joined_92 (i := 0) rfl rfl ?_
          refine a_get C fl_RX11_76 (i := 0) kd_0 (hid 0 (by decide)) (v := .ref (ad 29)) rfl dX11_joined_93 ?_
          refine a_iload C dX11_joined_96 rfl ?_
          refine a_aload_n C dX11_joined_98 (i := 0) rfl rfl ?_
          refine p_getT C fl_RX11_82 (tx := (σ15.2.2 0)) kd_0 (hid 0 (by decide)) (fun t e => by subst e; rfl) dX11_joined_99 h (fun ht16 h => ?_)
          refine a_get C fl_RX11_146 (i := ((σ15.2.2 0))) ht16.1.1 (hid _ ht16.1.2) (v := .ref (ad ((σ15.2.2 0) + 10))) rfl dX11_joined_102 ?_
          refine a_iload_n C dX11_joined_105 (i := 2) rfl rfl ?_
          refine p_iald C (i := ((σ15.2.2 0) + 10)) ht16.2.2.2.2.1.1 hid (by rw [ht16.2.2.2.2.1.2]; rfl) dX11_joined_106 h (fun h => ?_)
          refine a_iadd C dX11_joined_107 ?_
          refine a_iload_n C dX11_joined_108 (i := 3) rfl rfl ?_
          refine p_callSi C (As := [.ref (ad 29), .int (z8 + (σ15.1 ((σ15.2.2 0) + 10) x2.toInt.toNat)), .int x3]) h (fun _ _ e => Z_X11_closingOf hid (show rowOK 29 from ⟨kd_29, by decide⟩) e) ms_X11_closingOf ml_RX11_233 rfl rfl (Nat.le_of_ble_eq_true rfl) (Nat.le_of_ble_eq_true rfl) (Nat.le_of_ble_eq_true rfl) dX11_joined_109 (fun r18 σ17 h => ?_)
          exact a_iret Rt dX11_joined_112 rfl (ret_eq (h.trans (congrArg some hR.symm)))
        ·
          refine a_iconst C dX11_joined_31 (v := (-1)) rfl ?_
          exact a_iret Rt dX11_joined_32 rfl (ret_eq (h.trans (congrArg some hR.symm)))
set_option maxHeartbeats 4000000 in
set_option maxRecDepth 100000 in
theorem Z_X11_turned {l : Launch} {D : va_G} {ids : List Nat} {ad : Nat → Nat} {ca : Nat → ClassId} {σ : HS} {x1 : Int32} {x2 : Int32} {r0 : Int32} {s0 : HS} (hid : ∀ i, i < 277 → i ∈ ids) (h : f_X11_turned x1 x2 σ = some (r0, s0)) : Ki l D ids ad ca yX11_turned cX11_turned 4 .int 1 25 [.ref (ad 0), .int x1, .int x2] σ (fun r σ1 => r = r0 ∧ σ1 = s0) := by
  obtain ⟨R, hR⟩ : ∃ R, (r0, s0) = R := ⟨_, rfl⟩
  replace h := h.trans (congrArg some hR)
  refine Ki.of (by decide) (Nat.le_of_ble_eq_true rfl) 1 (fun Γ C Rt => ?_)
  show AW ids ad ca Γ 0 [some (.ref (ad 0)), some (.int x1), some (.int x2), none] [] σ
  unfold f_X11_turned at h
  refine a_aload_n C dX11_turned_0 (i := 0) rfl rfl ?_
  refine p_getT C fl_RX11_82 (tx := (σ.2.2 0)) kd_0 (hid 0 (by decide)) (fun t e => by subst e; rfl) dX11_turned_1 h (fun ht1 h => ?_)
  refine a_iload_n C dX11_turned_4 (i := 1) rfl rfl ?_
  refine p_callVi C (As := [.int x1]) (i := ((σ.2.2 0))) ht1.1.1 (hid _ ht1.1.2) ⟨_, _, rfl⟩ (by decide) h (fun _ _ e => Z_X10_hasPattern hid ht1 e) mi_X10_hasPattern ml_RX11_143 rfl rfl (Nat.le_of_ble_eq_true rfl) (Nat.le_of_ble_eq_true rfl) (Nat.le_of_ble_eq_true rfl) dX11_turned_5 (fun r3 σ2 h => ?_)
  refine p_if_eq C (X := r3.toInt) rfl dX11_turned_8 (tgt := 22) rfl h (fun h => ?_) (fun h => ?_)
  ·
    refine a_iconst C dX11_turned_22 (v := (-1)) rfl ?_
    exact a_iret Rt dX11_turned_23 rfl (ret_eq (h.trans (congrArg some hR.symm)))
  ·
    refine a_aload_n C dX11_turned_11 (i := 0) rfl rfl ?_
    refine p_getT C fl_RX11_82 (tx := (σ2.2.2 0)) kd_0 (hid 0 (by decide)) (fun t e => by subst e; rfl) dX11_turned_12 h (fun ht4 h => ?_)
    refine a_iload_n C dX11_turned_15 (i := 2) rfl rfl ?_
    refine p_callVi C (As := [.int x2]) (i := ((σ2.2.2 0))) ht4.1.1 (hid _ ht4.1.2) ⟨_, _, rfl⟩ (by decide) h (fun _ _ e => Z_X10_hasPattern hid ht4 e) mi_X10_hasPattern ml_RX11_143 rfl rfl (Nat.le_of_ble_eq_true rfl) (Nat.le_of_ble_eq_true rfl) (Nat.le_of_ble_eq_true rfl) dX11_turned_16 (fun r6 σ5 h => ?_)
    refine p_if_ne C (X := r6.toInt) rfl dX11_turned_19 (tgt := 24) rfl h (fun h => ?_) (fun h => ?_)
    ·
      refine a_aload_n C dX11_turned_24 (i := 0) rfl rfl ?_
      refine p_getT C fl_RX11_82 (tx := (σ5.2.2 0)) kd_0 (hid 0 (by decide)) (fun t e => by subst e; rfl) dX11_turned_25 h (fun ht7 h => ?_)
      refine a_get C fl_RX11_146 (i := ((σ5.2.2 0))) ht7.1.1 (hid _ ht7.1.2) (v := .ref (ad ((σ5.2.2 0) + 10))) rfl dX11_turned_28 ?_
      refine a_iload_n C dX11_turned_31 (i := 1) rfl rfl ?_
      refine p_iald C (i := ((σ5.2.2 0) + 10)) ht7.2.2.2.2.1.1 hid (by rw [ht7.2.2.2.2.1.2]; rfl) dX11_turned_32 h (fun h => ?_)
      refine p_istore_n C (fun z8 => [some (.ref (ad 0)), some (.int x1), some (.int x2), some (.int z8)]) dX11_turned_33 (i := 3) rfl (by decide) rfl (fun _ => rfl) h (fun z8 h => ?_)
      refine a_iload_n C dX11_turned_34 (i := 3) rfl rfl ?_
      refine a_aload_n C dX11_turned_35 (i := 0) rfl rfl ?_
      refine p_getT C fl_RX11_82 (tx := (σ5.2.2 0)) kd_0 (hid 0 (by decide)) (fun t e => by subst e; rfl) dX11_turned_36 h (fun ht9 h => ?_)
      refine a_get C fl_RX11_146 (i := ((σ5.2.2 0))) ht9.1.1 (hid _ ht9.1.2) (v := .ref (ad ((σ5.2.2 0) + 10))) rfl dX11_turned_39 ?_
      refine a_iload_n C dX11_turned_42 (i := 2) rfl rfl ?_
      refine p_iald C (i := ((σ5.2.2 0) + 10)) ht9.2.2.2.2.1.1 hid (by rw [ht9.2.2.2.2.1.2]; rfl) dX11_turned_43 h (fun h => ?_)
      refine p_ic_eq C (X := z8.toInt) (Y := (σ5.1 ((σ5.2.2 0) + 10) x2.toInt.toNat).toInt) rfl rfl dX11_turned_44 (tgt := 50) rfl h (fun h => ?_) (fun h => ?_)
      ·
        refine a_aload_n C dX11_turned_50 (i := 0) rfl rfl ?_
        refine p_getT C fl_RX11_82 (tx := (σ5.2.2 0)) kd_0 (hid 0 (by decide)) (fun t e => by subst e; rfl) dX11_turned_51 h (fun ht10 h => ?_)
        refine a_get C fl_RX11_149 (i := ((σ5.2.2 0))) ht10.1.1 (hid _ ht10.1.2) (v := .ref (ad ((σ5.2.2 0) + 4))) rfl dX11_turned_54 ?_
        refine a_iload_n C dX11_turned_57 (i := 1) rfl rfl ?_
        refine p_aaldH C (t := ((σ5.2.2 0))) ht10 hid dX11_turned_58 h (fun hr11 h => ?_)
        refine a_aload_n C dX11_turned_59 (i := 0) rfl rfl ?_
        refine p_getT C fl_RX11_82 (tx := (σ5.2.2 0)) kd_0 (hid 0 (by decide)) (fun t e => by subst e; rfl) dX11_turned_60 h (fun ht12 h => ?_)
        refine a_get C fl_RX11_149 (i := ((σ5.2.2 0))) ht12.1.1 (hid _ ht12.1.2) (v := .ref (ad ((σ5.2.2 0) + 4))) rfl dX11_turned_63 ?_
        refine a_iload_n C dX11_turned_66 (i := 2) rfl rfl ?_
        refine p_aaldH C (t := ((σ5.2.2 0))) ht12 hid dX11_turned_67 h (fun hr13 h => ?_)
        refine a_iload_n C dX11_turned_68 (i := 3) rfl rfl ?_
        refine p_callSi C (As := [.ref (ad ((σ5.2.2 0) + 5 + x1.toInt.toNat)), .ref (ad ((σ5.2.2 0) + 5 + x2.toInt.toNat)), .int z8]) h (fun _ _ e => Z_X3_turns hid hr11.1 hr13.1 e) ms_X3_turns ml_RX11_253 rfl rfl (Nat.le_of_ble_eq_true rfl) (Nat.le_of_ble_eq_true rfl) (Nat.le_of_ble_eq_true rfl) dX11_turned_69 (fun r15 σ14 h => ?_)
        exact a_iret Rt dX11_turned_72 rfl (ret_eq (h.trans (congrArg some hR.symm)))
      ·
        refine a_bipush C dX11_turned_47 (v := (-2)) rfl ?_
        exact a_iret Rt dX11_turned_49 rfl (ret_eq (h.trans (congrArg some hR.symm)))
    ·
      refine a_iconst C dX11_turned_22 (v := (-1)) rfl ?_
      exact a_iret Rt dX11_turned_23 rfl (ret_eq (h.trans (congrArg some hR.symm)))
set_option maxHeartbeats 4000000 in
set_option maxRecDepth 100000 in
theorem Z_X11_span {l : Launch} {D : va_G} {ids : List Nat} {ad : Nat → Nat} {ca : Nat → ClassId} {σ : HS} {x1 : Int32} {r0 : Int32} {s0 : HS} (hid : ∀ i, i < 277 → i ∈ ids) (h : f_X11_span x1 σ = some (r0, s0)) : Ki l D ids ad ca yX11_span cX11_span 2 .int 2 44 [.ref (ad 0), .int x1] σ (fun r σ1 => r = r0 ∧ σ1 = s0) := by
  obtain ⟨R, hR⟩ : ∃ R, (r0, s0) = R := ⟨_, rfl⟩
  replace h := h.trans (congrArg some hR)
  refine Ki.of (by decide) (Nat.le_of_ble_eq_true rfl) 0 (fun Γ C Rt => ?_)
  show AW ids ad ca Γ 0 [some (.ref (ad 0)), some (.int x1)] [] σ
  unfold f_X11_span at h
  refine a_aload_n C dX11_span_0 (i := 0) rfl rfl ?_
  refine p_getT C fl_RX11_82 (tx := (σ.2.2 0)) kd_0 (hid 0 (by decide)) (fun t e => by subst e; rfl) dX11_span_1 h (fun ht1 h => ?_)
  refine a_iload_n C dX11_span_4 (i := 1) rfl rfl ?_
  refine p_callVi C (As := [.int x1]) (i := ((σ.2.2 0))) ht1.1.1 (hid _ ht1.1.2) ⟨_, _, rfl⟩ (by decide) h (fun _ _ e => Z_X10_hasPattern hid ht1 e) mi_X10_hasPattern ml_RX11_143 rfl rfl (Nat.le_of_ble_eq_true rfl) (Nat.le_of_ble_eq_true rfl) (Nat.le_of_ble_eq_true rfl) dX11_span_5 (fun r3 σ2 h => ?_)
  refine p_if_ne C (X := r3.toInt) rfl dX11_span_8 (tgt := 13) rfl h (fun h => ?_) (fun h => ?_)
  ·
    refine a_aload_n C dX11_span_13 (i := 0) rfl rfl ?_
    refine p_getT C fl_RX11_82 (tx := (σ2.2.2 0)) kd_0 (hid 0 (by decide)) (fun t e => by subst e; rfl) dX11_span_14 h (fun ht4 h => ?_)
    refine a_get C fl_RX11_149 (i := ((σ2.2.2 0))) ht4.1.1 (hid _ ht4.1.2) (v := .ref (ad ((σ2.2.2 0) + 4))) rfl dX11_span_17 ?_
    refine a_iload_n C dX11_span_20 (i := 1) rfl rfl ?_
    refine p_aaldH C (t := ((σ2.2.2 0))) ht4 hid dX11_span_21 h (fun hr5 h => ?_)
    refine a_aload_n C dX11_span_22 (i := 0) rfl rfl ?_
    refine p_getT C fl_RX11_82 (tx := (σ2.2.2 0)) kd_0 (hid 0 (by decide)) (fun t e => by subst e; rfl) dX11_span_23 h (fun ht6 h => ?_)
    refine a_get C fl_RX11_146 (i := ((σ2.2.2 0))) ht6.1.1 (hid _ ht6.1.2) (v := .ref (ad ((σ2.2.2 0) + 10))) rfl dX11_span_26 ?_
    refine a_iload_n C dX11_span_29 (i := 1) rfl rfl ?_
    refine p_iald C (i := ((σ2.2.2 0) + 10)) ht6.2.2.2.2.1.1 hid (by rw [ht6.2.2.2.2.1.2]; rfl) dX11_span_30 h (fun h => ?_)
    refine p_callSi C (As := [.ref (ad ((σ2.2.2 0) + 5 + x1.toInt.toNat)), .int (σ2.1 ((σ2.2.2 0) + 10) x1.toInt.toNat)]) h (fun _ _ e => Z_X3_highest hid hr5.1 e) ms_X3_highest ml_RX11_257 rfl rfl (Nat.le_of_ble_eq_true rfl) (Nat.le_of_ble_eq_true rfl) (Nat.le_of_ble_eq_true rfl) dX11_span_31 (fun r8 σ7 h => ?_)
    exact a_iret Rt dX11_span_34 rfl (ret_eq (h.trans (congrArg some hR.symm)))
  ·
    refine a_iconst C dX11_span_11 (v := (-1)) rfl ?_
    exact a_iret Rt dX11_span_12 rfl (ret_eq (h.trans (congrArg some hR.symm)))
set_option maxHeartbeats 4000000 in
set_option maxRecDepth 100000 in
theorem Z_X11_orbits {l : Launch} {D : va_G} {ids : List Nat} {ad : Nat → Nat} {ca : Nat → ClassId} {σ : HS} {x1 : Int32} {r0 : Int32} {s0 : HS} (hid : ∀ i, i < 277 → i ∈ ids) (h : f_X11_orbits x1 σ = some (r0, s0)) : Ki l D ids ad ca yX11_orbits cX11_orbits 4 .int 1 26 [.ref (ad 0), .int x1] σ (fun r σ1 => r = r0 ∧ σ1 = s0) := by
  obtain ⟨R, hR⟩ : ∃ R, (r0, s0) = R := ⟨_, rfl⟩
  replace h := h.trans (congrArg some hR)
  refine Ki.of (by decide) (Nat.le_of_ble_eq_true rfl) 2 (fun Γ C Rt => ?_)
  show AW ids ad ca Γ 0 [some (.ref (ad 0)), some (.int x1), none, none] [] σ
  unfold f_X11_orbits at h
  refine a_aload_n C dX11_orbits_0 (i := 0) rfl rfl ?_
  refine p_getT C fl_RX11_82 (tx := (σ.2.2 0)) kd_0 (hid 0 (by decide)) (fun t e => by subst e; rfl) dX11_orbits_1 h (fun ht1 h => ?_)
  refine a_iload_n C dX11_orbits_4 (i := 1) rfl rfl ?_
  refine p_callVi C (As := [.int x1]) (i := ((σ.2.2 0))) ht1.1.1 (hid _ ht1.1.2) ⟨_, _, rfl⟩ (by decide) h (fun _ _ e => Z_X10_hasPattern hid ht1 e) mi_X10_hasPattern ml_RX11_143 rfl rfl (Nat.le_of_ble_eq_true rfl) (Nat.le_of_ble_eq_true rfl) (Nat.le_of_ble_eq_true rfl) dX11_orbits_5 (fun r3 σ2 h => ?_)
  refine p_if_ne C (X := r3.toInt) rfl dX11_orbits_8 (tgt := 13) rfl h (fun h => ?_) (fun h => ?_)
  ·
    refine a_aload_n C dX11_orbits_13 (i := 0) rfl rfl ?_
    refine p_getT C fl_RX11_82 (tx := (σ2.2.2 0)) kd_0 (hid 0 (by decide)) (fun t e => by subst e; rfl) dX11_orbits_14 h (fun ht4 h => ?_)
    refine a_get C fl_RX11_149 (i := ((σ2.2.2 0))) ht4.1.1 (hid _ ht4.1.2) (v := .ref (ad ((σ2.2.2 0) + 4))) rfl dX11_orbits_17 ?_
    refine a_iload_n C dX11_orbits_20 (i := 1) rfl rfl ?_
    refine p_aaldH C (t := ((σ2.2.2 0))) ht4 hid dX11_orbits_21 h (fun hr5 h => ?_)
    refine a_astore_n C dX11_orbits_22 (i := 2) rfl (by decide) rfl (vs1 := [some (.ref (ad 0)), some (.int x1), some (.ref (ad ((σ2.2.2 0) + 5 + x1.toInt.toNat))), none]) rfl ?_
    refine a_aload_n C dX11_orbits_23 (i := 0) rfl rfl ?_
    refine p_getT C fl_RX11_82 (tx := (σ2.2.2 0)) kd_0 (hid 0 (by decide)) (fun t e => by subst e; rfl) dX11_orbits_24 h (fun ht6 h => ?_)
    refine a_get C fl_RX11_146 (i := ((σ2.2.2 0))) ht6.1.1 (hid _ ht6.1.2) (v := .ref (ad ((σ2.2.2 0) + 10))) rfl dX11_orbits_27 ?_
    refine a_iload_n C dX11_orbits_30 (i := 1) rfl rfl ?_
    refine p_iald C (i := ((σ2.2.2 0) + 10)) ht6.2.2.2.2.1.1 hid (by rw [ht6.2.2.2.2.1.2]; rfl) dX11_orbits_31 h (fun h => ?_)
    refine p_istore_n C (fun z7 => [some (.ref (ad 0)), some (.int x1), some (.ref (ad ((σ2.2.2 0) + 5 + x1.toInt.toNat))), some (.int z7)]) dX11_orbits_32 (i := 3) rfl (by decide) rfl (fun _ => rfl) h (fun z7 h => ?_)
    refine a_aload_n C dX11_orbits_33 (i := 2) rfl rfl ?_
    refine a_iload_n C dX11_orbits_34 (i := 3) rfl rfl ?_
    refine p_callSi C (As := [.ref (ad ((σ2.2.2 0) + 5 + x1.toInt.toNat)), .int z7]) h (fun _ _ e => Z_X3_close hid hr5.1 e) ms_X3_close ml_RX11_243 rfl rfl (Nat.le_of_ble_eq_true rfl) (Nat.le_of_ble_eq_true rfl) (Nat.le_of_ble_eq_true rfl) dX11_orbits_35 (fun r9 σ8 h => ?_)
    refine p_if_eq C (X := r9.toInt) rfl dX11_orbits_38 (tgt := 49) rfl h (fun h => ?_) (fun h => ?_)
    ·
      refine a_bipush C dX11_orbits_49 (v := (-2)) rfl ?_
      exact a_iret Rt dX11_orbits_51 rfl (ret_eq (h.trans (congrArg some hR.symm)))
    ·
      refine a_aload_n C dX11_orbits_41 (i := 2) rfl rfl ?_
      refine a_iload_n C dX11_orbits_42 (i := 3) rfl rfl ?_
      refine p_callSi C (As := [.ref (ad ((σ2.2.2 0) + 5 + x1.toInt.toNat)), .int z7]) h (fun _ _ e => Z_X3_rounds hid hr5.1 e) ms_X3_rounds ml_RX11_260 rfl rfl (Nat.le_of_ble_eq_true rfl) (Nat.le_of_ble_eq_true rfl) (Nat.le_of_ble_eq_true rfl) dX11_orbits_43 (fun r11 σ10 h => ?_)
      refine a_goto C dX11_orbits_46 (tgt := 51) rfl ?_
      exact a_iret Rt dX11_orbits_51 rfl (ret_eq (h.trans (congrArg some hR.symm)))
  ·
    refine a_iconst C dX11_orbits_11 (v := (-1)) rfl ?_
    exact a_iret Rt dX11_orbits_12 rfl (ret_eq (h.trans (congrArg some hR.symm)))
set_option maxHeartbeats 4000000 in
set_option maxRecDepth 100000 in
theorem Z_X11_swaps {l : Launch} {D : va_G} {ids : List Nat} {ad : Nat → Nat} {ca : Nat → ClassId} {σ : HS} {x1 : Int32} {r0 : Int32} {s0 : HS} (hid : ∀ i, i < 277 → i ∈ ids) (h : f_X11_swaps x1 σ = some (r0, s0)) : Ki l D ids ad ca yX11_swaps cX11_swaps 2 .int 2 44 [.ref (ad 0), .int x1] σ (fun r σ1 => r = r0 ∧ σ1 = s0) := by
  obtain ⟨R, hR⟩ : ∃ R, (r0, s0) = R := ⟨_, rfl⟩
  replace h := h.trans (congrArg some hR)
  refine Ki.of (by decide) (Nat.le_of_ble_eq_true rfl) 0 (fun Γ C Rt => ?_)
  show AW ids ad ca Γ 0 [some (.ref (ad 0)), some (.int x1)] [] σ
  unfold f_X11_swaps at h
  refine a_aload_n C dX11_swaps_0 (i := 0) rfl rfl ?_
  refine p_getT C fl_RX11_82 (tx := (σ.2.2 0)) kd_0 (hid 0 (by decide)) (fun t e => by subst e; rfl) dX11_swaps_1 h (fun ht1 h => ?_)
  refine a_iload_n C dX11_swaps_4 (i := 1) rfl rfl ?_
  refine p_callVi C (As := [.int x1]) (i := ((σ.2.2 0))) ht1.1.1 (hid _ ht1.1.2) ⟨_, _, rfl⟩ (by decide) h (fun _ _ e => Z_X10_hasPattern hid ht1 e) mi_X10_hasPattern ml_RX11_143 rfl rfl (Nat.le_of_ble_eq_true rfl) (Nat.le_of_ble_eq_true rfl) (Nat.le_of_ble_eq_true rfl) dX11_swaps_5 (fun r3 σ2 h => ?_)
  refine p_if_ne C (X := r3.toInt) rfl dX11_swaps_8 (tgt := 13) rfl h (fun h => ?_) (fun h => ?_)
  ·
    refine a_aload_n C dX11_swaps_13 (i := 0) rfl rfl ?_
    refine p_getT C fl_RX11_82 (tx := (σ2.2.2 0)) kd_0 (hid 0 (by decide)) (fun t e => by subst e; rfl) dX11_swaps_14 h (fun ht4 h => ?_)
    refine a_get C fl_RX11_149 (i := ((σ2.2.2 0))) ht4.1.1 (hid _ ht4.1.2) (v := .ref (ad ((σ2.2.2 0) + 4))) rfl dX11_swaps_17 ?_
    refine a_iload_n C dX11_swaps_20 (i := 1) rfl rfl ?_
    refine p_aaldH C (t := ((σ2.2.2 0))) ht4 hid dX11_swaps_21 h (fun hr5 h => ?_)
    refine a_aload_n C dX11_swaps_22 (i := 0) rfl rfl ?_
    refine p_getT C fl_RX11_82 (tx := (σ2.2.2 0)) kd_0 (hid 0 (by decide)) (fun t e => by subst e; rfl) dX11_swaps_23 h (fun ht6 h => ?_)
    refine a_get C fl_RX11_146 (i := ((σ2.2.2 0))) ht6.1.1 (hid _ ht6.1.2) (v := .ref (ad ((σ2.2.2 0) + 10))) rfl dX11_swaps_26 ?_
    refine a_iload_n C dX11_swaps_29 (i := 1) rfl rfl ?_
    refine p_iald C (i := ((σ2.2.2 0) + 10)) ht6.2.2.2.2.1.1 hid (by rw [ht6.2.2.2.2.1.2]; rfl) dX11_swaps_30 h (fun h => ?_)
    refine p_callSi C (As := [.ref (ad ((σ2.2.2 0) + 5 + x1.toInt.toNat)), .int (σ2.1 ((σ2.2.2 0) + 10) x1.toInt.toNat)]) h (fun _ _ e => Z_X3_pairsToSwap hid hr5.1 e) ms_X3_pairsToSwap ml_RX11_263 rfl rfl (Nat.le_of_ble_eq_true rfl) (Nat.le_of_ble_eq_true rfl) (Nat.le_of_ble_eq_true rfl) dX11_swaps_31 (fun r8 σ7 h => ?_)
    exact a_iret Rt dX11_swaps_34 rfl (ret_eq (h.trans (congrArg some hR.symm)))
  ·
    refine a_iconst C dX11_swaps_11 (v := (-1)) rfl ?_
    exact a_iret Rt dX11_swaps_12 rfl (ret_eq (h.trans (congrArg some hR.symm)))
set_option maxHeartbeats 4000000 in
set_option maxRecDepth 100000 in
theorem Z_X11_ways {l : Launch} {D : va_G} {ids : List Nat} {ad : Nat → Nat} {ca : Nat → ClassId} {σ : HS} {x1 : Int32} {x2 : Int32} {x3 : Int32} {x4 : Int32} {r0 : Int32} {s0 : HS} (hid : ∀ i, i < 277 → i ∈ ids) (h : f_X11_ways x1 x2 x3 x4 σ = some (r0, s0)) : Ki l D ids ad ca yX11_ways cX11_ways 5 .int 16 608 [.ref (ad 0), .int x1, .int x2, .int x3, .int x4] σ (fun r σ1 => r = r0 ∧ σ1 = s0) := by
  obtain ⟨R, hR⟩ : ∃ R, (r0, s0) = R := ⟨_, rfl⟩
  replace h := h.trans (congrArg some hR)
  refine Ki.of (by decide) (Nat.le_of_ble_eq_true rfl) 0 (fun Γ C Rt => ?_)
  show AW ids ad ca Γ 0 [some (.ref (ad 0)), some (.int x1), some (.int x2), some (.int x3), some (.int x4)] [] σ
  unfold f_X11_ways at h
  refine a_iload_n C dX11_ways_0 (i := 1) rfl rfl ?_
  refine a_iconst C dX11_ways_1 (v := 1) rfl ?_
  refine p_ic_lt C (X := x1.toInt) (Y := 1) rfl (by decide) dX11_ways_2 (tgt := 43) rfl h (fun h => ?_) (fun h => ?_)
  ·
    refine a_iconst C dX11_ways_43 (v := (-1)) rfl ?_
    exact a_iret Rt dX11_ways_44 rfl (ret_eq (h.trans (congrArg some hR.symm)))
  ·
    refine a_iload_n C dX11_ways_5 (i := 1) rfl rfl ?_
    refine a_iconst C dX11_ways_6 (v := 5) rfl ?_
    refine p_ic_gt C (X := x1.toInt) (Y := 5) rfl (by decide) dX11_ways_7 (tgt := 43) rfl h (fun h => ?_) (fun h => ?_)
    ·
      refine a_iconst C dX11_ways_43 (v := (-1)) rfl ?_
      exact a_iret Rt dX11_ways_44 rfl (ret_eq (h.trans (congrArg some hR.symm)))
    ·
      refine a_iload_n C dX11_ways_10 (i := 2) rfl rfl ?_
      refine a_iconst C dX11_ways_11 (v := 1) rfl ?_
      refine p_ic_lt C (X := x2.toInt) (Y := 1) rfl (by decide) dX11_ways_12 (tgt := 43) rfl h (fun h => ?_) (fun h => ?_)
      ·
        refine a_iconst C dX11_ways_43 (v := (-1)) rfl ?_
        exact a_iret Rt dX11_ways_44 rfl (ret_eq (h.trans (congrArg some hR.symm)))
      ·
        refine a_iload_n C dX11_ways_15 (i := 2) rfl rfl ?_
        refine a_bipush C dX11_ways_16 (v := 7) rfl ?_
        refine p_ic_gt C (X := x2.toInt) (Y := 7) rfl (by decide) dX11_ways_18 (tgt := 43) rfl h (fun h => ?_) (fun h => ?_)
        ·
          refine a_iconst C dX11_ways_43 (v := (-1)) rfl ?_
          exact a_iret Rt dX11_ways_44 rfl (ret_eq (h.trans (congrArg some hR.symm)))
        ·
          refine a_iload_n C dX11_ways_21 (i := 3) rfl rfl ?_
          refine p_if_lt C (X := x3.toInt) rfl dX11_ways_22 (tgt := 43) rfl h (fun h => ?_) (fun h => ?_)
          ·
            refine a_iconst C dX11_ways_43 (v := (-1)) rfl ?_
            exact a_iret Rt dX11_ways_44 rfl (ret_eq (h.trans (congrArg some hR.symm)))
          ·
            refine a_iload_n C dX11_ways_25 (i := 3) rfl rfl ?_
            refine a_bipush C dX11_ways_26 (v := 7) rfl ?_
            refine p_ic_gt C (X := x3.toInt) (Y := 7) rfl (by decide) dX11_ways_28 (tgt := 43) rfl h (fun h => ?_) (fun h => ?_)
            ·
              refine a_iconst C dX11_ways_43 (v := (-1)) rfl ?_
              exact a_iret Rt dX11_ways_44 rfl (ret_eq (h.trans (congrArg some hR.symm)))
            ·
              refine a_iload C dX11_ways_31 rfl ?_
              refine a_iconst C dX11_ways_33 (v := (-1)) rfl ?_
              refine p_ic_lt C (X := x4.toInt) (Y := (-1)) rfl (by decide) dX11_ways_34 (tgt := 43) rfl h (fun h => ?_) (fun h => ?_)
              ·
                refine a_iconst C dX11_ways_43 (v := (-1)) rfl ?_
                exact a_iret Rt dX11_ways_44 rfl (ret_eq (h.trans (congrArg some hR.symm)))
              ·
                refine a_iload C dX11_ways_37 rfl ?_
                refine a_iload_n C dX11_ways_39 (i := 1) rfl rfl ?_
                refine p_ic_lt C (X := x4.toInt) (Y := x1.toInt) rfl rfl dX11_ways_40 (tgt := 45) rfl h (fun h => ?_) (fun h => ?_)
                ·
                  refine a_aload_n C dX11_ways_45 (i := 0) rfl rfl ?_
                  refine a_get C fl_RX11_47 (i := 0) kd_0 (hid 0 (by decide)) (v := .ref (ad 22)) rfl dX11_ways_46 ?_
                  refine a_iload_n C dX11_ways_49 (i := 1) rfl rfl ?_
                  refine a_iload_n C dX11_ways_50 (i := 2) rfl rfl ?_
                  refine a_iload_n C dX11_ways_51 (i := 3) rfl rfl ?_
                  refine p_callVv C (As := [.int x1, .int x2, .int x3]) (i := 22) kd_22 (hid 22 (by decide)) ⟨_, _, rfl⟩ (by decide) h (fun _ e => Z_X8_find hid e) mi_X8_find ml_RX11_266 rfl rfl (Nat.le_of_ble_eq_true rfl) (Nat.le_of_ble_eq_true rfl) (Nat.le_of_ble_eq_true rfl) dX11_ways_52 (fun σ1 h => ?_)
                  refine a_iload C dX11_ways_55 rfl ?_
                  refine a_iconst C dX11_ways_57 (v := (-1)) rfl ?_
                  refine p_ic_ne C (X := x4.toInt) (Y := (-1)) rfl (by decide) dX11_ways_58 (tgt := 69) rfl h (fun h => ?_) (fun h => ?_)
                  ·
                    refine a_aload_n C dX11_ways_69 (i := 0) rfl rfl ?_
                    refine a_get C fl_RX11_47 (i := 0) kd_0 (hid 0 (by decide)) (v := .ref (ad 22)) rfl dX11_ways_70 ?_
                    refine a_get C fl_RX11_270 (i := 22) kd_22 (hid 22 (by decide)) (v := .int (σ1.1 22 2)) rfl dX11_ways_73 ?_
                    refine p_if_ne C (X := (σ1.1 22 2).toInt) rfl dX11_ways_76 (tgt := 84) rfl h (fun h => ?_) (fun h => ?_)
                    ·
                      refine a_aload_n C dX11_ways_84 (i := 0) rfl rfl ?_
                      refine a_get C fl_RX11_47 (i := 0) kd_0 (hid 0 (by decide)) (v := .ref (ad 22)) rfl dX11_ways_85 ?_
                      refine a_get C fl_RX11_273 (i := 22) kd_22 (hid 22 (by decide)) (v := .ref (ad 24)) rfl dX11_ways_88 ?_
                      refine a_iload C dX11_ways_91 rfl ?_
                      refine p_iald C (i := 24) (show rowOK 24 from ⟨kd_24, by decide⟩) hid (by rw [al_24]; rfl) dX11_ways_93 h (fun h => ?_)
                      exact a_iret Rt dX11_ways_94 rfl (ret_eq (h.trans (congrArg some hR.symm)))
                    ·
                      refine a_bipush C dX11_ways_79 (v := (-2)) rfl ?_
                      refine a_goto C dX11_ways_81 (tgt := 94) rfl ?_
                      exact a_iret Rt dX11_ways_94 rfl (ret_eq (h.trans (congrArg some hR.symm)))
                  ·
                    refine a_aload_n C dX11_ways_61 (i := 0) rfl rfl ?_
                    refine a_get C fl_RX11_47 (i := 0) kd_0 (hid 0 (by decide)) (v := .ref (ad 22)) rfl dX11_ways_62 ?_
                    refine a_get C fl_RX11_270 (i := 22) kd_22 (hid 22 (by decide)) (v := .int (σ1.1 22 2)) rfl dX11_ways_65 ?_
                    exact a_iret Rt dX11_ways_68 rfl (ret_eq (h.trans (congrArg some hR.symm)))
                ·
                  refine a_iconst C dX11_ways_43 (v := (-1)) rfl ?_
                  exact a_iret Rt dX11_ways_44 rfl (ret_eq (h.trans (congrArg some hR.symm)))
set_option maxHeartbeats 4000000 in
set_option maxRecDepth 100000 in
theorem Z_X11_lands {l : Launch} {D : va_G} {ids : List Nat} {ad : Nat → Nat} {ca : Nat → ClassId} {σ : HS} {r0 : Int32} {s0 : HS} (hid : ∀ i, i < 277 → i ∈ ids) (h : f_X11_lands σ = some (r0, s0)) : Ki l D ids ad ca yX11_lands cX11_lands 1 .int 2 43 [.ref (ad 0)] σ (fun r σ1 => r = r0 ∧ σ1 = s0) := by
  obtain ⟨R, hR⟩ : ∃ R, (r0, s0) = R := ⟨_, rfl⟩
  replace h := h.trans (congrArg some hR)
  refine Ki.of (by decide) (Nat.le_of_ble_eq_true rfl) 0 (fun Γ C Rt => ?_)
  show AW ids ad ca Γ 0 [some (.ref (ad 0))] [] σ
  unfold f_X11_lands at h
  refine a_aload_n C dX11_lands_0 (i := 0) rfl rfl ?_
  refine a_get C fl_RX11_54 (i := 0) kd_0 (hid 0 (by decide)) (v := .ref (ad 56)) rfl dX11_lands_1 ?_
  refine p_callVi C (As := []) (i := 56) (show airOK 56 from airOK_of 0 (by decide)).1.1 (hid _ (show airOK 56 from airOK_of 0 (by decide)).1.2) ⟨_, _, rfl⟩ (by decide) h (fun _ _ e => Z_X0_landingBits hid (show airOK 56 from airOK_of 0 (by decide)) e) mi_X0_landingBits ml_RX11_276 rfl rfl (Nat.le_of_ble_eq_true rfl) (Nat.le_of_ble_eq_true rfl) (Nat.le_of_ble_eq_true rfl) dX11_lands_4 (fun r2 σ1 h => ?_)
  exact a_iret Rt dX11_lands_7 rfl (ret_eq (h.trans (congrArg some hR.symm)))
set_option maxHeartbeats 4000000 in
set_option maxRecDepth 100000 in
theorem Z_X11_findHands {l : Launch} {D : va_G} {ids : List Nat} {ad : Nat → Nat} {ca : Nat → ClassId} {σ : HS} {x1 : Int32} {s0 : HS} (hid : ∀ i, i < 277 → i ∈ ids) (h : f_X11_findHands x1 σ = some s0) : Kv l D ids ad ca yX11_findHands cX11_findHands 3 6 146 [.ref (ad 0), .int x1] σ (fun σ1 => σ1 = s0) := by
  obtain ⟨R, hR⟩ : ∃ R, s0 = R := ⟨_, rfl⟩
  replace h := h.trans (congrArg some hR)
  refine Kv.of (by decide) (Nat.le_of_ble_eq_true rfl) 1 (fun Γ C Rt => ?_)
  show AW ids ad ca Γ 0 [some (.ref (ad 0)), some (.int x1), none] [] σ
  unfold f_X11_findHands at h
  have j13 : ∀ (n : Nat) (y1 : Int32) (y2 : Int32) (σ : HS), f_X11_findHands_13 n y1 y2 σ = some R → AW ids ad ca Γ 13 [some (.ref (ad 0)), some (.int y1), some (.int y2)] [] σ := by
    intro n
    induction n with
    | zero => intro y1 y2 σ h; exact nn h
    | succ n ih =>
      intro y1 y2 σ h
      have h : b_X11_findHands_13 (f_X11_findHands_13 n) y1 y2 σ = some R := h
      unfold b_X11_findHands_13 at h
      refine a_iload_n C dX11_findHands_13 (i := 2) rfl rfl ?_
      refine a_iload_n C dX11_findHands_14 (i := 1) rfl rfl ?_
      refine p_ic_ge C (X := y2.toInt) (Y := y1.toInt) rfl rfl dX11_findHands_15 (tgt := 61) rfl h (fun h => ?_) (fun h => ?_)
      ·
        exact a_vret Rt dX11_findHands_61 (retv_eq (h.trans (congrArg some hR.symm)))
      ·
        refine a_iload_n C dX11_findHands_18 (i := 2) rfl rfl ?_
        refine a_aload_n C dX11_findHands_19 (i := 0) rfl rfl ?_
        refine a_get C fl_RX11_69 (i := 0) kd_0 (hid 0 (by decide)) (v := .ref (ad 27)) rfl dX11_findHands_20 ?_
        refine a_alen C (by rw [kd_27]; decide) (hid _ (show rowOK 27 from ⟨kd_27, by decide⟩).2) (v := 61) (by rw [al_27]; rfl) dX11_findHands_23 ?_
        refine p_ic_ge C (X := y2.toInt) (Y := 61) rfl (by decide) dX11_findHands_24 (tgt := 61) rfl h (fun h => ?_) (fun h => ?_)
        ·
          exact a_vret Rt dX11_findHands_61 (retv_eq (h.trans (congrArg some hR.symm)))
        ·
          refine a_aload_n C dX11_findHands_27 (i := 0) rfl rfl ?_
          refine a_get C fl_RX11_69 (i := 0) kd_0 (hid 0 (by decide)) (v := .ref (ad 27)) rfl dX11_findHands_28 ?_
          refine a_iload_n C dX11_findHands_31 (i := 2) rfl rfl ?_
          refine a_aload_n C dX11_findHands_32 (i := 0) rfl rfl ?_
          refine a_get C fl_RX11_58 (i := 0) kd_0 (hid 0 (by decide)) (v := .ref (ad 60)) rfl dX11_findHands_33 ?_
          refine p_callVi C (As := []) (i := 60) (show airOK 60 from airOK_of 1 (by decide)).1.1 (hid _ (show airOK 60 from airOK_of 1 (by decide)).1.2) ⟨_, _, rfl⟩ (by decide) h (fun _ _ e => Z_X0_firstLanding hid (show airOK 60 from airOK_of 1 (by decide)) e) mi_X0_firstLanding ml_RX11_282 rfl rfl (Nat.le_of_ble_eq_true rfl) (Nat.le_of_ble_eq_true rfl) (Nat.le_of_ble_eq_true rfl) dX11_findHands_36 (fun r2 σ1 h => ?_)
          refine p_iast C (i := 27) (show rowOK 27 from ⟨kd_27, by decide⟩) hid (by rw [al_27]; rfl) dX11_findHands_39 h (fun σ3 h => ?_)
          refine a_aload_n C dX11_findHands_40 (i := 0) rfl rfl ?_
          refine a_get C fl_RX11_19 (i := 0) kd_0 (hid 0 (by decide)) (v := .ref (ad 8)) rfl dX11_findHands_41 ?_
          refine a_aload_n C dX11_findHands_44 (i := 0) rfl rfl ?_
          refine p_getT C fl_RX11_82 (tx := (σ3.2.2 0)) kd_0 (hid 0 (by decide)) (fun t e => by subst e; rfl) dX11_findHands_45 h (fun ht4 h => ?_)
          refine a_aload_n C dX11_findHands_48 (i := 0) rfl rfl ?_
          refine a_get C fl_RX11_58 (i := 0) kd_0 (hid 0 (by decide)) (v := .ref (ad 60)) rfl dX11_findHands_49 ?_
          refine p_callVv C (As := [.ref (ad ((σ3.2.2 0))), .ref (ad 60)]) (i := 8) kd_8 (hid 8 (by decide)) ⟨_, _, rfl⟩ (by decide) h (fun _ e => Z_X4_goOnSafely hid ht4 (show airOK 60 from airOK_of 1 (by decide)) e) mi_X4_goOnSafely ml_RX11_285 rfl rfl (Nat.le_of_ble_eq_true rfl) (Nat.le_of_ble_eq_true rfl) (Nat.le_of_ble_eq_true rfl) dX11_findHands_52 (fun σ5 h => ?_)
          refine p_iinc C (y := (y2 + 1)) (fun z7 => [some (.ref (ad 0)), some (.int y1), some (.int z7)]) dX11_findHands_55 rfl rfl (by decide) rfl (fun _ => rfl) h (fun z7 h => ?_)
          refine a_goto C dX11_findHands_58 (tgt := 13) rfl ?_
          exact ih _ _ _ h
  refine a_aload_n C dX11_findHands_0 (i := 0) rfl rfl ?_
  refine a_get C fl_RX11_58 (i := 0) kd_0 (hid 0 (by decide)) (v := .ref (ad 60)) rfl dX11_findHands_1 ?_
  refine a_aload_n C dX11_findHands_4 (i := 0) rfl rfl ?_
  refine a_get C fl_RX11_54 (i := 0) kd_0 (hid 0 (by decide)) (v := .ref (ad 56)) rfl dX11_findHands_5 ?_
  refine p_callVv C (As := [.ref (ad 56)]) (i := 60) (show airOK 60 from airOK_of 1 (by decide)).1.1 (hid _ (show airOK 60 from airOK_of 1 (by decide)).1.2) ⟨_, _, rfl⟩ (by decide) h (fun _ e => Z_X0_copy hid (show airOK 60 from airOK_of 1 (by decide)) (show airOK 56 from airOK_of 0 (by decide)) e) mi_X0_copy ml_RX11_230 rfl rfl (Nat.le_of_ble_eq_true rfl) (Nat.le_of_ble_eq_true rfl) (Nat.le_of_ble_eq_true rfl) dX11_findHands_8 (fun σ1 h => ?_)
  refine a_iconst C dX11_findHands_11 (v := 0) rfl ?_
  refine a_istore_n C dX11_findHands_12 (i := 2) rfl (by decide) rfl (vs1 := [some (.ref (ad 0)), some (.int x1), some (.int 0)]) rfl ?_
  exact j13 _ _ _ _ h
set_option maxHeartbeats 4000000 in
set_option maxRecDepth 100000 in
theorem Z_X11_inHand {l : Launch} {D : va_G} {ids : List Nat} {ad : Nat → Nat} {ca : Nat → ClassId} {σ : HS} {x1 : Int32} {r0 : Int32} {s0 : HS} (hid : ∀ i, i < 277 → i ∈ ids) (h : f_X11_inHand x1 σ = some (r0, s0)) : Ki l D ids ad ca yX11_inHand cX11_inHand 2 .int 7 168 [.ref (ad 0), .int x1] σ (fun r σ1 => r = r0 ∧ σ1 = s0) := by
  obtain ⟨R, hR⟩ : ∃ R, (r0, s0) = R := ⟨_, rfl⟩
  replace h := h.trans (congrArg some hR)
  refine Ki.of (by decide) (Nat.le_of_ble_eq_true rfl) 0 (fun Γ C Rt => ?_)
  show AW ids ad ca Γ 0 [some (.ref (ad 0)), some (.int x1)] [] σ
  unfold f_X11_inHand at h
  refine a_iload_n C dX11_inHand_0 (i := 1) rfl rfl ?_
  refine p_if_lt C (X := x1.toInt) rfl dX11_inHand_1 (tgt := 10) rfl h (fun h => ?_) (fun h => ?_)
  ·
    refine a_iconst C dX11_inHand_10 (v := (-1)) rfl ?_
    exact a_iret Rt dX11_inHand_11 rfl (ret_eq (h.trans (congrArg some hR.symm)))
  ·
    refine a_iload_n C dX11_inHand_4 (i := 1) rfl rfl ?_
    refine a_bipush C dX11_inHand_5 (v := 60) rfl ?_
    refine p_ic_le C (X := x1.toInt) (Y := 60) rfl (by decide) dX11_inHand_7 (tgt := 12) rfl h (fun h => ?_) (fun h => ?_)
    ·
      refine a_aload_n C dX11_inHand_12 (i := 0) rfl rfl ?_
      refine a_iload_n C dX11_inHand_13 (i := 1) rfl rfl ?_
      refine a_iconst C dX11_inHand_14 (v := 1) rfl ?_
      refine a_iadd C dX11_inHand_15 ?_
      refine p_callVv C (As := [.int (x1 + (1 : Int32))]) (i := 0) kd_0 (hid 0 (by decide)) ⟨_, _, rfl⟩ (by decide) h (fun _ e => Z_X11_findHands hid e) mi_X11_findHands ml_RX11_279 rfl rfl (Nat.le_of_ble_eq_true rfl) (Nat.le_of_ble_eq_true rfl) (Nat.le_of_ble_eq_true rfl) dX11_inHand_16 (fun σ1 h => ?_)
      refine a_aload_n C dX11_inHand_19 (i := 0) rfl rfl ?_
      refine a_get C fl_RX11_69 (i := 0) kd_0 (hid 0 (by decide)) (v := .ref (ad 27)) rfl dX11_inHand_20 ?_
      refine a_iload_n C dX11_inHand_23 (i := 1) rfl rfl ?_
      refine p_iald C (i := 27) (show rowOK 27 from ⟨kd_27, by decide⟩) hid (by rw [al_27]; rfl) dX11_inHand_24 h (fun h => ?_)
      refine a_iconst C dX11_inHand_25 (v := (-1)) rfl ?_
      refine p_ic_ne C (X := (σ1.1 27 x1.toInt.toNat).toInt) (Y := (-1)) rfl (by decide) dX11_inHand_26 (tgt := 34) rfl h (fun h => ?_) (fun h => ?_)
      ·
        refine a_aload_n C dX11_inHand_34 (i := 0) rfl rfl ?_
        refine a_get C fl_RX11_69 (i := 0) kd_0 (hid 0 (by decide)) (v := .ref (ad 27)) rfl dX11_inHand_35 ?_
        refine a_iload_n C dX11_inHand_38 (i := 1) rfl rfl ?_
        refine p_iald C (i := 27) (show rowOK 27 from ⟨kd_27, by decide⟩) hid (by rw [al_27]; rfl) dX11_inHand_39 h (fun h => ?_)
        exact a_iret Rt dX11_inHand_40 rfl (ret_eq (h.trans (congrArg some hR.symm)))
      ·
        refine a_bipush C dX11_inHand_29 (v := (-2)) rfl ?_
        refine a_goto C dX11_inHand_31 (tgt := 40) rfl ?_
        exact a_iret Rt dX11_inHand_40 rfl (ret_eq (h.trans (congrArg some hR.symm)))
    ·
      refine a_iconst C dX11_inHand_10 (v := (-1)) rfl ?_
      exact a_iret Rt dX11_inHand_11 rfl (ret_eq (h.trans (congrArg some hR.symm)))

set_option maxHeartbeats 4000000 in
set_option maxRecDepth 100000 in
theorem Z_X11_firstClash {l : Launch} {D : va_G} {ids : List Nat} {ad : Nat → Nat} {ca : Nat → ClassId} {σ : HS} {x1 : Int32} {r0 : Int32} {s0 : HS} (hid : ∀ i, i < 277 → i ∈ ids) (h : f_X11_firstClash x1 σ = some (r0, s0)) : Ki l D ids ad ca yX11_firstClash cX11_firstClash 3 .int 6 146 [.ref (ad 0), .int x1] σ (fun r σ1 => r = r0 ∧ σ1 = s0) := by
  obtain ⟨R, hR⟩ : ∃ R, (r0, s0) = R := ⟨_, rfl⟩
  replace h := h.trans (congrArg some hR)
  refine Ki.of (by decide) (Nat.le_of_ble_eq_true rfl) 1 (fun Γ C Rt => ?_)
  show AW ids ad ca Γ 0 [some (.ref (ad 0)), some (.int x1), none] [] σ
  unfold f_X11_firstClash at h
  have j2 : ∀ (n : Nat) (y1 : Int32) (y2 : Int32) (σ : HS), f_X11_firstClash_2 n y1 y2 σ = some R → AW ids ad ca Γ 2 [some (.ref (ad 0)), some (.int y1), some (.int y2)] [] σ := by
    intro n
    induction n with
    | zero => intro y1 y2 σ h; exact nn h
    | succ n ih =>
      intro y1 y2 σ h
      have h : b_X11_firstClash_2 (f_X11_firstClash_2 n) y1 y2 σ = some R := h
      unfold b_X11_firstClash_2 at h
      refine a_iload_n C dX11_firstClash_2 (i := 2) rfl rfl ?_
      refine a_iload_n C dX11_firstClash_3 (i := 1) rfl rfl ?_
      refine p_ic_gt C (X := y2.toInt) (Y := y1.toInt) rfl rfl dX11_firstClash_4 (tgt := 41) rfl h (fun h => ?_) (fun h => ?_)
      ·
        refine a_bipush C dX11_firstClash_41 (v := (-2)) rfl ?_
        exact a_iret Rt dX11_firstClash_43 rfl (ret_eq (h.trans (congrArg some hR.symm)))
      ·
        refine a_aload_n C dX11_firstClash_7 (i := 0) rfl rfl ?_
        refine a_get C fl_RX11_58 (i := 0) kd_0 (hid 0 (by decide)) (v := .ref (ad 60)) rfl dX11_firstClash_8 ?_
        refine p_callVi C (As := []) (i := 60) (show airOK 60 from airOK_of 1 (by decide)).1.1 (hid _ (show airOK 60 from airOK_of 1 (by decide)).1.2) ⟨_, _, rfl⟩ (by decide) h (fun _ _ e => Z_X0_howManyLand hid (show airOK 60 from airOK_of 1 (by decide)) e) mi_X0_howManyLand ml_RX11_292 rfl rfl (Nat.le_of_ble_eq_true rfl) (Nat.le_of_ble_eq_true rfl) (Nat.le_of_ble_eq_true rfl) dX11_firstClash_11 (fun r2 σ1 h => ?_)
        refine a_iconst C dX11_firstClash_14 (v := 1) rfl ?_
        refine p_ic_le C (X := r2.toInt) (Y := 1) rfl (by decide) dX11_firstClash_15 (tgt := 20) rfl h (fun h => ?_) (fun h => ?_)
        ·
          refine a_aload_n C dX11_firstClash_20 (i := 0) rfl rfl ?_
          refine a_get C fl_RX11_19 (i := 0) kd_0 (hid 0 (by decide)) (v := .ref (ad 8)) rfl dX11_firstClash_21 ?_
          refine a_aload_n C dX11_firstClash_24 (i := 0) rfl rfl ?_
          refine p_getT C fl_RX11_82 (tx := (σ1.2.2 0)) kd_0 (hid 0 (by decide)) (fun t e => by subst e; rfl) dX11_firstClash_25 h (fun ht3 h => ?_)
          refine a_aload_n C dX11_firstClash_28 (i := 0) rfl rfl ?_
          refine a_get C fl_RX11_58 (i := 0) kd_0 (hid 0 (by decide)) (v := .ref (ad 60)) rfl dX11_firstClash_29 ?_
          refine p_callVv C (As := [.ref (ad ((σ1.2.2 0))), .ref (ad 60)]) (i := 8) kd_8 (hid 8 (by decide)) ⟨_, _, rfl⟩ (by decide) h (fun _ e => Z_X4_goOnSafely hid ht3 (show airOK 60 from airOK_of 1 (by decide)) e) mi_X4_goOnSafely ml_RX11_285 rfl rfl (Nat.le_of_ble_eq_true rfl) (Nat.le_of_ble_eq_true rfl) (Nat.le_of_ble_eq_true rfl) dX11_firstClash_32 (fun σ4 h => ?_)
          refine p_iinc C (y := (y2 + 1)) (fun z6 => [some (.ref (ad 0)), some (.int y1), some (.int z6)]) dX11_firstClash_35 rfl rfl (by decide) rfl (fun _ => rfl) h (fun z6 h => ?_)
          refine a_goto C dX11_firstClash_38 (tgt := 2) rfl ?_
          exact ih _ _ _ h
        ·
          refine a_iload_n C dX11_firstClash_18 (i := 2) rfl rfl ?_
          exact a_iret Rt dX11_firstClash_19 rfl (ret_eq (h.trans (congrArg some hR.symm)))
  refine a_iconst C dX11_firstClash_0 (v := 0) rfl ?_
  refine a_istore_n C dX11_firstClash_1 (i := 2) rfl (by decide) rfl (vs1 := [some (.ref (ad 0)), some (.int x1), some (.int 0)]) rfl ?_
  exact j2 _ _ _ _ h
set_option maxHeartbeats 4000000 in
set_option maxRecDepth 100000 in
theorem Z_X11_clash {l : Launch} {D : va_G} {ids : List Nat} {ad : Nat → Nat} {ca : Nat → ClassId} {σ : HS} {r0 : Int32} {s0 : HS} (hid : ∀ i, i < 277 → i ∈ ids) (h : f_X11_clash σ = some (r0, s0)) : Ki l D ids ad ca yX11_clash cX11_clash 1 .int 7 168 [.ref (ad 0)] σ (fun r σ1 => r = r0 ∧ σ1 = s0) := by
  obtain ⟨R, hR⟩ : ∃ R, (r0, s0) = R := ⟨_, rfl⟩
  replace h := h.trans (congrArg some hR)
  refine Ki.of (by decide) (Nat.le_of_ble_eq_true rfl) 0 (fun Γ C Rt => ?_)
  show AW ids ad ca Γ 0 [some (.ref (ad 0))] [] σ
  unfold f_X11_clash at h
  refine a_aload_n C dX11_clash_0 (i := 0) rfl rfl ?_
  refine a_get C fl_RX11_58 (i := 0) kd_0 (hid 0 (by decide)) (v := .ref (ad 60)) rfl dX11_clash_1 ?_
  refine a_aload_n C dX11_clash_4 (i := 0) rfl rfl ?_
  refine a_get C fl_RX11_54 (i := 0) kd_0 (hid 0 (by decide)) (v := .ref (ad 56)) rfl dX11_clash_5 ?_
  refine p_callVv C (As := [.ref (ad 56)]) (i := 60) (show airOK 60 from airOK_of 1 (by decide)).1.1 (hid _ (show airOK 60 from airOK_of 1 (by decide)).1.2) ⟨_, _, rfl⟩ (by decide) h (fun _ e => Z_X0_copy hid (show airOK 60 from airOK_of 1 (by decide)) (show airOK 56 from airOK_of 0 (by decide)) e) mi_X0_copy ml_RX11_230 rfl rfl (Nat.le_of_ble_eq_true rfl) (Nat.le_of_ble_eq_true rfl) (Nat.le_of_ble_eq_true rfl) dX11_clash_8 (fun σ1 h => ?_)
  refine a_aload_n C dX11_clash_11 (i := 0) rfl rfl ?_
  refine a_bipush C dX11_clash_12 (v := 60) rfl ?_
  refine p_callVi C (As := [.int 60]) (i := 0) kd_0 (hid 0 (by decide)) ⟨_, _, rfl⟩ (by decide) h (fun _ _ e => Z_X11_firstClash hid e) mi_X11_firstClash ml_RX11_289 rfl rfl (Nat.le_of_ble_eq_true rfl) (Nat.le_of_ble_eq_true rfl) (Nat.le_of_ble_eq_true rfl) dX11_clash_14 (fun r4 σ3 h => ?_)
  exact a_iret Rt dX11_clash_17 rfl (ret_eq (h.trans (congrArg some hR.symm)))
set_option maxHeartbeats 4000000 in
set_option maxRecDepth 100000 in
theorem Z_X11_gap {l : Launch} {D : va_G} {ids : List Nat} {ad : Nat → Nat} {ca : Nat → ClassId} {σ : HS} {r0 : Int32} {s0 : HS} (hid : ∀ i, i < 277 → i ∈ ids) (h : f_X11_gap σ = some (r0, s0)) : Ki l D ids ad ca yX11_gap cX11_gap 2 .int 6 146 [.ref (ad 0)] σ (fun r σ1 => r = r0 ∧ σ1 = s0) := by
  obtain ⟨R, hR⟩ : ∃ R, (r0, s0) = R := ⟨_, rfl⟩
  replace h := h.trans (congrArg some hR)
  refine Ki.of (by decide) (Nat.le_of_ble_eq_true rfl) 1 (fun Γ C Rt => ?_)
  show AW ids ad ca Γ 0 [some (.ref (ad 0)), none] [] σ
  unfold f_X11_gap at h
  have j13 : ∀ (n : Nat) (y1 : Int32) (σ : HS), f_X11_gap_13 n y1 σ = some R → AW ids ad ca Γ 13 [some (.ref (ad 0)), some (.int y1)] [] σ := by
    intro n
    induction n with
    | zero => intro y1 σ h; exact nn h
    | succ n ih =>
      intro y1 σ h
      have h : b_X11_gap_13 (f_X11_gap_13 n) y1 σ = some R := h
      unfold b_X11_gap_13 at h
      refine a_iload_n C dX11_gap_13 (i := 1) rfl rfl ?_
      refine a_bipush C dX11_gap_14 (v := 60) rfl ?_
      refine p_ic_gt C (X := y1.toInt) (Y := 60) rfl (by decide) dX11_gap_16 (tgt := 52) rfl h (fun h => ?_) (fun h => ?_)
      ·
        refine a_bipush C dX11_gap_52 (v := (-2)) rfl ?_
        exact a_iret Rt dX11_gap_54 rfl (ret_eq (h.trans (congrArg some hR.symm)))
      ·
        refine a_aload_n C dX11_gap_19 (i := 0) rfl rfl ?_
        refine a_get C fl_RX11_58 (i := 0) kd_0 (hid 0 (by decide)) (v := .ref (ad 60)) rfl dX11_gap_20 ?_
        refine p_callVi C (As := []) (i := 60) (show airOK 60 from airOK_of 1 (by decide)).1.1 (hid _ (show airOK 60 from airOK_of 1 (by decide)).1.2) ⟨_, _, rfl⟩ (by decide) h (fun _ _ e => Z_X0_howManyLand hid (show airOK 60 from airOK_of 1 (by decide)) e) mi_X0_howManyLand ml_RX11_292 rfl rfl (Nat.le_of_ble_eq_true rfl) (Nat.le_of_ble_eq_true rfl) (Nat.le_of_ble_eq_true rfl) dX11_gap_23 (fun r2 σ1 h => ?_)
        refine p_if_ne C (X := r2.toInt) rfl dX11_gap_26 (tgt := 31) rfl h (fun h => ?_) (fun h => ?_)
        ·
          refine a_aload_n C dX11_gap_31 (i := 0) rfl rfl ?_
          refine a_get C fl_RX11_19 (i := 0) kd_0 (hid 0 (by decide)) (v := .ref (ad 8)) rfl dX11_gap_32 ?_
          refine a_aload_n C dX11_gap_35 (i := 0) rfl rfl ?_
          refine p_getT C fl_RX11_82 (tx := (σ1.2.2 0)) kd_0 (hid 0 (by decide)) (fun t e => by subst e; rfl) dX11_gap_36 h (fun ht3 h => ?_)
          refine a_aload_n C dX11_gap_39 (i := 0) rfl rfl ?_
          refine a_get C fl_RX11_58 (i := 0) kd_0 (hid 0 (by decide)) (v := .ref (ad 60)) rfl dX11_gap_40 ?_
          refine p_callVv C (As := [.ref (ad ((σ1.2.2 0))), .ref (ad 60)]) (i := 8) kd_8 (hid 8 (by decide)) ⟨_, _, rfl⟩ (by decide) h (fun _ e => Z_X4_goOnSafely hid ht3 (show airOK 60 from airOK_of 1 (by decide)) e) mi_X4_goOnSafely ml_RX11_285 rfl rfl (Nat.le_of_ble_eq_true rfl) (Nat.le_of_ble_eq_true rfl) (Nat.le_of_ble_eq_true rfl) dX11_gap_43 (fun σ4 h => ?_)
          refine p_iinc C (y := (y1 + 1)) (fun z6 => [some (.ref (ad 0)), some (.int z6)]) dX11_gap_46 rfl rfl (by decide) rfl (fun _ => rfl) h (fun z6 h => ?_)
          refine a_goto C dX11_gap_49 (tgt := 13) rfl ?_
          exact ih _ _ h
        ·
          refine a_iload_n C dX11_gap_29 (i := 1) rfl rfl ?_
          exact a_iret Rt dX11_gap_30 rfl (ret_eq (h.trans (congrArg some hR.symm)))
  refine a_aload_n C dX11_gap_0 (i := 0) rfl rfl ?_
  refine a_get C fl_RX11_58 (i := 0) kd_0 (hid 0 (by decide)) (v := .ref (ad 60)) rfl dX11_gap_1 ?_
  refine a_aload_n C dX11_gap_4 (i := 0) rfl rfl ?_
  refine a_get C fl_RX11_54 (i := 0) kd_0 (hid 0 (by decide)) (v := .ref (ad 56)) rfl dX11_gap_5 ?_
  refine p_callVv C (As := [.ref (ad 56)]) (i := 60) (show airOK 60 from airOK_of 1 (by decide)).1.1 (hid _ (show airOK 60 from airOK_of 1 (by decide)).1.2) ⟨_, _, rfl⟩ (by decide) h (fun _ e => Z_X0_copy hid (show airOK 60 from airOK_of 1 (by decide)) (show airOK 56 from airOK_of 0 (by decide)) e) mi_X0_copy ml_RX11_230 rfl rfl (Nat.le_of_ble_eq_true rfl) (Nat.le_of_ble_eq_true rfl) (Nat.le_of_ble_eq_true rfl) dX11_gap_8 (fun σ1 h => ?_)
  refine a_iconst C dX11_gap_11 (v := 0) rfl ?_
  refine a_istore_n C dX11_gap_12 (i := 1) rfl (by decide) rfl (vs1 := [some (.ref (ad 0)), some (.int 0)]) rfl ?_
  exact j13 _ _ _ h
set_option maxHeartbeats 4000000 in
set_option maxRecDepth 100000 in
theorem Z_X11_room {l : Launch} {D : va_G} {ids : List Nat} {ad : Nat → Nat} {ca : Nat → ClassId} {σ : HS} {x1 : Int32} {r0 : Int32} {s0 : HS} (hid : ∀ i, i < 277 → i ∈ ids) (h : f_X11_room x1 σ = some (r0, s0)) : Ki l D ids ad ca yX11_room cX11_room 3 .int 7 168 [.ref (ad 0), .int x1] σ (fun r σ1 => r = r0 ∧ σ1 = s0) := by
  obtain ⟨R, hR⟩ : ∃ R, (r0, s0) = R := ⟨_, rfl⟩
  replace h := h.trans (congrArg some hR)
  refine Ki.of (by decide) (Nat.le_of_ble_eq_true rfl) 1 (fun Γ C Rt => ?_)
  show AW ids ad ca Γ 0 [some (.ref (ad 0)), some (.int x1), none] [] σ
  unfold f_X11_room at h
  have j26 : ∀ (n : Nat) (y1 : Int32) (y2 : Int32) (σ : HS), f_X11_room_26 n y1 y2 σ = some R → AW ids ad ca Γ 26 [some (.ref (ad 0)), some (.int y1), some (.int y2)] [] σ := by
    intro n
    induction n with
    | zero => intro y1 y2 σ h; exact nn h
    | succ n ih =>
      intro y1 y2 σ h
      have h : b_X11_room_26 (f_X11_room_26 n) y1 y2 σ = some R := h
      unfold b_X11_room_26 at h
      refine a_iload_n C dX11_room_26 (i := 2) rfl rfl ?_
      refine a_bipush C dX11_room_27 (v := 9) rfl ?_
      refine p_ic_gt C (X := y2.toInt) (Y := 9) rfl (by decide) dX11_room_29 (tgt := 71) rfl h (fun h => ?_) (fun h => ?_)
      ·
        refine a_bipush C dX11_room_71 (v := (-2)) rfl ?_
        exact a_iret Rt dX11_room_73 rfl (ret_eq (h.trans (congrArg some hR.symm)))
      ·
        refine a_aload_n C dX11_room_32 (i := 0) rfl rfl ?_
        refine a_get C fl_RX11_58 (i := 0) kd_0 (hid 0 (by decide)) (v := .ref (ad 60)) rfl dX11_room_33 ?_
        refine a_aload_n C dX11_room_36 (i := 0) rfl rfl ?_
        refine a_get C fl_RX11_54 (i := 0) kd_0 (hid 0 (by decide)) (v := .ref (ad 56)) rfl dX11_room_37 ?_
        refine p_callVv C (As := [.ref (ad 56)]) (i := 60) (show airOK 60 from airOK_of 1 (by decide)).1.1 (hid _ (show airOK 60 from airOK_of 1 (by decide)).1.2) ⟨_, _, rfl⟩ (by decide) h (fun _ e => Z_X0_copy hid (show airOK 60 from airOK_of 1 (by decide)) (show airOK 56 from airOK_of 0 (by decide)) e) mi_X0_copy ml_RX11_230 rfl rfl (Nat.le_of_ble_eq_true rfl) (Nat.le_of_ble_eq_true rfl) (Nat.le_of_ble_eq_true rfl) dX11_room_40 (fun σ1 h => ?_)
        refine a_aload_n C dX11_room_43 (i := 0) rfl rfl ?_
        refine a_get C fl_RX11_58 (i := 0) kd_0 (hid 0 (by decide)) (v := .ref (ad 60)) rfl dX11_room_44 ?_
        refine a_iload_n C dX11_room_47 (i := 1) rfl rfl ?_
        refine a_iload_n C dX11_room_48 (i := 2) rfl rfl ?_
        refine p_callVv C (As := [.int y1, .int y2]) (i := 60) (show airOK 60 from airOK_of 1 (by decide)).1.1 (hid _ (show airOK 60 from airOK_of 1 (by decide)).1.2) ⟨_, _, rfl⟩ (by decide) h (fun _ e => Z_X0_putUp hid (show airOK 60 from airOK_of 1 (by decide)) e) mi_X0_putUp ml_RX11_210 rfl rfl (Nat.le_of_ble_eq_true rfl) (Nat.le_of_ble_eq_true rfl) (Nat.le_of_ble_eq_true rfl) dX11_room_49 (fun σ3 h => ?_)
        refine a_aload_n C dX11_room_52 (i := 0) rfl rfl ?_
        refine a_bipush C dX11_room_53 (v := 59) rfl ?_
        refine p_callVi C (As := [.int 59]) (i := 0) kd_0 (hid 0 (by decide)) ⟨_, _, rfl⟩ (by decide) h (fun _ _ e => Z_X11_firstClash hid e) mi_X11_firstClash ml_RX11_289 rfl rfl (Nat.le_of_ble_eq_true rfl) (Nat.le_of_ble_eq_true rfl) (Nat.le_of_ble_eq_true rfl) dX11_room_55 (fun r6 σ5 h => ?_)
        refine a_bipush C dX11_room_58 (v := (-2)) rfl ?_
        refine p_ic_ne C (X := r6.toInt) (Y := (-2)) rfl (by decide) dX11_room_60 (tgt := 65) rfl h (fun h => ?_) (fun h => ?_)
        ·
          refine p_iinc C (y := (y2 + 1)) (fun z7 => [some (.ref (ad 0)), some (.int y1), some (.int z7)]) dX11_room_65 rfl rfl (by decide) rfl (fun _ => rfl) h (fun z7 h => ?_)
          refine a_goto C dX11_room_68 (tgt := 26) rfl ?_
          exact ih _ _ _ h
        ·
          refine a_iload_n C dX11_room_63 (i := 2) rfl rfl ?_
          exact a_iret Rt dX11_room_64 rfl (ret_eq (h.trans (congrArg some hR.symm)))
  refine a_aload_n C dX11_room_0 (i := 0) rfl rfl ?_
  refine p_getT C fl_RX11_82 (tx := (σ.2.2 0)) kd_0 (hid 0 (by decide)) (fun t e => by subst e; rfl) dX11_room_1 h (fun ht1 h => ?_)
  refine a_iload_n C dX11_room_4 (i := 1) rfl rfl ?_
  refine p_callVi C (As := [.int x1]) (i := ((σ.2.2 0))) ht1.1.1 (hid _ ht1.1.2) ⟨_, _, rfl⟩ (by decide) h (fun _ _ e => Z_X10_hasThing hid ht1 e) mi_X10_hasThing ml_RX11_121 rfl rfl (Nat.le_of_ble_eq_true rfl) (Nat.le_of_ble_eq_true rfl) (Nat.le_of_ble_eq_true rfl) dX11_room_5 (fun r3 σ2 h => ?_)
  refine p_if_eq C (X := r3.toInt) rfl dX11_room_8 (tgt := 22) rfl h (fun h => ?_) (fun h => ?_)
  ·
    refine a_iconst C dX11_room_22 (v := (-1)) rfl ?_
    exact a_iret Rt dX11_room_23 rfl (ret_eq (h.trans (congrArg some hR.symm)))
  ·
    refine a_aload_n C dX11_room_11 (i := 0) rfl rfl ?_
    refine a_get C fl_RX11_54 (i := 0) kd_0 (hid 0 (by decide)) (v := .ref (ad 56)) rfl dX11_room_12 ?_
    refine a_iload_n C dX11_room_15 (i := 1) rfl rfl ?_
    refine p_callVi C (As := [.int x1]) (i := 56) (show airOK 56 from airOK_of 0 (by decide)).1.1 (hid _ (show airOK 56 from airOK_of 0 (by decide)).1.2) ⟨_, _, rfl⟩ (by decide) h (fun _ _ e => Z_X0_isUp hid (show airOK 56 from airOK_of 0 (by decide)) e) mi_X0_isUp ml_RX11_134 rfl rfl (Nat.le_of_ble_eq_true rfl) (Nat.le_of_ble_eq_true rfl) (Nat.le_of_ble_eq_true rfl) dX11_room_16 (fun r5 σ4 h => ?_)
    refine p_if_eq C (X := r5.toInt) rfl dX11_room_19 (tgt := 24) rfl h (fun h => ?_) (fun h => ?_)
    ·
      refine a_iconst C dX11_room_24 (v := 0) rfl ?_
      refine a_istore_n C dX11_room_25 (i := 2) rfl (by decide) rfl (vs1 := [some (.ref (ad 0)), some (.int x1), some (.int 0)]) rfl ?_
      exact j26 _ _ _ _ h
    ·
      refine a_iconst C dX11_room_22 (v := (-1)) rfl ?_
      exact a_iret Rt dX11_room_23 rfl (ret_eq (h.trans (congrArg some hR.symm)))
set_option maxHeartbeats 4000000 in
set_option maxRecDepth 100000 in
theorem Z_X11_into {l : Launch} {D : va_G} {ids : List Nat} {ad : Nat → Nat} {ca : Nat → ClassId} {σ : HS} {x1 : Int32} {x2 : Int32} {r0 : Int32} {s0 : HS} (hid : ∀ i, i < 277 → i ∈ ids) (h : f_X11_into x1 x2 σ = some (r0, s0)) : Ki l D ids ad ca yX11_into cX11_into 6 .int 3 72 [.ref (ad 0), .int x1, .int x2] σ (fun r σ1 => r = r0 ∧ σ1 = s0) := by
  obtain ⟨R, hR⟩ : ∃ R, (r0, s0) = R := ⟨_, rfl⟩
  replace h := h.trans (congrArg some hR)
  refine Ki.of (by decide) (Nat.le_of_ble_eq_true rfl) 3 (fun Γ C Rt => ?_)
  show AW ids ad ca Γ 0 [some (.ref (ad 0)), some (.int x1), some (.int x2), none, none, none] [] σ
  unfold f_X11_into at h
  have j88 : ∀ (y2 : Int32) (v0 : Int32) (σ : HS), f_X11_into_88 y2 v0 σ = some R → AW ids ad ca Γ 88 [some (.ref (ad 0)), none, some (.int y2), none, none, none] [.int v0] σ := by
    intro y2 v0 σ h
    unfold f_X11_into_88 at h
    refine a_istore C dX11_into_88 (by decide) rfl (vs1 := [some (.ref (ad 0)), none, some (.int y2), none, none, some (.int v0)]) rfl ?_
    refine a_iload C dX11_into_90 rfl ?_
    refine p_if_ne C (X := v0.toInt) rfl dX11_into_92 (tgt := 108) rfl h (fun h => ?_) (fun h => ?_)
    ·
      refine a_iload_n C dX11_into_108 (i := 2) rfl rfl ?_
      refine a_iconst C dX11_into_109 (v := (-1)) rfl ?_
      refine p_ic_ne C (X := y2.toInt) (Y := (-1)) rfl (by decide) dX11_into_110 (tgt := 121) rfl h (fun h => ?_) (fun h => ?_)
      ·
        refine a_iload_n C dX11_into_121 (i := 2) rfl rfl ?_
        refine a_aload_n C dX11_into_122 (i := 0) rfl rfl ?_
        refine a_get C fl_RX11_40 (i := 0) kd_0 (hid 0 (by decide)) (v := .ref (ad 17)) rfl dX11_into_123 ?_
        refine a_get C fl_RX11_304 (i := 17) kd_17 (hid 17 (by decide)) (v := .int (σ.1 17 5)) rfl dX11_into_126 ?_
        refine p_ic_ge C (X := y2.toInt) (Y := (σ.1 17 5).toInt) rfl rfl dX11_into_129 (tgt := 144) rfl h (fun h => ?_) (fun h => ?_)
        ·
          refine a_iconst C dX11_into_144 (v := (-1)) rfl ?_
          exact a_iret Rt dX11_into_145 rfl (ret_eq (h.trans (congrArg some hR.symm)))
        ·
          refine a_aload_n C dX11_into_132 (i := 0) rfl rfl ?_
          refine a_get C fl_RX11_40 (i := 0) kd_0 (hid 0 (by decide)) (v := .ref (ad 17)) rfl dX11_into_133 ?_
          refine a_get C fl_RX11_305 (i := 17) kd_17 (hid 17 (by decide)) (v := .ref (ad 21)) rfl dX11_into_136 ?_
          refine a_iload_n C dX11_into_139 (i := 2) rfl rfl ?_
          refine p_iald C (i := 21) (show rowOK 21 from ⟨kd_21, by decide⟩) hid (by rw [al_21]; rfl) dX11_into_140 h (fun h => ?_)
          refine a_goto C dX11_into_141 (tgt := 145) rfl ?_
          exact a_iret Rt dX11_into_145 rfl (ret_eq (h.trans (congrArg some hR.symm)))
      ·
        refine a_aload_n C dX11_into_113 (i := 0) rfl rfl ?_
        refine a_get C fl_RX11_40 (i := 0) kd_0 (hid 0 (by decide)) (v := .ref (ad 17)) rfl dX11_into_114 ?_
        refine a_get C fl_RX11_304 (i := 17) kd_17 (hid 17 (by decide)) (v := .int (σ.1 17 5)) rfl dX11_into_117 ?_
        exact a_iret Rt dX11_into_120 rfl (ret_eq (h.trans (congrArg some hR.symm)))
    ·
      refine a_iload_n C dX11_into_95 (i := 2) rfl rfl ?_
      refine a_iconst C dX11_into_96 (v := (-1)) rfl ?_
      refine p_ic_ne C (X := y2.toInt) (Y := (-1)) rfl (by decide) dX11_into_97 (tgt := 105) rfl h (fun h => ?_) (fun h => ?_)
      ·
        refine a_bipush C dX11_into_105 (v := (-3)) rfl ?_
        exact a_iret Rt dX11_into_107 rfl (ret_eq (h.trans (congrArg some hR.symm)))
      ·
        refine a_bipush C dX11_into_100 (v := (-2)) rfl ?_
        refine a_goto C dX11_into_102 (tgt := 107) rfl ?_
        exact a_iret Rt dX11_into_107 rfl (ret_eq (h.trans (congrArg some hR.symm)))
  have j87 : ∀ (y2 : Int32) (σ : HS), f_X11_into_87 y2 σ = some R → AW ids ad ca Γ 87 [some (.ref (ad 0)), none, some (.int y2), none, none, none] [] σ := by
    intro y2 σ h
    unfold f_X11_into_87 at h
    refine a_iconst C dX11_into_87 (v := 0) rfl ?_
    exact j88 _ _ _ h
  refine a_aload_n C dX11_into_0 (i := 0) rfl rfl ?_
  refine p_getT C fl_RX11_82 (tx := (σ.2.2 0)) kd_0 (hid 0 (by decide)) (fun t e => by subst e; rfl) dX11_into_1 h (fun ht1 h => ?_)
  refine a_iload_n C dX11_into_4 (i := 1) rfl rfl ?_
  refine p_callVi C (As := [.int x1]) (i := ((σ.2.2 0))) ht1.1.1 (hid _ ht1.1.2) ⟨_, _, rfl⟩ (by decide) h (fun _ _ e => Z_X10_hasPattern hid ht1 e) mi_X10_hasPattern ml_RX11_143 rfl rfl (Nat.le_of_ble_eq_true rfl) (Nat.le_of_ble_eq_true rfl) (Nat.le_of_ble_eq_true rfl) dX11_into_5 (fun r3 σ2 h => ?_)
  refine p_if_eq C (X := r3.toInt) rfl dX11_into_8 (tgt := 16) rfl h (fun h => ?_) (fun h => ?_)
  ·
    refine a_iconst C dX11_into_16 (v := (-1)) rfl ?_
    exact a_iret Rt dX11_into_17 rfl (ret_eq (h.trans (congrArg some hR.symm)))
  ·
    refine a_iload_n C dX11_into_11 (i := 2) rfl rfl ?_
    refine a_iconst C dX11_into_12 (v := (-1)) rfl ?_
    refine p_ic_ge C (X := x2.toInt) (Y := (-1)) rfl (by decide) dX11_into_13 (tgt := 18) rfl h (fun h => ?_) (fun h => ?_)
    ·
      refine a_aload_n C dX11_into_18 (i := 0) rfl rfl ?_
      refine p_getT C fl_RX11_82 (tx := (σ2.2.2 0)) kd_0 (hid 0 (by decide)) (fun t e => by subst e; rfl) dX11_into_19 h (fun ht4 h => ?_)
      refine a_get C fl_RX11_149 (i := ((σ2.2.2 0))) ht4.1.1 (hid _ ht4.1.2) (v := .ref (ad ((σ2.2.2 0) + 4))) rfl dX11_into_22 ?_
      refine a_iload_n C dX11_into_25 (i := 1) rfl rfl ?_
      refine p_aaldH C (t := ((σ2.2.2 0))) ht4 hid dX11_into_26 h (fun hr5 h => ?_)
      refine a_astore_n C dX11_into_27 (i := 3) rfl (by decide) rfl (vs1 := [some (.ref (ad 0)), some (.int x1), some (.int x2), some (.ref (ad ((σ2.2.2 0) + 5 + x1.toInt.toNat))), none, none]) rfl ?_
      refine a_aload_n C dX11_into_28 (i := 0) rfl rfl ?_
      refine p_getT C fl_RX11_82 (tx := (σ2.2.2 0)) kd_0 (hid 0 (by decide)) (fun t e => by subst e; rfl) dX11_into_29 h (fun ht6 h => ?_)
      refine a_get C fl_RX11_146 (i := ((σ2.2.2 0))) ht6.1.1 (hid _ ht6.1.2) (v := .ref (ad ((σ2.2.2 0) + 10))) rfl dX11_into_32 ?_
      refine a_iload_n C dX11_into_35 (i := 1) rfl rfl ?_
      refine p_iald C (i := ((σ2.2.2 0) + 10)) ht6.2.2.2.2.1.1 hid (by rw [ht6.2.2.2.2.1.2]; rfl) dX11_into_36 h (fun h => ?_)
      refine p_istore C (fun z7 => [some (.ref (ad 0)), some (.int x1), some (.int x2), some (.ref (ad ((σ2.2.2 0) + 5 + x1.toInt.toNat))), some (.int z7), none]) dX11_into_37 (by decide) rfl (fun _ => rfl) h (fun z7 h => ?_)
      refine a_aload_n C dX11_into_39 (i := 3) rfl rfl ?_
      refine a_iload C dX11_into_40 rfl ?_
      refine p_callSi C (As := [.ref (ad ((σ2.2.2 0) + 5 + x1.toInt.toNat)), .int z7]) h (fun _ _ e => Z_X3_close hid hr5.1 e) ms_X3_close ml_RX11_243 rfl rfl (Nat.le_of_ble_eq_true rfl) (Nat.le_of_ble_eq_true rfl) (Nat.le_of_ble_eq_true rfl) dX11_into_42 (fun r9 σ8 h => ?_)
      refine p_if_ne C (X := r9.toInt) rfl dX11_into_45 (tgt := 50) rfl h (fun h => ?_) (fun h => ?_)
      ·
        refine a_aload_n C dX11_into_50 (i := 0) rfl rfl ?_
        refine a_get C fl_RX11_54 (i := 0) kd_0 (hid 0 (by decide)) (v := .ref (ad 56)) rfl dX11_into_51 ?_
        refine p_callVi C (As := []) (i := 56) (show airOK 56 from airOK_of 0 (by decide)).1.1 (hid _ (show airOK 56 from airOK_of 0 (by decide)).1.2) ⟨_, _, rfl⟩ (by decide) h (fun _ _ e => Z_X0_twoLandAlike hid (show airOK 56 from airOK_of 0 (by decide)) e) mi_X0_twoLandAlike ml_RX11_295 rfl rfl (Nat.le_of_ble_eq_true rfl) (Nat.le_of_ble_eq_true rfl) (Nat.le_of_ble_eq_true rfl) dX11_into_54 (fun r11 σ10 h => ?_)
        refine p_if_ne C (X := r11.toInt) rfl dX11_into_57 (tgt := 87) rfl h (fun h => ?_) (fun h => ?_)
        ·
          refine AW.sub (vs' := [some (.ref (ad 0)), none, some (.int x2), none, none, none]) (lsub_of (by simp [lsubB])) ?_
          exact j87 _ _ h
        ·
          refine a_aload_n C dX11_into_60 (i := 0) rfl rfl ?_
          refine a_get C fl_RX11_40 (i := 0) kd_0 (hid 0 (by decide)) (v := .ref (ad 17)) rfl dX11_into_61 ?_
          refine a_aload_n C dX11_into_64 (i := 0) rfl rfl ?_
          refine a_get C fl_RX11_54 (i := 0) kd_0 (hid 0 (by decide)) (v := .ref (ad 56)) rfl dX11_into_65 ?_
          refine p_callVi C (As := []) (i := 56) (show airOK 56 from airOK_of 0 (by decide)).1.1 (hid _ (show airOK 56 from airOK_of 0 (by decide)).1.2) ⟨_, _, rfl⟩ (by decide) h (fun _ _ e => Z_X0_landingBits hid (show airOK 56 from airOK_of 0 (by decide)) e) mi_X0_landingBits ml_RX11_276 rfl rfl (Nat.le_of_ble_eq_true rfl) (Nat.le_of_ble_eq_true rfl) (Nat.le_of_ble_eq_true rfl) dX11_into_68 (fun r13 σ12 h => ?_)
          refine a_aload_n C dX11_into_71 (i := 3) rfl rfl ?_
          refine a_iload C dX11_into_72 rfl ?_
          refine p_callSi C (As := [.ref (ad ((σ2.2.2 0) + 5 + x1.toInt.toNat)), .int z7]) h (fun _ _ e => Z_X3_landingBits hid hr5.1 e) ms_X3_landingBits ml_RX11_299 rfl rfl (Nat.le_of_ble_eq_true rfl) (Nat.le_of_ble_eq_true rfl) (Nat.le_of_ble_eq_true rfl) dX11_into_74 (fun r15 σ14 h => ?_)
          refine p_callVi C (As := [.int r13, .int r15]) (i := 17) kd_17 (hid 17 (by decide)) ⟨_, _, rfl⟩ (by decide) h (fun _ _ e => Z_X7_find hid e) mi_X7_find ml_RX11_301 rfl rfl (Nat.le_of_ble_eq_true rfl) (Nat.le_of_ble_eq_true rfl) (Nat.le_of_ble_eq_true rfl) dX11_into_77 (fun r17 σ16 h => ?_)
          refine p_if_eq C (X := r17.toInt) rfl dX11_into_80 (tgt := 87) rfl h (fun h => ?_) (fun h => ?_)
          ·
            refine AW.sub (vs' := [some (.ref (ad 0)), none, some (.int x2), none, none, none]) (lsub_of (by simp [lsubB])) ?_
            exact j87 _ _ h
          ·
            refine a_iconst C dX11_into_83 (v := 1) rfl ?_
            refine a_goto C dX11_into_84 (tgt := 88) rfl ?_
            refine AW.sub (vs' := [some (.ref (ad 0)), none, some (.int x2), none, none, none]) (lsub_of (by simp [lsubB])) ?_
            exact j88 _ _ _ h
      ·
        refine a_iconst C dX11_into_48 (v := (-1)) rfl ?_
        exact a_iret Rt dX11_into_49 rfl (ret_eq (h.trans (congrArg some hR.symm)))
    ·
      refine a_iconst C dX11_into_16 (v := (-1)) rfl ?_
      exact a_iret Rt dX11_into_17 rfl (ret_eq (h.trans (congrArg some hR.symm)))
set_option maxHeartbeats 4000000 in
set_option maxRecDepth 100000 in
theorem Z_X11_isSpan {l : Launch} {D : va_G} {ids : List Nat} {ad : Nat → Nat} {ca : Nat → ClassId} {σ : HS} {x1 : Int32} {r0 : Int32} {s0 : HS} (hid : ∀ i, i < 277 → i ∈ ids) (h : f_X11_isSpan x1 σ = some (r0, s0)) : Ki l D ids ad ca yX11_isSpan cX11_isSpan 1 .boolean 0 0 [.int x1] σ (fun r σ1 => r = r0 ∧ σ1 = s0) := by
  obtain ⟨R, hR⟩ : ∃ R, (r0, s0) = R := ⟨_, rfl⟩
  replace h := h.trans (congrArg some hR)
  refine Ki.of (by decide) (Nat.le_of_ble_eq_true rfl) 0 (fun Γ C Rt => ?_)
  show AW ids ad ca Γ 0 [some (.int x1)] [] σ
  unfold f_X11_isSpan at h
  refine a_iload_n C dX11_isSpan_0 (i := 0) rfl rfl ?_
  refine a_iconst C dX11_isSpan_1 (v := 1) rfl ?_
  refine p_ic_lt C (X := x1.toInt) (Y := 1) rfl (by decide) dX11_isSpan_2 (tgt := 15) rfl h (fun h => ?_) (fun h => ?_)
  ·
    refine a_iconst C dX11_isSpan_15 (v := 0) rfl ?_
    exact a_iret Rt dX11_isSpan_16 (nar_z (by decide)).1 (ret_eq (h.trans (congrArg some hR.symm)))
  ·
    refine a_iload_n C dX11_isSpan_5 (i := 0) rfl rfl ?_
    refine a_bipush C dX11_isSpan_6 (v := 60) rfl ?_
    refine p_ic_gt C (X := x1.toInt) (Y := 60) rfl (by decide) dX11_isSpan_8 (tgt := 15) rfl h (fun h => ?_) (fun h => ?_)
    ·
      refine a_iconst C dX11_isSpan_15 (v := 0) rfl ?_
      exact a_iret Rt dX11_isSpan_16 (nar_z (by decide)).1 (ret_eq (h.trans (congrArg some hR.symm)))
    ·
      refine a_iconst C dX11_isSpan_11 (v := 1) rfl ?_
      refine a_goto C dX11_isSpan_12 (tgt := 16) rfl ?_
      exact a_iret Rt dX11_isSpan_16 (nar_z (by decide)).1 (ret_eq (h.trans (congrArg some hR.symm)))
set_option maxHeartbeats 4000000 in
set_option maxRecDepth 100000 in
theorem Z_X11_busiest {l : Launch} {D : va_G} {ids : List Nat} {ad : Nat → Nat} {ca : Nat → ClassId} {σ : HS} {x1 : Int32} {x2 : Int32} {r0 : Int32} {s0 : HS} (hid : ∀ i, i < 277 → i ∈ ids) (h : f_X11_busiest x1 x2 σ = some (r0, s0)) : Ki l D ids ad ca yX11_busiest cX11_busiest 5 .int 7 168 [.ref (ad 0), .int x1, .int x2] σ (fun r σ1 => r = r0 ∧ σ1 = s0) := by
  obtain ⟨R, hR⟩ : ∃ R, (r0, s0) = R := ⟨_, rfl⟩
  replace h := h.trans (congrArg some hR)
  refine Ki.of (by decide) (Nat.le_of_ble_eq_true rfl) 2 (fun Γ C Rt => ?_)
  show AW ids ad ca Γ 0 [some (.ref (ad 0)), some (.int x1), some (.int x2), none, none] [] σ
  unfold f_X11_busiest at h
  have j106 : ∀ (k80 : Int32 → Int32 → Int32 → HS → Option (Int32 × HS)) (hk80 : ∀ (y2 : Int32) (y3 : Int32) (y4 : Int32) (σ : HS), k80 y2 y3 y4 σ = some R → AW ids ad ca Γ 80 [some (.ref (ad 0)), none, some (.int y2), some (.int y3), some (.int y4)] [] σ) (y2 : Int32) (y3 : Int32) (y4 : Int32) (σ : HS), f_X11_busiest_106 k80 y2 y3 y4 σ = some R → AW ids ad ca Γ 106 [some (.ref (ad 0)), none, some (.int y2), some (.int y3), some (.int y4)] [] σ := by
    intro k80 hk80 y2 y3 y4 σ h
    unfold f_X11_busiest_106 at h
    refine p_iinc C (y := (y4 + 1)) (fun z1 => [some (.ref (ad 0)), none, some (.int y2), some (.int y3), some (.int z1)]) dX11_busiest_106 rfl rfl (by decide) rfl (fun _ => rfl) h (fun z1 h => ?_)
    refine a_goto C dX11_busiest_109 (tgt := 80) rfl ?_
    exact hk80 _ _ _ _ h
  have j80 : ∀ (n : Nat) (y2 : Int32) (y3 : Int32) (y4 : Int32) (σ : HS), f_X11_busiest_80 n y2 y3 y4 σ = some R → AW ids ad ca Γ 80 [some (.ref (ad 0)), none, some (.int y2), some (.int y3), some (.int y4)] [] σ := by
    intro n
    induction n with
    | zero => intro y2 y3 y4 σ h; exact nn h
    | succ n ih =>
      intro y2 y3 y4 σ h
      have h : b_X11_busiest_80 (f_X11_busiest_80 n) y2 y3 y4 σ = some R := h
      unfold b_X11_busiest_80 at h
      refine a_iload C dX11_busiest_80 rfl ?_
      refine a_bipush C dX11_busiest_82 (v := 7) rfl ?_
      refine p_ic_ge C (X := y4.toInt) (Y := 7) rfl (by decide) dX11_busiest_84 (tgt := 112) rfl h (fun h => ?_) (fun h => ?_)
      ·
        refine a_aload_n C dX11_busiest_112 (i := 0) rfl rfl ?_
        refine a_get C fl_RX11_73 (i := 0) kd_0 (hid 0 (by decide)) (v := .ref (ad 28)) rfl dX11_busiest_113 ?_
        refine a_iload_n C dX11_busiest_116 (i := 3) rfl rfl ?_
        refine p_iald C (i := 28) (show rowOK 28 from ⟨kd_28, by decide⟩) hid (by rw [al_28]; rfl) dX11_busiest_117 h (fun h => ?_)
        refine p_if_ne C (X := (σ.1 28 y3.toInt.toNat).toInt) rfl dX11_busiest_118 (tgt := 124) rfl h (fun h => ?_) (fun h => ?_)
        ·
          refine a_iload_n C dX11_busiest_124 (i := 2) rfl rfl ?_
          refine p_if_ne C (X := y2.toInt) rfl dX11_busiest_125 (tgt := 132) rfl h (fun h => ?_) (fun h => ?_)
          ·
            refine a_aload_n C dX11_busiest_132 (i := 0) rfl rfl ?_
            refine a_get C fl_RX11_73 (i := 0) kd_0 (hid 0 (by decide)) (v := .ref (ad 28)) rfl dX11_busiest_133 ?_
            refine a_iload_n C dX11_busiest_136 (i := 3) rfl rfl ?_
            refine p_iald C (i := 28) (show rowOK 28 from ⟨kd_28, by decide⟩) hid (by rw [al_28]; rfl) dX11_busiest_137 h (fun h => ?_)
            exact a_iret Rt dX11_busiest_138 rfl (ret_eq (h.trans (congrArg some hR.symm)))
          ·
            refine a_iload_n C dX11_busiest_128 (i := 3) rfl rfl ?_
            refine a_goto C dX11_busiest_129 (tgt := 138) rfl ?_
            exact a_iret Rt dX11_busiest_138 rfl (ret_eq (h.trans (congrArg some hR.symm)))
        ·
          refine a_bipush C dX11_busiest_121 (v := (-2)) rfl ?_
          exact a_iret Rt dX11_busiest_123 rfl (ret_eq (h.trans (congrArg some hR.symm)))
      ·
        refine a_aload_n C dX11_busiest_87 (i := 0) rfl rfl ?_
        refine a_get C fl_RX11_73 (i := 0) kd_0 (hid 0 (by decide)) (v := .ref (ad 28)) rfl dX11_busiest_88 ?_
        refine a_iload C dX11_busiest_91 rfl ?_
        refine p_iald C (i := 28) (show rowOK 28 from ⟨kd_28, by decide⟩) hid (by rw [al_28]; rfl) dX11_busiest_93 h (fun h => ?_)
        refine a_aload_n C dX11_busiest_94 (i := 0) rfl rfl ?_
        refine a_get C fl_RX11_73 (i := 0) kd_0 (hid 0 (by decide)) (v := .ref (ad 28)) rfl dX11_busiest_95 ?_
        refine a_iload_n C dX11_busiest_98 (i := 3) rfl rfl ?_
        refine p_iald C (i := 28) (show rowOK 28 from ⟨kd_28, by decide⟩) hid (by rw [al_28]; rfl) dX11_busiest_99 h (fun h => ?_)
        refine p_ic_le C (X := (σ.1 28 y4.toInt.toNat).toInt) (Y := (σ.1 28 y3.toInt.toNat).toInt) rfl rfl dX11_busiest_100 (tgt := 106) rfl h (fun h => ?_) (fun h => ?_)
        ·
          exact j106 (f_X11_busiest_80 n) (fun y2 y3 y4 σ h => ih y2 y3 y4 σ h) _ _ _ _ h
        ·
          refine a_iload C dX11_busiest_103 rfl ?_
          refine a_istore_n C dX11_busiest_105 (i := 3) rfl (by decide) rfl (vs1 := [some (.ref (ad 0)), none, some (.int y2), some (.int y4), some (.int y4)]) rfl ?_
          exact j106 (f_X11_busiest_80 n) (fun y2 y3 y4 σ h => ih y2 y3 y4 σ h) _ _ _ _ h
  have j69 : ∀ (k33 : Int32 → Int32 → Int32 → HS → Option (Int32 × HS)) (hk33 : ∀ (y1 : Int32) (y2 : Int32) (y3 : Int32) (σ : HS), k33 y1 y2 y3 σ = some R → AW ids ad ca Γ 33 [some (.ref (ad 0)), some (.int y1), some (.int y2), some (.int y3), none] [] σ) (y1 : Int32) (y2 : Int32) (y3 : Int32) (σ : HS), f_X11_busiest_69 k33 y1 y2 y3 σ = some R → AW ids ad ca Γ 69 [some (.ref (ad 0)), some (.int y1), some (.int y2), some (.int y3), none] [] σ := by
    intro k33 hk33 y1 y2 y3 σ h
    unfold f_X11_busiest_69 at h
    refine p_iinc C (y := (y3 + 1)) (fun z1 => [some (.ref (ad 0)), some (.int y1), some (.int y2), some (.int z1), none]) dX11_busiest_69 rfl rfl (by decide) rfl (fun _ => rfl) h (fun z1 h => ?_)
    refine a_goto C dX11_busiest_72 (tgt := 33) rfl ?_
    exact hk33 _ _ _ _ h
  have j33 : ∀ (n : Nat) (y1 : Int32) (y2 : Int32) (y3 : Int32) (σ : HS), f_X11_busiest_33 n y1 y2 y3 σ = some R → AW ids ad ca Γ 33 [some (.ref (ad 0)), some (.int y1), some (.int y2), some (.int y3), none] [] σ := by
    intro n
    induction n with
    | zero => intro y1 y2 y3 σ h; exact nn h
    | succ n ih =>
      intro y1 y2 y3 σ h
      have h : b_X11_busiest_33 (f_X11_busiest_33 n) y1 y2 y3 σ = some R := h
      unfold b_X11_busiest_33 at h
      refine a_iload_n C dX11_busiest_33 (i := 3) rfl rfl ?_
      refine a_iload_n C dX11_busiest_34 (i := 1) rfl rfl ?_
      refine p_ic_ge C (X := y3.toInt) (Y := y1.toInt) rfl rfl dX11_busiest_35 (tgt := 75) rfl h (fun h => ?_) (fun h => ?_)
      ·
        refine a_iconst C dX11_busiest_75 (v := 0) rfl ?_
        refine a_istore_n C dX11_busiest_76 (i := 3) rfl (by decide) rfl (vs1 := [some (.ref (ad 0)), some (.int y1), some (.int y2), some (.int 0), none]) rfl ?_
        refine a_iconst C dX11_busiest_77 (v := 1) rfl ?_
        refine a_istore C dX11_busiest_78 (by decide) rfl (vs1 := [some (.ref (ad 0)), some (.int y1), some (.int y2), some (.int 0), some (.int 1)]) rfl ?_
        refine AW.sub (vs' := [some (.ref (ad 0)), none, some (.int y2), some (.int 0), some (.int 1)]) (lsub_of (by simp [lsubB])) ?_
        exact j80 _ _ _ _ _ h
      ·
        refine a_aload_n C dX11_busiest_38 (i := 0) rfl rfl ?_
        refine p_getT C fl_RX11_82 (tx := (σ.2.2 0)) kd_0 (hid 0 (by decide)) (fun t e => by subst e; rfl) dX11_busiest_39 h (fun ht1 h => ?_)
        refine a_aload_n C dX11_busiest_42 (i := 0) rfl rfl ?_
        refine a_get C fl_RX11_69 (i := 0) kd_0 (hid 0 (by decide)) (v := .ref (ad 27)) rfl dX11_busiest_43 ?_
        refine a_iload_n C dX11_busiest_46 (i := 3) rfl rfl ?_
        refine p_iald C (i := 27) (show rowOK 27 from ⟨kd_27, by decide⟩) hid (by rw [al_27]; rfl) dX11_busiest_47 h (fun h => ?_)
        refine p_callVi C (As := [.int (σ.1 27 y3.toInt.toNat)]) (i := ((σ.2.2 0))) ht1.1.1 (hid _ ht1.1.2) ⟨_, _, rfl⟩ (by decide) h (fun _ _ e => Z_X10_hasThing hid ht1 e) mi_X10_hasThing ml_RX11_121 rfl rfl (Nat.le_of_ble_eq_true rfl) (Nat.le_of_ble_eq_true rfl) (Nat.le_of_ble_eq_true rfl) dX11_busiest_48 (fun r3 σ2 h => ?_)
        refine p_if_eq C (X := r3.toInt) rfl dX11_busiest_51 (tgt := 69) rfl h (fun h => ?_) (fun h => ?_)
        ·
          exact j69 (f_X11_busiest_33 n) (fun y1 y2 y3 σ h => ih y1 y2 y3 σ h) _ _ _ _ h
        ·
          refine a_aload_n C dX11_busiest_54 (i := 0) rfl rfl ?_
          refine a_get C fl_RX11_73 (i := 0) kd_0 (hid 0 (by decide)) (v := .ref (ad 28)) rfl dX11_busiest_55 ?_
          refine a_aload_n C dX11_busiest_58 (i := 0) rfl rfl ?_
          refine a_get C fl_RX11_69 (i := 0) kd_0 (hid 0 (by decide)) (v := .ref (ad 27)) rfl dX11_busiest_59 ?_
          refine a_iload_n C dX11_busiest_62 (i := 3) rfl rfl ?_
          refine p_iald C (i := 27) (show rowOK 27 from ⟨kd_27, by decide⟩) hid (by rw [al_27]; rfl) dX11_busiest_63 h (fun h => ?_)
          refine a_dup2 C dX11_busiest_64 rfl rfl ?_
          refine p_iald C (i := 28) (show rowOK 28 from ⟨kd_28, by decide⟩) hid (by rw [al_28]; rfl) dX11_busiest_65 h (fun h => ?_)
          refine a_iconst C dX11_busiest_66 (v := 1) rfl ?_
          refine a_iadd C dX11_busiest_67 ?_
          refine p_iast C (i := 28) (show rowOK 28 from ⟨kd_28, by decide⟩) hid (by rw [al_28]; rfl) dX11_busiest_68 h (fun σ4 h => ?_)
          exact j69 (f_X11_busiest_33 n) (fun y1 y2 y3 σ h => ih y1 y2 y3 σ h) _ _ _ _ h
  refine a_iload_n C dX11_busiest_0 (i := 1) rfl rfl ?_
  refine p_callSi C (As := [.int x1]) h (fun _ _ e => Z_X11_isSpan hid e) ms_X11_isSpan ml_RX11_307 rfl rfl (Nat.le_of_ble_eq_true rfl) (Nat.le_of_ble_eq_true rfl) (Nat.le_of_ble_eq_true rfl) dX11_busiest_1 (fun r2 σ1 h => ?_)
  refine p_if_eq C (X := r2.toInt) rfl dX11_busiest_4 (tgt := 16) rfl h (fun h => ?_) (fun h => ?_)
  ·
    refine a_iconst C dX11_busiest_16 (v := (-1)) rfl ?_
    exact a_iret Rt dX11_busiest_17 rfl (ret_eq (h.trans (congrArg some hR.symm)))
  ·
    refine a_iload_n C dX11_busiest_7 (i := 2) rfl rfl ?_
    refine p_if_lt C (X := x2.toInt) rfl dX11_busiest_8 (tgt := 16) rfl h (fun h => ?_) (fun h => ?_)
    ·
      refine a_iconst C dX11_busiest_16 (v := (-1)) rfl ?_
      exact a_iret Rt dX11_busiest_17 rfl (ret_eq (h.trans (congrArg some hR.symm)))
    ·
      refine a_iload_n C dX11_busiest_11 (i := 2) rfl rfl ?_
      refine a_iconst C dX11_busiest_12 (v := 1) rfl ?_
      refine p_ic_le C (X := x2.toInt) (Y := 1) rfl (by decide) dX11_busiest_13 (tgt := 18) rfl h (fun h => ?_) (fun h => ?_)
      ·
        refine a_aload_n C dX11_busiest_18 (i := 0) rfl rfl ?_
        refine a_iload_n C dX11_busiest_19 (i := 1) rfl rfl ?_
        refine p_callVv C (As := [.int x1]) (i := 0) kd_0 (hid 0 (by decide)) ⟨_, _, rfl⟩ (by decide) h (fun _ e => Z_X11_findHands hid e) mi_X11_findHands ml_RX11_279 rfl rfl (Nat.le_of_ble_eq_true rfl) (Nat.le_of_ble_eq_true rfl) (Nat.le_of_ble_eq_true rfl) dX11_busiest_20 (fun σ3 h => ?_)
        refine a_aload_n C dX11_busiest_23 (i := 0) rfl rfl ?_
        refine a_get C fl_RX11_73 (i := 0) kd_0 (hid 0 (by decide)) (v := .ref (ad 28)) rfl dX11_busiest_24 ?_
        refine a_iconst C dX11_busiest_27 (v := 0) rfl ?_
        refine p_callSv C (As := [.ref (ad 28), .int 0]) h (fun _ e => Z_J7_fill_53178 hid (show rowOK 28 from ⟨kd_28, by decide⟩) e) ms_J7_fill_53178 ml_RX11_310 rfl rfl (Nat.le_of_ble_eq_true rfl) (Nat.le_of_ble_eq_true rfl) (Nat.le_of_ble_eq_true rfl) dX11_busiest_28 (fun σ5 h => ?_)
        refine a_iconst C dX11_busiest_31 (v := 0) rfl ?_
        refine a_istore_n C dX11_busiest_32 (i := 3) rfl (by decide) rfl (vs1 := [some (.ref (ad 0)), some (.int x1), some (.int x2), some (.int 0), none]) rfl ?_
        exact j33 _ _ _ _ _ h
      ·
        refine a_iconst C dX11_busiest_16 (v := (-1)) rfl ?_
        exact a_iret Rt dX11_busiest_17 rfl (ret_eq (h.trans (congrArg some hR.symm)))
set_option maxHeartbeats 4000000 in
set_option maxRecDepth 100000 in
theorem Z_X11_load {l : Launch} {D : va_G} {ids : List Nat} {ad : Nat → Nat} {ca : Nat → ClassId} {σ : HS} {x1 : Int32} {r0 : Int32} {s0 : HS} (hid : ∀ i, i < 277 → i ∈ ids) (h : f_X11_load x1 σ = some (r0, s0)) : Ki l D ids ad ca yX11_load cX11_load 4 .int 7 168 [.ref (ad 0), .int x1] σ (fun r σ1 => r = r0 ∧ σ1 = s0) := by
  obtain ⟨R, hR⟩ : ∃ R, (r0, s0) = R := ⟨_, rfl⟩
  replace h := h.trans (congrArg some hR)
  refine Ki.of (by decide) (Nat.le_of_ble_eq_true rfl) 2 (fun Γ C Rt => ?_)
  show AW ids ad ca Γ 0 [some (.ref (ad 0)), some (.int x1), none, none] [] σ
  unfold f_X11_load at h
  have j56 : ∀ (k18 : Int32 → Int32 → Int32 → HS → Option (Int32 × HS)) (hk18 : ∀ (y1 : Int32) (y2 : Int32) (y3 : Int32) (σ : HS), k18 y1 y2 y3 σ = some R → AW ids ad ca Γ 18 [some (.ref (ad 0)), some (.int y1), some (.int y2), some (.int y3)] [] σ) (y1 : Int32) (y2 : Int32) (y3 : Int32) (σ : HS), f_X11_load_56 k18 y1 y2 y3 σ = some R → AW ids ad ca Γ 56 [some (.ref (ad 0)), some (.int y1), some (.int y2), some (.int y3)] [] σ := by
    intro k18 hk18 y1 y2 y3 σ h
    unfold f_X11_load_56 at h
    refine p_iinc C (y := (y3 + 1)) (fun z1 => [some (.ref (ad 0)), some (.int y1), some (.int y2), some (.int z1)]) dX11_load_56 rfl rfl (by decide) rfl (fun _ => rfl) h (fun z1 h => ?_)
    refine a_goto C dX11_load_59 (tgt := 18) rfl ?_
    exact hk18 _ _ _ _ h
  have j18 : ∀ (n : Nat) (y1 : Int32) (y2 : Int32) (y3 : Int32) (σ : HS), f_X11_load_18 n y1 y2 y3 σ = some R → AW ids ad ca Γ 18 [some (.ref (ad 0)), some (.int y1), some (.int y2), some (.int y3)] [] σ := by
    intro n
    induction n with
    | zero => intro y1 y2 y3 σ h; exact nn h
    | succ n ih =>
      intro y1 y2 y3 σ h
      have h : b_X11_load_18 (f_X11_load_18 n) y1 y2 y3 σ = some R := h
      unfold b_X11_load_18 at h
      refine a_iload_n C dX11_load_18 (i := 3) rfl rfl ?_
      refine a_iload_n C dX11_load_19 (i := 1) rfl rfl ?_
      refine p_ic_ge C (X := y3.toInt) (Y := y1.toInt) rfl rfl dX11_load_20 (tgt := 62) rfl h (fun h => ?_) (fun h => ?_)
      ·
        refine a_iload_n C dX11_load_62 (i := 2) rfl rfl ?_
        exact a_iret Rt dX11_load_63 rfl (ret_eq (h.trans (congrArg some hR.symm)))
      ·
        refine a_aload_n C dX11_load_23 (i := 0) rfl rfl ?_
        refine p_getT C fl_RX11_82 (tx := (σ.2.2 0)) kd_0 (hid 0 (by decide)) (fun t e => by subst e; rfl) dX11_load_24 h (fun ht1 h => ?_)
        refine a_aload_n C dX11_load_27 (i := 0) rfl rfl ?_
        refine a_get C fl_RX11_69 (i := 0) kd_0 (hid 0 (by decide)) (v := .ref (ad 27)) rfl dX11_load_28 ?_
        refine a_iload_n C dX11_load_31 (i := 3) rfl rfl ?_
        refine p_iald C (i := 27) (show rowOK 27 from ⟨kd_27, by decide⟩) hid (by rw [al_27]; rfl) dX11_load_32 h (fun h => ?_)
        refine p_callVi C (As := [.int (σ.1 27 y3.toInt.toNat)]) (i := ((σ.2.2 0))) ht1.1.1 (hid _ ht1.1.2) ⟨_, _, rfl⟩ (by decide) h (fun _ _ e => Z_X10_hasThing hid ht1 e) mi_X10_hasThing ml_RX11_121 rfl rfl (Nat.le_of_ble_eq_true rfl) (Nat.le_of_ble_eq_true rfl) (Nat.le_of_ble_eq_true rfl) dX11_load_33 (fun r3 σ2 h => ?_)
        refine p_if_eq C (X := r3.toInt) rfl dX11_load_36 (tgt := 56) rfl h (fun h => ?_) (fun h => ?_)
        ·
          exact j56 (f_X11_load_18 n) (fun y1 y2 y3 σ h => ih y1 y2 y3 σ h) _ _ _ _ h
        ·
          refine a_iload_n C dX11_load_39 (i := 2) rfl rfl ?_
          refine a_aload_n C dX11_load_40 (i := 0) rfl rfl ?_
          refine p_getT C fl_RX11_82 (tx := (σ2.2.2 0)) kd_0 (hid 0 (by decide)) (fun t e => by subst e; rfl) dX11_load_41 h (fun ht4 h => ?_)
          refine a_get C fl_RX11_125 (i := ((σ2.2.2 0))) ht4.1.1 (hid _ ht4.1.2) (v := .ref (ad ((σ2.2.2 0) + 1))) rfl dX11_load_44 ?_
          refine a_aload_n C dX11_load_47 (i := 0) rfl rfl ?_
          refine a_get C fl_RX11_69 (i := 0) kd_0 (hid 0 (by decide)) (v := .ref (ad 27)) rfl dX11_load_48 ?_
          refine a_iload_n C dX11_load_51 (i := 3) rfl rfl ?_
          refine p_iald C (i := 27) (show rowOK 27 from ⟨kd_27, by decide⟩) hid (by rw [al_27]; rfl) dX11_load_52 h (fun h => ?_)
          refine p_iald C (i := ((σ2.2.2 0) + 1)) ht4.2.1.1 hid (by rw [ht4.2.1.2]; rfl) dX11_load_53 h (fun h => ?_)
          refine a_iadd C dX11_load_54 ?_
          refine p_istore_n C (fun z5 => [some (.ref (ad 0)), some (.int y1), some (.int z5), some (.int y3)]) dX11_load_55 (i := 2) rfl (by decide) rfl (fun _ => rfl) h (fun z5 h => ?_)
          exact j56 (f_X11_load_18 n) (fun y1 y2 y3 σ h => ih y1 y2 y3 σ h) _ _ _ _ h
  refine a_iload_n C dX11_load_0 (i := 1) rfl rfl ?_
  refine p_callSi C (As := [.int x1]) h (fun _ _ e => Z_X11_isSpan hid e) ms_X11_isSpan ml_RX11_307 rfl rfl (Nat.le_of_ble_eq_true rfl) (Nat.le_of_ble_eq_true rfl) (Nat.le_of_ble_eq_true rfl) dX11_load_1 (fun r2 σ1 h => ?_)
  refine p_if_ne C (X := r2.toInt) rfl dX11_load_4 (tgt := 9) rfl h (fun h => ?_) (fun h => ?_)
  ·
    refine a_aload_n C dX11_load_9 (i := 0) rfl rfl ?_
    refine a_iload_n C dX11_load_10 (i := 1) rfl rfl ?_
    refine p_callVv C (As := [.int x1]) (i := 0) kd_0 (hid 0 (by decide)) ⟨_, _, rfl⟩ (by decide) h (fun _ e => Z_X11_findHands hid e) mi_X11_findHands ml_RX11_279 rfl rfl (Nat.le_of_ble_eq_true rfl) (Nat.le_of_ble_eq_true rfl) (Nat.le_of_ble_eq_true rfl) dX11_load_11 (fun σ3 h => ?_)
    refine a_iconst C dX11_load_14 (v := 0) rfl ?_
    refine a_istore_n C dX11_load_15 (i := 2) rfl (by decide) rfl (vs1 := [some (.ref (ad 0)), some (.int x1), some (.int 0), none]) rfl ?_
    refine a_iconst C dX11_load_16 (v := 0) rfl ?_
    refine a_istore_n C dX11_load_17 (i := 3) rfl (by decide) rfl (vs1 := [some (.ref (ad 0)), some (.int x1), some (.int 0), some (.int 0)]) rfl ?_
    exact j18 _ _ _ _ _ h
  ·
    refine a_iconst C dX11_load_7 (v := (-1)) rfl ?_
    exact a_iret Rt dX11_load_8 rfl (ret_eq (h.trans (congrArg some hR.symm)))
set_option maxHeartbeats 4000000 in
set_option maxRecDepth 100000 in
theorem Z_X11_rule {l : Launch} {D : va_G} {ids : List Nat} {ad : Nat → Nat} {ca : Nat → ClassId} {σ : HS} {x1 : Int32} {r0 : Int32} {s0 : HS} (hid : ∀ i, i < 277 → i ∈ ids) (h : f_X11_rule x1 σ = some (r0, s0)) : Ki l D ids ad ca yX11_rule cX11_rule 4 .int 6 146 [.ref (ad 0), .int x1] σ (fun r σ1 => r = r0 ∧ σ1 = s0) := by
  obtain ⟨R, hR⟩ : ∃ R, (r0, s0) = R := ⟨_, rfl⟩
  replace h := h.trans (congrArg some hR)
  refine Ki.of (by decide) (Nat.le_of_ble_eq_true rfl) 2 (fun Γ C Rt => ?_)
  show AW ids ad ca Γ 0 [some (.ref (ad 0)), some (.int x1), none, none] [] σ
  unfold f_X11_rule at h
  have j26 : ∀ (n : Nat) (y1 : Int32) (y2 : Int32) (y3 : Int32) (σ : HS), f_X11_rule_26 n y1 y2 y3 σ = some R → AW ids ad ca Γ 26 [some (.ref (ad 0)), some (.int y1), some (.int y2), some (.int y3)] [] σ := by
    intro n
    induction n with
    | zero => intro y1 y2 y3 σ h; exact nn h
    | succ n ih =>
      intro y1 y2 y3 σ h
      have h : b_X11_rule_26 (f_X11_rule_26 n) y1 y2 y3 σ = some R := h
      unfold b_X11_rule_26 at h
      refine a_iload_n C dX11_rule_26 (i := 3) rfl rfl ?_
      refine a_iload_n C dX11_rule_27 (i := 1) rfl rfl ?_
      refine p_ic_ge C (X := y3.toInt) (Y := y1.toInt) rfl rfl dX11_rule_28 (tgt := 70) rfl h (fun h => ?_) (fun h => ?_)
      ·
        refine a_iload_n C dX11_rule_70 (i := 2) rfl rfl ?_
        exact a_iret Rt dX11_rule_71 rfl (ret_eq (h.trans (congrArg some hR.symm)))
      ·
        refine a_iload_n C dX11_rule_31 (i := 2) rfl rfl ?_
        refine a_aload_n C dX11_rule_32 (i := 0) rfl rfl ?_
        refine a_get C fl_RX11_19 (i := 0) kd_0 (hid 0 (by decide)) (v := .ref (ad 8)) rfl dX11_rule_33 ?_
        refine a_aload_n C dX11_rule_36 (i := 0) rfl rfl ?_
        refine p_getT C fl_RX11_82 (tx := (σ.2.2 0)) kd_0 (hid 0 (by decide)) (fun t e => by subst e; rfl) dX11_rule_37 h (fun ht1 h => ?_)
        refine a_aload_n C dX11_rule_40 (i := 0) rfl rfl ?_
        refine a_get C fl_RX11_58 (i := 0) kd_0 (hid 0 (by decide)) (v := .ref (ad 60)) rfl dX11_rule_41 ?_
        refine p_callVi C (As := [.ref (ad ((σ.2.2 0))), .ref (ad 60)]) (i := 8) kd_8 (hid 8 (by decide)) ⟨_, _, rfl⟩ (by decide) h (fun _ _ e => Z_X4_inForce hid ht1 (show airOK 60 from airOK_of 1 (by decide)) e) mi_X4_inForce ml_RX11_317 rfl rfl (Nat.le_of_ble_eq_true rfl) (Nat.le_of_ble_eq_true rfl) (Nat.le_of_ble_eq_true rfl) dX11_rule_44 (fun r3 σ2 h => ?_)
        refine a_iadd C dX11_rule_47 ?_
        refine p_istore_n C (fun z4 => [some (.ref (ad 0)), some (.int y1), some (.int z4), some (.int y3)]) dX11_rule_48 (i := 2) rfl (by decide) rfl (fun _ => rfl) h (fun z4 h => ?_)
        refine a_aload_n C dX11_rule_49 (i := 0) rfl rfl ?_
        refine a_get C fl_RX11_19 (i := 0) kd_0 (hid 0 (by decide)) (v := .ref (ad 8)) rfl dX11_rule_50 ?_
        refine a_aload_n C dX11_rule_53 (i := 0) rfl rfl ?_
        refine p_getT C fl_RX11_82 (tx := (σ2.2.2 0)) kd_0 (hid 0 (by decide)) (fun t e => by subst e; rfl) dX11_rule_54 h (fun ht5 h => ?_)
        refine a_aload_n C dX11_rule_57 (i := 0) rfl rfl ?_
        refine a_get C fl_RX11_58 (i := 0) kd_0 (hid 0 (by decide)) (v := .ref (ad 60)) rfl dX11_rule_58 ?_
        refine p_callVv C (As := [.ref (ad ((σ2.2.2 0))), .ref (ad 60)]) (i := 8) kd_8 (hid 8 (by decide)) ⟨_, _, rfl⟩ (by decide) h (fun _ e => Z_X4_goOnSafely hid ht5 (show airOK 60 from airOK_of 1 (by decide)) e) mi_X4_goOnSafely ml_RX11_285 rfl rfl (Nat.le_of_ble_eq_true rfl) (Nat.le_of_ble_eq_true rfl) (Nat.le_of_ble_eq_true rfl) dX11_rule_61 (fun σ6 h => ?_)
        refine p_iinc C (y := (y3 + 1)) (fun z8 => [some (.ref (ad 0)), some (.int y1), some (.int z4), some (.int z8)]) dX11_rule_64 rfl rfl (by decide) rfl (fun _ => rfl) h (fun z8 h => ?_)
        refine a_goto C dX11_rule_67 (tgt := 26) rfl ?_
        exact ih _ _ _ _ h
  refine a_iload_n C dX11_rule_0 (i := 1) rfl rfl ?_
  refine p_callSi C (As := [.int x1]) h (fun _ _ e => Z_X11_isSpan hid e) ms_X11_isSpan ml_RX11_307 rfl rfl (Nat.le_of_ble_eq_true rfl) (Nat.le_of_ble_eq_true rfl) (Nat.le_of_ble_eq_true rfl) dX11_rule_1 (fun r2 σ1 h => ?_)
  refine p_if_ne C (X := r2.toInt) rfl dX11_rule_4 (tgt := 11) rfl h (fun h => ?_) (fun h => ?_)
  ·
    refine a_aload_n C dX11_rule_11 (i := 0) rfl rfl ?_
    refine a_get C fl_RX11_58 (i := 0) kd_0 (hid 0 (by decide)) (v := .ref (ad 60)) rfl dX11_rule_12 ?_
    refine a_aload_n C dX11_rule_15 (i := 0) rfl rfl ?_
    refine a_get C fl_RX11_54 (i := 0) kd_0 (hid 0 (by decide)) (v := .ref (ad 56)) rfl dX11_rule_16 ?_
    refine p_callVv C (As := [.ref (ad 56)]) (i := 60) (show airOK 60 from airOK_of 1 (by decide)).1.1 (hid _ (show airOK 60 from airOK_of 1 (by decide)).1.2) ⟨_, _, rfl⟩ (by decide) h (fun _ e => Z_X0_copy hid (show airOK 60 from airOK_of 1 (by decide)) (show airOK 56 from airOK_of 0 (by decide)) e) mi_X0_copy ml_RX11_230 rfl rfl (Nat.le_of_ble_eq_true rfl) (Nat.le_of_ble_eq_true rfl) (Nat.le_of_ble_eq_true rfl) dX11_rule_19 (fun σ3 h => ?_)
    refine a_iconst C dX11_rule_22 (v := 0) rfl ?_
    refine a_istore_n C dX11_rule_23 (i := 2) rfl (by decide) rfl (vs1 := [some (.ref (ad 0)), some (.int x1), some (.int 0), none]) rfl ?_
    refine a_iconst C dX11_rule_24 (v := 0) rfl ?_
    refine a_istore_n C dX11_rule_25 (i := 3) rfl (by decide) rfl (vs1 := [some (.ref (ad 0)), some (.int x1), some (.int 0), some (.int 0)]) rfl ?_
    exact j26 _ _ _ _ _ h
  ·
    refine a_ldcw C dX11_rule_7 ko_RX11_316 ?_
    exact a_iret Rt dX11_rule_10 rfl (ret_eq (h.trans (congrArg some hR.symm)))
set_option maxHeartbeats 4000000 in
set_option maxRecDepth 100000 in
theorem Z_X11_order {l : Launch} {D : va_G} {ids : List Nat} {ad : Nat → Nat} {ca : Nat → ClassId} {σ : HS} {x1 : Int32} {r0 : Int32} {s0 : HS} (hid : ∀ i, i < 277 → i ∈ ids) (h : f_X11_order x1 σ = some (r0, s0)) : Ki l D ids ad ca yX11_order cX11_order 5 .int 1 21 [.ref (ad 0), .int x1] σ (fun r σ1 => r = r0 ∧ σ1 = s0) := by
  obtain ⟨R, hR⟩ : ∃ R, (r0, s0) = R := ⟨_, rfl⟩
  replace h := h.trans (congrArg some hR)
  refine Ki.of (by decide) (Nat.le_of_ble_eq_true rfl) 3 (fun Γ C Rt => ?_)
  show AW ids ad ca Γ 0 [some (.ref (ad 0)), some (.int x1), none, none, none] [] σ
  unfold f_X11_order at h
  have j74 : ∀ (k16 : Int32 → Int32 → Int32 → HS → Option (Int32 × HS)) (hk16 : ∀ (y1 : Int32) (y2 : Int32) (y3 : Int32) (σ : HS), k16 y1 y2 y3 σ = some R → AW ids ad ca Γ 16 [some (.ref (ad 0)), some (.int y1), some (.int y2), some (.int y3), none] [] σ) (k25 : Int32 → Int32 → Int32 → Int32 → HS → Option (Int32 × HS)) (hk25 : ∀ (y1 : Int32) (y2 : Int32) (y3 : Int32) (y4 : Int32) (σ : HS), k25 y1 y2 y3 y4 σ = some R → AW ids ad ca Γ 25 [some (.ref (ad 0)), some (.int y1), some (.int y2), some (.int y3), some (.int y4)] [] σ) (y1 : Int32) (y2 : Int32) (y3 : Int32) (y4 : Int32) (σ : HS), f_X11_order_74 k16 k25 y1 y2 y3 y4 σ = some R → AW ids ad ca Γ 74 [some (.ref (ad 0)), some (.int y1), some (.int y2), some (.int y3), some (.int y4)] [] σ := by
    intro k16 hk16 k25 hk25 y1 y2 y3 y4 σ h
    unfold f_X11_order_74 at h
    refine p_iinc C (y := (y4 + 1)) (fun z1 => [some (.ref (ad 0)), some (.int y1), some (.int y2), some (.int y3), some (.int z1)]) dX11_order_74 rfl rfl (by decide) rfl (fun _ => rfl) h (fun z1 h => ?_)
    refine a_goto C dX11_order_77 (tgt := 25) rfl ?_
    exact hk25 _ _ _ _ _ h
  have j25 : ∀ (k16 : Int32 → Int32 → Int32 → HS → Option (Int32 × HS)) (hk16 : ∀ (y1 : Int32) (y2 : Int32) (y3 : Int32) (σ : HS), k16 y1 y2 y3 σ = some R → AW ids ad ca Γ 16 [some (.ref (ad 0)), some (.int y1), some (.int y2), some (.int y3), none] [] σ) (n : Nat) (y1 : Int32) (y2 : Int32) (y3 : Int32) (y4 : Int32) (σ : HS), f_X11_order_25 k16 n y1 y2 y3 y4 σ = some R → AW ids ad ca Γ 25 [some (.ref (ad 0)), some (.int y1), some (.int y2), some (.int y3), some (.int y4)] [] σ := by
    intro k16 hk16 n
    induction n with
    | zero => intro y1 y2 y3 y4 σ h; exact nn h
    | succ n ih =>
      intro y1 y2 y3 y4 σ h
      have h : b_X11_order_25 k16 (f_X11_order_25 k16 n) y1 y2 y3 y4 σ = some R := h
      unfold b_X11_order_25 at h
      refine a_iload C dX11_order_25 rfl ?_
      refine a_aload_n C dX11_order_27 (i := 0) rfl rfl ?_
      refine a_get C fl_RX11_54 (i := 0) kd_0 (hid 0 (by decide)) (v := .ref (ad 56)) rfl dX11_order_28 ?_
      refine a_get C fl_RX11_321 (i := 56) (show airOK 56 from airOK_of 0 (by decide)).1.1 (hid _ (show airOK 56 from airOK_of 0 (by decide)).1.2) (v := .int (σ.1 56 0)) rfl dX11_order_31 ?_
      refine p_ic_ge C (X := y4.toInt) (Y := (σ.1 56 0).toInt) rfl rfl dX11_order_34 (tgt := 80) rfl h (fun h => ?_) (fun h => ?_)
      ·
        refine p_iinc C (y := (y3 + 1)) (fun z1 => [some (.ref (ad 0)), some (.int y1), some (.int y2), some (.int z1), some (.int y4)]) dX11_order_80 rfl rfl (by decide) rfl (fun _ => rfl) h (fun z1 h => ?_)
        refine a_goto C dX11_order_83 (tgt := 16) rfl ?_
        refine AW.sub (vs' := [some (.ref (ad 0)), some (.int y1), some (.int y2), some (.int z1), none]) (lsub_of (by simp [lsubB])) ?_
        exact hk16 _ _ _ _ h
      ·
        refine a_aload_n C dX11_order_37 (i := 0) rfl rfl ?_
        refine a_get C fl_RX11_54 (i := 0) kd_0 (hid 0 (by decide)) (v := .ref (ad 56)) rfl dX11_order_38 ?_
        refine a_iload C dX11_order_41 rfl ?_
        refine p_callVi C (As := [.int y4]) (i := 56) (show airOK 56 from airOK_of 0 (by decide)).1.1 (hid _ (show airOK 56 from airOK_of 0 (by decide)).1.2) ⟨_, _, rfl⟩ (by decide) h (fun _ _ e => Z_X0_isUp hid (show airOK 56 from airOK_of 0 (by decide)) e) mi_X0_isUp ml_RX11_134 rfl rfl (Nat.le_of_ble_eq_true rfl) (Nat.le_of_ble_eq_true rfl) (Nat.le_of_ble_eq_true rfl) dX11_order_43 (fun r3 σ2 h => ?_)
        refine p_if_eq C (X := r3.toInt) rfl dX11_order_46 (tgt := 74) rfl h (fun h => ?_) (fun h => ?_)
        ·
          exact j74 k16 hk16 (f_X11_order_25 k16 n) (fun y1 y2 y3 y4 σ h => ih y1 y2 y3 y4 σ h) _ _ _ _ _ h
        ·
          refine a_aload_n C dX11_order_49 (i := 0) rfl rfl ?_
          refine a_get C fl_RX11_54 (i := 0) kd_0 (hid 0 (by decide)) (v := .ref (ad 56)) rfl dX11_order_50 ?_
          refine a_get C fl_RX11_137 (i := 56) (show airOK 56 from airOK_of 0 (by decide)).1.1 (hid _ (show airOK 56 from airOK_of 0 (by decide)).1.2) (v := .ref (ad 58)) rfl dX11_order_53 ?_
          refine a_iload C dX11_order_56 rfl ?_
          refine p_iald C (i := 58) (show rowOK 58 from ⟨kd_58, by decide⟩) hid (by rw [al_58]; rfl) dX11_order_58 h (fun h => ?_)
          refine a_iload_n C dX11_order_59 (i := 3) rfl rfl ?_
          refine p_ic_ne C (X := (σ2.1 58 y4.toInt.toNat).toInt) (Y := y3.toInt) rfl rfl dX11_order_60 (tgt := 74) rfl h (fun h => ?_) (fun h => ?_)
          ·
            exact j74 k16 hk16 (f_X11_order_25 k16 n) (fun y1 y2 y3 y4 σ h => ih y1 y2 y3 y4 σ h) _ _ _ _ _ h
          ·
            refine a_iload_n C dX11_order_63 (i := 2) rfl rfl ?_
            refine a_iload_n C dX11_order_64 (i := 1) rfl rfl ?_
            refine p_ic_ne C (X := y2.toInt) (Y := y1.toInt) rfl rfl dX11_order_65 (tgt := 71) rfl h (fun h => ?_) (fun h => ?_)
            ·
              refine p_iinc C (y := (y2 + 1)) (fun z4 => [some (.ref (ad 0)), some (.int y1), some (.int z4), some (.int y3), some (.int y4)]) dX11_order_71 rfl rfl (by decide) rfl (fun _ => rfl) h (fun z4 h => ?_)
              exact j74 k16 hk16 (f_X11_order_25 k16 n) (fun y1 y2 y3 y4 σ h => ih y1 y2 y3 y4 σ h) _ _ _ _ _ h
            ·
              refine a_iload C dX11_order_68 rfl ?_
              exact a_iret Rt dX11_order_70 rfl (ret_eq (h.trans (congrArg some hR.symm)))
  have j16 : ∀ (n : Nat) (y1 : Int32) (y2 : Int32) (y3 : Int32) (σ : HS), f_X11_order_16 n y1 y2 y3 σ = some R → AW ids ad ca Γ 16 [some (.ref (ad 0)), some (.int y1), some (.int y2), some (.int y3), none] [] σ := by
    intro n
    induction n with
    | zero => intro y1 y2 y3 σ h; exact nn h
    | succ n ih =>
      intro y1 y2 y3 σ h
      have h : b_X11_order_16 (f_X11_order_16 n) y1 y2 y3 σ = some R := h
      unfold b_X11_order_16 at h
      refine a_iload_n C dX11_order_16 (i := 3) rfl rfl ?_
      refine a_bipush C dX11_order_17 (v := 9) rfl ?_
      refine p_ic_gt C (X := y3.toInt) (Y := 9) rfl (by decide) dX11_order_19 (tgt := 86) rfl h (fun h => ?_) (fun h => ?_)
      ·
        refine a_iconst C dX11_order_86 (v := (-1)) rfl ?_
        exact a_iret Rt dX11_order_87 rfl (ret_eq (h.trans (congrArg some hR.symm)))
      ·
        refine a_iconst C dX11_order_22 (v := 0) rfl ?_
        refine a_istore C dX11_order_23 (by decide) rfl (vs1 := [some (.ref (ad 0)), some (.int y1), some (.int y2), some (.int y3), some (.int 0)]) rfl ?_
        exact j25 (f_X11_order_16 n) (fun y1 y2 y3 σ h => ih y1 y2 y3 σ h) _ _ _ _ _ _ h
  refine a_iload_n C dX11_order_0 (i := 1) rfl rfl ?_
  refine p_if_lt C (X := x1.toInt) rfl dX11_order_1 (tgt := 10) rfl h (fun h => ?_) (fun h => ?_)
  ·
    refine a_iconst C dX11_order_10 (v := (-1)) rfl ?_
    exact a_iret Rt dX11_order_11 rfl (ret_eq (h.trans (congrArg some hR.symm)))
  ·
    refine a_iload_n C dX11_order_4 (i := 1) rfl rfl ?_
    refine a_bipush C dX11_order_5 (v := 7) rfl ?_
    refine p_ic_lt C (X := x1.toInt) (Y := 7) rfl (by decide) dX11_order_7 (tgt := 12) rfl h (fun h => ?_) (fun h => ?_)
    ·
      refine a_iconst C dX11_order_12 (v := 0) rfl ?_
      refine a_istore_n C dX11_order_13 (i := 2) rfl (by decide) rfl (vs1 := [some (.ref (ad 0)), some (.int x1), some (.int 0), none, none]) rfl ?_
      refine a_iconst C dX11_order_14 (v := 0) rfl ?_
      refine a_istore_n C dX11_order_15 (i := 3) rfl (by decide) rfl (vs1 := [some (.ref (ad 0)), some (.int x1), some (.int 0), some (.int 0), none]) rfl ?_
      exact j16 _ _ _ _ _ h
    ·
      refine a_iconst C dX11_order_10 (v := (-1)) rfl ?_
      exact a_iret Rt dX11_order_11 rfl (ret_eq (h.trans (congrArg some hR.symm)))
set_option maxHeartbeats 4000000 in
set_option maxRecDepth 100000 in
theorem Z_X11_handover {l : Launch} {D : va_G} {ids : List Nat} {ad : Nat → Nat} {ca : Nat → ClassId} {σ : HS} {r0 : Int32} {s0 : HS} (hid : ∀ i, i < 277 → i ∈ ids) (h : f_X11_handover σ = some (r0, s0)) : Ki l D ids ad ca yX11_handover cX11_handover 4 .int 6 149 [.ref (ad 0)] σ (fun r σ1 => r = r0 ∧ σ1 = s0) := by
  obtain ⟨R, hR⟩ : ∃ R, (r0, s0) = R := ⟨_, rfl⟩
  replace h := h.trans (congrArg some hR)
  refine Ki.of (by decide) (Nat.le_of_ble_eq_true rfl) 3 (fun Γ C Rt => ?_)
  show AW ids ad ca Γ 0 [some (.ref (ad 0)), none, none, none] [] σ
  unfold f_X11_handover at h
  have j55 : ∀ (k22 : Int32 → Int32 → HS → Option (Int32 × HS)) (hk22 : ∀ (y1 : Int32) (y2 : Int32) (σ : HS), k22 y1 y2 σ = some R → AW ids ad ca Γ 22 [some (.ref (ad 0)), some (.int y1), some (.int y2), none] [] σ) (y1 : Int32) (y2 : Int32) (σ : HS), f_X11_handover_55 k22 y1 y2 σ = some R → AW ids ad ca Γ 55 [some (.ref (ad 0)), some (.int y1), some (.int y2), none] [] σ := by
    intro k22 hk22 y1 y2 σ h
    unfold f_X11_handover_55 at h
    refine a_aload_n C dX11_handover_55 (i := 0) rfl rfl ?_
    refine a_get C fl_RX11_19 (i := 0) kd_0 (hid 0 (by decide)) (v := .ref (ad 8)) rfl dX11_handover_56 ?_
    refine a_aload_n C dX11_handover_59 (i := 0) rfl rfl ?_
    refine p_getT C fl_RX11_82 (tx := (σ.2.2 0)) kd_0 (hid 0 (by decide)) (fun t e => by subst e; rfl) dX11_handover_60 h (fun ht1 h => ?_)
    refine a_aload_n C dX11_handover_63 (i := 0) rfl rfl ?_
    refine a_get C fl_RX11_58 (i := 0) kd_0 (hid 0 (by decide)) (v := .ref (ad 60)) rfl dX11_handover_64 ?_
    refine a_iconst C dX11_handover_67 (v := 1) rfl ?_
    refine a_aload_n C dX11_handover_68 (i := 0) rfl rfl ?_
    refine p_getT C fl_RX11_82 (tx := (σ.2.2 0)) kd_0 (hid 0 (by decide)) (fun t e => by subst e; rfl) dX11_handover_69 h (fun ht2 h => ?_)
    refine a_get C fl_RX11_220 (i := ((σ.2.2 0))) ht2.1.1 (hid _ ht2.1.2) (v := .int (σ.1 ((σ.2.2 0)) 11)) rfl dX11_handover_72 ?_
    refine p_callVv C (As := [.ref (ad ((σ.2.2 0))), .ref (ad 60), .int 1, .int (σ.1 ((σ.2.2 0)) 11)]) (i := 8) kd_8 (hid 8 (by decide)) ⟨_, _, rfl⟩ (by decide) h (fun _ e => Z_X4_goOn hid ht1 (show airOK 60 from airOK_of 1 (by decide)) e) mi_X4_goOn ml_RX11_223 rfl rfl (Nat.le_of_ble_eq_true rfl) (Nat.le_of_ble_eq_true rfl) (Nat.le_of_ble_eq_true rfl) dX11_handover_75 (fun σ3 h => ?_)
    refine p_iinc C (y := (y2 + 1)) (fun z5 => [some (.ref (ad 0)), some (.int y1), some (.int z5), none]) dX11_handover_78 rfl rfl (by decide) rfl (fun _ => rfl) h (fun z5 h => ?_)
    refine a_goto C dX11_handover_81 (tgt := 22) rfl ?_
    exact hk22 _ _ _ h
  have j22 : ∀ (n : Nat) (y1 : Int32) (y2 : Int32) (σ : HS), f_X11_handover_22 n y1 y2 σ = some R → AW ids ad ca Γ 22 [some (.ref (ad 0)), some (.int y1), some (.int y2), none] [] σ := by
    intro n
    induction n with
    | zero => intro y1 y2 σ h; exact nn h
    | succ n ih =>
      intro y1 y2 σ h
      have h : b_X11_handover_22 (f_X11_handover_22 n) y1 y2 σ = some R := h
      unfold b_X11_handover_22 at h
      refine a_iload_n C dX11_handover_22 (i := 2) rfl rfl ?_
      refine a_bipush C dX11_handover_23 (v := 60) rfl ?_
      refine p_ic_gt C (X := y2.toInt) (Y := 60) rfl (by decide) dX11_handover_25 (tgt := 84) rfl h (fun h => ?_) (fun h => ?_)
      ·
        refine a_bipush C dX11_handover_84 (v := (-2)) rfl ?_
        exact a_iret Rt dX11_handover_86 rfl (ret_eq (h.trans (congrArg some hR.symm)))
      ·
        refine a_iload_n C dX11_handover_28 (i := 1) rfl rfl ?_
        refine p_if_ne C (X := y1.toInt) rfl dX11_handover_29 (tgt := 34) rfl h (fun h => ?_) (fun h => ?_)
        ·
          refine a_aload_n C dX11_handover_34 (i := 0) rfl rfl ?_
          refine a_get C fl_RX11_58 (i := 0) kd_0 (hid 0 (by decide)) (v := .ref (ad 60)) rfl dX11_handover_35 ?_
          refine p_callVi C (As := []) (i := 60) (show airOK 60 from airOK_of 1 (by decide)).1.1 (hid _ (show airOK 60 from airOK_of 1 (by decide)).1.2) ⟨_, _, rfl⟩ (by decide) h (fun _ _ e => Z_X0_firstLanding hid (show airOK 60 from airOK_of 1 (by decide)) e) mi_X0_firstLanding ml_RX11_282 rfl rfl (Nat.le_of_ble_eq_true rfl) (Nat.le_of_ble_eq_true rfl) (Nat.le_of_ble_eq_true rfl) dX11_handover_38 (fun r2 σ1 h => ?_)
          refine a_istore_n C dX11_handover_41 (i := 3) rfl (by decide) rfl (vs1 := [some (.ref (ad 0)), some (.int y1), some (.int y2), some (.int r2)]) rfl ?_
          refine a_iload_n C dX11_handover_42 (i := 3) rfl rfl ?_
          refine a_iconst C dX11_handover_43 (v := (-1)) rfl ?_
          refine p_ic_eq C (X := r2.toInt) (Y := (-1)) rfl (by decide) dX11_handover_44 (tgt := 55) rfl h (fun h => ?_) (fun h => ?_)
          ·
            refine AW.sub (vs' := [some (.ref (ad 0)), some (.int y1), some (.int y2), none]) (lsub_of (by simp [lsubB])) ?_
            exact j55 (f_X11_handover_22 n) (fun y1 y2 σ h => ih y1 y2 σ h) _ _ _ h
          ·
            refine a_iload_n C dX11_handover_47 (i := 1) rfl rfl ?_
            refine a_iconst C dX11_handover_48 (v := 1) rfl ?_
            refine a_iload_n C dX11_handover_49 (i := 3) rfl rfl ?_
            refine a_ishl C dX11_handover_50 ?_
            refine a_iconst C dX11_handover_51 (v := (-1)) rfl ?_
            refine a_ixor C dX11_handover_52 ?_
            refine a_iand C dX11_handover_53 ?_
            refine p_istore_n C (fun z3 => [some (.ref (ad 0)), some (.int z3), some (.int y2), some (.int r2)]) dX11_handover_54 (i := 1) rfl (by decide) rfl (fun _ => rfl) h (fun z3 h => ?_)
            refine AW.sub (vs' := [some (.ref (ad 0)), some (.int z3), some (.int y2), none]) (lsub_of (by simp [lsubB])) ?_
            exact j55 (f_X11_handover_22 n) (fun y1 y2 σ h => ih y1 y2 σ h) _ _ _ h
        ·
          refine a_iload_n C dX11_handover_32 (i := 2) rfl rfl ?_
          exact a_iret Rt dX11_handover_33 rfl (ret_eq (h.trans (congrArg some hR.symm)))
  refine a_aload_n C dX11_handover_0 (i := 0) rfl rfl ?_
  refine a_get C fl_RX11_58 (i := 0) kd_0 (hid 0 (by decide)) (v := .ref (ad 60)) rfl dX11_handover_1 ?_
  refine a_aload_n C dX11_handover_4 (i := 0) rfl rfl ?_
  refine a_get C fl_RX11_54 (i := 0) kd_0 (hid 0 (by decide)) (v := .ref (ad 56)) rfl dX11_handover_5 ?_
  refine p_callVv C (As := [.ref (ad 56)]) (i := 60) (show airOK 60 from airOK_of 1 (by decide)).1.1 (hid _ (show airOK 60 from airOK_of 1 (by decide)).1.2) ⟨_, _, rfl⟩ (by decide) h (fun _ e => Z_X0_copy hid (show airOK 60 from airOK_of 1 (by decide)) (show airOK 56 from airOK_of 0 (by decide)) e) mi_X0_copy ml_RX11_230 rfl rfl (Nat.le_of_ble_eq_true rfl) (Nat.le_of_ble_eq_true rfl) (Nat.le_of_ble_eq_true rfl) dX11_handover_8 (fun σ1 h => ?_)
  refine a_aload_n C dX11_handover_11 (i := 0) rfl rfl ?_
  refine a_get C fl_RX11_54 (i := 0) kd_0 (hid 0 (by decide)) (v := .ref (ad 56)) rfl dX11_handover_12 ?_
  refine a_iconst C dX11_handover_15 (v := 0) rfl ?_
  refine p_callVi C (As := [.int 0]) (i := 56) (show airOK 56 from airOK_of 0 (by decide)).1.1 (hid _ (show airOK 56 from airOK_of 0 (by decide)).1.2) ⟨_, _, rfl⟩ (by decide) h (fun _ _ e => Z_X0_bitsOf hid (show airOK 56 from airOK_of 0 (by decide)) e) mi_X0_bitsOf ml_RX11_180 rfl rfl (Nat.le_of_ble_eq_true rfl) (Nat.le_of_ble_eq_true rfl) (Nat.le_of_ble_eq_true rfl) dX11_handover_16 (fun r4 σ3 h => ?_)
  refine a_istore_n C dX11_handover_19 (i := 1) rfl (by decide) rfl (vs1 := [some (.ref (ad 0)), some (.int r4), none, none]) rfl ?_
  refine a_iconst C dX11_handover_20 (v := 0) rfl ?_
  refine a_istore_n C dX11_handover_21 (i := 2) rfl (by decide) rfl (vs1 := [some (.ref (ad 0)), some (.int r4), some (.int 0), none]) rfl ?_
  exact j22 _ _ _ _ h
set_option maxHeartbeats 4000000 in
set_option maxRecDepth 100000 in
theorem Z_X11_limit {l : Launch} {D : va_G} {ids : List Nat} {ad : Nat → Nat} {ca : Nat → ClassId} {σ : HS} {x1 : Int32} {r0 : Int32} {s0 : HS} (hid : ∀ i, i < 277 → i ∈ ids) (h : f_X11_limit x1 σ = some (r0, s0)) : Ki l D ids ad ca yX11_limit cX11_limit 3 .int 6 149 [.ref (ad 0), .int x1] σ (fun r σ1 => r = r0 ∧ σ1 = s0) := by
  obtain ⟨R, hR⟩ : ∃ R, (r0, s0) = R := ⟨_, rfl⟩
  replace h := h.trans (congrArg some hR)
  refine Ki.of (by decide) (Nat.le_of_ble_eq_true rfl) 1 (fun Γ C Rt => ?_)
  show AW ids ad ca Γ 0 [some (.ref (ad 0)), some (.int x1), none] [] σ
  unfold f_X11_limit at h
  have j26 : ∀ (n : Nat) (y1 : Int32) (y2 : Int32) (σ : HS), f_X11_limit_26 n y1 y2 σ = some R → AW ids ad ca Γ 26 [some (.ref (ad 0)), some (.int y1), some (.int y2)] [] σ := by
    intro n
    induction n with
    | zero => intro y1 y2 σ h; exact nn h
    | succ n ih =>
      intro y1 y2 σ h
      have h : b_X11_limit_26 (f_X11_limit_26 n) y1 y2 σ = some R := h
      unfold b_X11_limit_26 at h
      refine a_iload_n C dX11_limit_26 (i := 2) rfl rfl ?_
      refine a_sipush C dX11_limit_27 (v := 200) rfl ?_
      refine p_ic_gt C (X := y2.toInt) (Y := 200) rfl (by decide) dX11_limit_30 (tgt := 75) rfl h (fun h => ?_) (fun h => ?_)
      ·
        refine a_bipush C dX11_limit_75 (v := (-2)) rfl ?_
        exact a_iret Rt dX11_limit_77 rfl (ret_eq (h.trans (congrArg some hR.symm)))
      ·
        refine a_aload_n C dX11_limit_33 (i := 0) rfl rfl ?_
        refine a_get C fl_RX11_58 (i := 0) kd_0 (hid 0 (by decide)) (v := .ref (ad 60)) rfl dX11_limit_34 ?_
        refine a_get C fl_RX11_177 (i := 60) (show airOK 60 from airOK_of 1 (by decide)).1.1 (hid _ (show airOK 60 from airOK_of 1 (by decide)).1.2) (v := .int (σ.1 60 5)) rfl dX11_limit_37 ?_
        refine a_iload_n C dX11_limit_40 (i := 1) rfl rfl ?_
        refine p_ic_lt C (X := (σ.1 60 5).toInt) (Y := y1.toInt) rfl rfl dX11_limit_41 (tgt := 46) rfl h (fun h => ?_) (fun h => ?_)
        ·
          refine a_aload_n C dX11_limit_46 (i := 0) rfl rfl ?_
          refine a_get C fl_RX11_19 (i := 0) kd_0 (hid 0 (by decide)) (v := .ref (ad 8)) rfl dX11_limit_47 ?_
          refine a_aload_n C dX11_limit_50 (i := 0) rfl rfl ?_
          refine p_getT C fl_RX11_82 (tx := (σ.2.2 0)) kd_0 (hid 0 (by decide)) (fun t e => by subst e; rfl) dX11_limit_51 h (fun ht1 h => ?_)
          refine a_aload_n C dX11_limit_54 (i := 0) rfl rfl ?_
          refine a_get C fl_RX11_58 (i := 0) kd_0 (hid 0 (by decide)) (v := .ref (ad 60)) rfl dX11_limit_55 ?_
          refine a_iconst C dX11_limit_58 (v := 1) rfl ?_
          refine a_aload_n C dX11_limit_59 (i := 0) rfl rfl ?_
          refine p_getT C fl_RX11_82 (tx := (σ.2.2 0)) kd_0 (hid 0 (by decide)) (fun t e => by subst e; rfl) dX11_limit_60 h (fun ht2 h => ?_)
          refine a_get C fl_RX11_220 (i := ((σ.2.2 0))) ht2.1.1 (hid _ ht2.1.2) (v := .int (σ.1 ((σ.2.2 0)) 11)) rfl dX11_limit_63 ?_
          refine p_callVv C (As := [.ref (ad ((σ.2.2 0))), .ref (ad 60), .int 1, .int (σ.1 ((σ.2.2 0)) 11)]) (i := 8) kd_8 (hid 8 (by decide)) ⟨_, _, rfl⟩ (by decide) h (fun _ e => Z_X4_goOn hid ht1 (show airOK 60 from airOK_of 1 (by decide)) e) mi_X4_goOn ml_RX11_223 rfl rfl (Nat.le_of_ble_eq_true rfl) (Nat.le_of_ble_eq_true rfl) (Nat.le_of_ble_eq_true rfl) dX11_limit_66 (fun σ3 h => ?_)
          refine p_iinc C (y := (y2 + 1)) (fun z5 => [some (.ref (ad 0)), some (.int y1), some (.int z5)]) dX11_limit_69 rfl rfl (by decide) rfl (fun _ => rfl) h (fun z5 h => ?_)
          refine a_goto C dX11_limit_72 (tgt := 26) rfl ?_
          exact ih _ _ _ h
        ·
          refine a_iload_n C dX11_limit_44 (i := 2) rfl rfl ?_
          exact a_iret Rt dX11_limit_45 rfl (ret_eq (h.trans (congrArg some hR.symm)))
  refine a_iload_n C dX11_limit_0 (i := 1) rfl rfl ?_
  refine p_if_lt C (X := x1.toInt) rfl dX11_limit_1 (tgt := 11) rfl h (fun h => ?_) (fun h => ?_)
  ·
    refine a_iconst C dX11_limit_11 (v := (-1)) rfl ?_
    exact a_iret Rt dX11_limit_12 rfl (ret_eq (h.trans (congrArg some hR.symm)))
  ·
    refine a_iload_n C dX11_limit_4 (i := 1) rfl rfl ?_
    refine a_sipush C dX11_limit_5 (v := 999) rfl ?_
    refine p_ic_le C (X := x1.toInt) (Y := 999) rfl (by decide) dX11_limit_8 (tgt := 13) rfl h (fun h => ?_) (fun h => ?_)
    ·
      refine a_aload_n C dX11_limit_13 (i := 0) rfl rfl ?_
      refine a_get C fl_RX11_58 (i := 0) kd_0 (hid 0 (by decide)) (v := .ref (ad 60)) rfl dX11_limit_14 ?_
      refine a_aload_n C dX11_limit_17 (i := 0) rfl rfl ?_
      refine a_get C fl_RX11_54 (i := 0) kd_0 (hid 0 (by decide)) (v := .ref (ad 56)) rfl dX11_limit_18 ?_
      refine p_callVv C (As := [.ref (ad 56)]) (i := 60) (show airOK 60 from airOK_of 1 (by decide)).1.1 (hid _ (show airOK 60 from airOK_of 1 (by decide)).1.2) ⟨_, _, rfl⟩ (by decide) h (fun _ e => Z_X0_copy hid (show airOK 60 from airOK_of 1 (by decide)) (show airOK 56 from airOK_of 0 (by decide)) e) mi_X0_copy ml_RX11_230 rfl rfl (Nat.le_of_ble_eq_true rfl) (Nat.le_of_ble_eq_true rfl) (Nat.le_of_ble_eq_true rfl) dX11_limit_21 (fun σ1 h => ?_)
      refine a_iconst C dX11_limit_24 (v := 0) rfl ?_
      refine a_istore_n C dX11_limit_25 (i := 2) rfl (by decide) rfl (vs1 := [some (.ref (ad 0)), some (.int x1), some (.int 0)]) rfl ?_
      exact j26 _ _ _ _ h
    ·
      refine a_iconst C dX11_limit_11 (v := (-1)) rfl ?_
      exact a_iret Rt dX11_limit_12 rfl (ret_eq (h.trans (congrArg some hR.symm)))
set_option maxHeartbeats 4000000 in
set_option maxRecDepth 100000 in
theorem Z_X11_down {l : Launch} {D : va_G} {ids : List Nat} {ad : Nat → Nat} {ca : Nat → ClassId} {σ : HS} {r0 : Int32} {s0 : HS} (hid : ∀ i, i < 277 → i ∈ ids) (h : f_X11_down σ = some (r0, s0)) : Ki l D ids ad ca yX11_down cX11_down 2 .int 6 149 [.ref (ad 0)] σ (fun r σ1 => r = r0 ∧ σ1 = s0) := by
  obtain ⟨R, hR⟩ : ∃ R, (r0, s0) = R := ⟨_, rfl⟩
  replace h := h.trans (congrArg some hR)
  refine Ki.of (by decide) (Nat.le_of_ble_eq_true rfl) 1 (fun Γ C Rt => ?_)
  show AW ids ad ca Γ 0 [some (.ref (ad 0)), none] [] σ
  unfold f_X11_down at h
  have j13 : ∀ (n : Nat) (y1 : Int32) (σ : HS), f_X11_down_13 n y1 σ = some R → AW ids ad ca Γ 13 [some (.ref (ad 0)), some (.int y1)] [] σ := by
    intro n
    induction n with
    | zero => intro y1 σ h; exact nn h
    | succ n ih =>
      intro y1 σ h
      have h : b_X11_down_13 (f_X11_down_13 n) y1 σ = some R := h
      unfold b_X11_down_13 at h
      refine a_iload_n C dX11_down_13 (i := 1) rfl rfl ?_
      refine a_sipush C dX11_down_14 (v := 200) rfl ?_
      refine p_ic_gt C (X := y1.toInt) (Y := 200) rfl (by decide) dX11_down_17 (tgt := 61) rfl h (fun h => ?_) (fun h => ?_)
      ·
        refine a_bipush C dX11_down_61 (v := (-2)) rfl ?_
        exact a_iret Rt dX11_down_63 rfl (ret_eq (h.trans (congrArg some hR.symm)))
      ·
        refine a_aload_n C dX11_down_20 (i := 0) rfl rfl ?_
        refine a_get C fl_RX11_58 (i := 0) kd_0 (hid 0 (by decide)) (v := .ref (ad 60)) rfl dX11_down_21 ?_
        refine p_callVi C (As := []) (i := 60) (show airOK 60 from airOK_of 1 (by decide)).1.1 (hid _ (show airOK 60 from airOK_of 1 (by decide)).1.2) ⟨_, _, rfl⟩ (by decide) h (fun _ _ e => Z_X0_howManyUp hid (show airOK 60 from airOK_of 1 (by decide)) e) mi_X0_howManyUp ml_RX11_156 rfl rfl (Nat.le_of_ble_eq_true rfl) (Nat.le_of_ble_eq_true rfl) (Nat.le_of_ble_eq_true rfl) dX11_down_24 (fun r2 σ1 h => ?_)
        refine p_if_ne C (X := r2.toInt) rfl dX11_down_27 (tgt := 32) rfl h (fun h => ?_) (fun h => ?_)
        ·
          refine a_aload_n C dX11_down_32 (i := 0) rfl rfl ?_
          refine a_get C fl_RX11_19 (i := 0) kd_0 (hid 0 (by decide)) (v := .ref (ad 8)) rfl dX11_down_33 ?_
          refine a_aload_n C dX11_down_36 (i := 0) rfl rfl ?_
          refine p_getT C fl_RX11_82 (tx := (σ1.2.2 0)) kd_0 (hid 0 (by decide)) (fun t e => by subst e; rfl) dX11_down_37 h (fun ht3 h => ?_)
          refine a_aload_n C dX11_down_40 (i := 0) rfl rfl ?_
          refine a_get C fl_RX11_58 (i := 0) kd_0 (hid 0 (by decide)) (v := .ref (ad 60)) rfl dX11_down_41 ?_
          refine a_iconst C dX11_down_44 (v := 1) rfl ?_
          refine a_aload_n C dX11_down_45 (i := 0) rfl rfl ?_
          refine p_getT C fl_RX11_82 (tx := (σ1.2.2 0)) kd_0 (hid 0 (by decide)) (fun t e => by subst e; rfl) dX11_down_46 h (fun ht4 h => ?_)
          refine a_get C fl_RX11_220 (i := ((σ1.2.2 0))) ht4.1.1 (hid _ ht4.1.2) (v := .int (σ1.1 ((σ1.2.2 0)) 11)) rfl dX11_down_49 ?_
          refine p_callVv C (As := [.ref (ad ((σ1.2.2 0))), .ref (ad 60), .int 1, .int (σ1.1 ((σ1.2.2 0)) 11)]) (i := 8) kd_8 (hid 8 (by decide)) ⟨_, _, rfl⟩ (by decide) h (fun _ e => Z_X4_goOn hid ht3 (show airOK 60 from airOK_of 1 (by decide)) e) mi_X4_goOn ml_RX11_223 rfl rfl (Nat.le_of_ble_eq_true rfl) (Nat.le_of_ble_eq_true rfl) (Nat.le_of_ble_eq_true rfl) dX11_down_52 (fun σ5 h => ?_)
          refine p_iinc C (y := (y1 + 1)) (fun z7 => [some (.ref (ad 0)), some (.int z7)]) dX11_down_55 rfl rfl (by decide) rfl (fun _ => rfl) h (fun z7 h => ?_)
          refine a_goto C dX11_down_58 (tgt := 13) rfl ?_
          exact ih _ _ h
        ·
          refine a_iload_n C dX11_down_30 (i := 1) rfl rfl ?_
          exact a_iret Rt dX11_down_31 rfl (ret_eq (h.trans (congrArg some hR.symm)))
  refine a_aload_n C dX11_down_0 (i := 0) rfl rfl ?_
  refine a_get C fl_RX11_58 (i := 0) kd_0 (hid 0 (by decide)) (v := .ref (ad 60)) rfl dX11_down_1 ?_
  refine a_aload_n C dX11_down_4 (i := 0) rfl rfl ?_
  refine a_get C fl_RX11_54 (i := 0) kd_0 (hid 0 (by decide)) (v := .ref (ad 56)) rfl dX11_down_5 ?_
  refine p_callVv C (As := [.ref (ad 56)]) (i := 60) (show airOK 60 from airOK_of 1 (by decide)).1.1 (hid _ (show airOK 60 from airOK_of 1 (by decide)).1.2) ⟨_, _, rfl⟩ (by decide) h (fun _ e => Z_X0_copy hid (show airOK 60 from airOK_of 1 (by decide)) (show airOK 56 from airOK_of 0 (by decide)) e) mi_X0_copy ml_RX11_230 rfl rfl (Nat.le_of_ble_eq_true rfl) (Nat.le_of_ble_eq_true rfl) (Nat.le_of_ble_eq_true rfl) dX11_down_8 (fun σ1 h => ?_)
  refine a_iconst C dX11_down_11 (v := 0) rfl ?_
  refine a_istore_n C dX11_down_12 (i := 1) rfl (by decide) rfl (vs1 := [some (.ref (ad 0)), some (.int 0)]) rfl ?_
  exact j13 _ _ _ h

set_option maxHeartbeats 4000000 in
set_option maxRecDepth 100000 in
theorem Z_X11_light {l : Launch} {D : va_G} {ids : List Nat} {ad : Nat → Nat} {ca : Nat → ClassId} {σ : HS} {x1 : Int32} {x2 : Int32} {r0 : Int32} {s0 : HS} (hid : ∀ i, i < 277 → i ∈ ids) (h : f_X11_light x1 x2 σ = some (r0, s0)) : Ki l D ids ad ca yX11_light cX11_light 6 .int 6 149 [.ref (ad 0), .int x1, .int x2] σ (fun r σ1 => r = r0 ∧ σ1 = s0) := by
  obtain ⟨R, hR⟩ : ∃ R, (r0, s0) = R := ⟨_, rfl⟩
  replace h := h.trans (congrArg some hR)
  refine Ki.of (by decide) (Nat.le_of_ble_eq_true rfl) 3 (fun Γ C Rt => ?_)
  show AW ids ad ca Γ 0 [some (.ref (ad 0)), some (.int x1), some (.int x2), none, none, none] [] σ
  unfold f_X11_light at h
  have j147 : ∀ (k28 : Int32 → Int32 → Int32 → Int32 → Int32 → HS → Option (Int32 × HS)) (hk28 : ∀ (y1 : Int32) (y2 : Int32) (y3 : Int32) (y4 : Int32) (y5 : Int32) (σ : HS), k28 y1 y2 y3 y4 y5 σ = some R → AW ids ad ca Γ 28 [some (.ref (ad 0)), some (.int y1), some (.int y2), some (.int y3), some (.int y4), some (.int y5)] [] σ) (y1 : Int32) (y2 : Int32) (y3 : Int32) (y4 : Int32) (y5 : Int32) (σ : HS), f_X11_light_147 k28 y1 y2 y3 y4 y5 σ = some R → AW ids ad ca Γ 147 [some (.ref (ad 0)), some (.int y1), some (.int y2), some (.int y3), some (.int y4), some (.int y5)] [] σ := by
    intro k28 hk28 y1 y2 y3 y4 y5 σ h
    unfold f_X11_light_147 at h
    refine p_iinc C (y := (y5 + 1)) (fun z1 => [some (.ref (ad 0)), some (.int y1), some (.int y2), some (.int y3), some (.int y4), some (.int z1)]) dX11_light_147 rfl rfl (by decide) rfl (fun _ => rfl) h (fun z1 h => ?_)
    refine a_goto C dX11_light_150 (tgt := 28) rfl ?_
    exact hk28 _ _ _ _ _ _ h
  have j135 : ∀ (k28 : Int32 → Int32 → Int32 → Int32 → Int32 → HS → Option (Int32 × HS)) (hk28 : ∀ (y1 : Int32) (y2 : Int32) (y3 : Int32) (y4 : Int32) (y5 : Int32) (σ : HS), k28 y1 y2 y3 y4 y5 σ = some R → AW ids ad ca Γ 28 [some (.ref (ad 0)), some (.int y1), some (.int y2), some (.int y3), some (.int y4), some (.int y5)] [] σ) (y1 : Int32) (y2 : Int32) (y5 : Int32) (σ : HS), f_X11_light_135 k28 y1 y2 y5 σ = some R → AW ids ad ca Γ 135 [some (.ref (ad 0)), some (.int y1), some (.int y2), none, none, some (.int y5)] [] σ := by
    intro k28 hk28 y1 y2 y5 σ h
    unfold f_X11_light_135 at h
    refine a_iload C dX11_light_135 rfl ?_
    refine a_istore_n C dX11_light_137 (i := 3) rfl (by decide) rfl (vs1 := [some (.ref (ad 0)), some (.int y1), some (.int y2), some (.int y5), none, some (.int y5)]) rfl ?_
    refine a_aload_n C dX11_light_138 (i := 0) rfl rfl ?_
    refine a_get C fl_RX11_58 (i := 0) kd_0 (hid 0 (by decide)) (v := .ref (ad 60)) rfl dX11_light_139 ?_
    refine a_get C fl_RX11_177 (i := 60) (show airOK 60 from airOK_of 1 (by decide)).1.1 (hid _ (show airOK 60 from airOK_of 1 (by decide)).1.2) (v := .int (σ.1 60 5)) rfl dX11_light_142 ?_
    refine p_istore C (fun z1 => [some (.ref (ad 0)), some (.int y1), some (.int y2), some (.int y5), some (.int z1), some (.int y5)]) dX11_light_145 (by decide) rfl (fun _ => rfl) h (fun z1 h => ?_)
    exact j147 k28 hk28 _ _ _ _ _ _ h
  have j28 : ∀ (n : Nat) (y1 : Int32) (y2 : Int32) (y3 : Int32) (y4 : Int32) (y5 : Int32) (σ : HS), f_X11_light_28 n y1 y2 y3 y4 y5 σ = some R → AW ids ad ca Γ 28 [some (.ref (ad 0)), some (.int y1), some (.int y2), some (.int y3), some (.int y4), some (.int y5)] [] σ := by
    intro n
    induction n with
    | zero => intro y1 y2 y3 y4 y5 σ h; exact nn h
    | succ n ih =>
      intro y1 y2 y3 y4 y5 σ h
      have h : b_X11_light_28 (f_X11_light_28 n) y1 y2 y3 y4 y5 σ = some R := h
      unfold b_X11_light_28 at h
      refine a_iload C dX11_light_28 rfl ?_
      refine a_aload_n C dX11_light_30 (i := 0) rfl rfl ?_
      refine p_getT C fl_RX11_82 (tx := (σ.2.2 0)) kd_0 (hid 0 (by decide)) (fun t e => by subst e; rfl) dX11_light_31 h (fun ht1 h => ?_)
      refine a_get C fl_RX11_171 (i := ((σ.2.2 0))) ht1.1.1 (hid _ ht1.1.2) (v := .int (σ.1 ((σ.2.2 0)) 4)) rfl dX11_light_34 ?_
      refine p_ic_ge C (X := y5.toInt) (Y := (σ.1 ((σ.2.2 0)) 4).toInt) rfl rfl dX11_light_37 (tgt := 153) rfl h (fun h => ?_) (fun h => ?_)
      ·
        refine a_iload_n C dX11_light_153 (i := 2) rfl rfl ?_
        refine p_if_ne C (X := y2.toInt) rfl dX11_light_154 (tgt := 161) rfl h (fun h => ?_) (fun h => ?_)
        ·
          refine a_iload C dX11_light_161 rfl ?_
          exact a_iret Rt dX11_light_163 rfl (ret_eq (h.trans (congrArg some hR.symm)))
        ·
          refine a_iload_n C dX11_light_157 (i := 3) rfl rfl ?_
          refine a_goto C dX11_light_158 (tgt := 163) rfl ?_
          exact a_iret Rt dX11_light_163 rfl (ret_eq (h.trans (congrArg some hR.symm)))
      ·
        refine a_aload_n C dX11_light_40 (i := 0) rfl rfl ?_
        refine p_getT C fl_RX11_82 (tx := (σ.2.2 0)) kd_0 (hid 0 (by decide)) (fun t e => by subst e; rfl) dX11_light_41 h (fun ht2 h => ?_)
        refine a_get C fl_RX11_149 (i := ((σ.2.2 0))) ht2.1.1 (hid _ ht2.1.2) (v := .ref (ad ((σ.2.2 0) + 4))) rfl dX11_light_44 ?_
        refine a_iload C dX11_light_47 rfl ?_
        refine p_aaldH C (t := ((σ.2.2 0))) ht2 hid dX11_light_49 h (fun hr3 h => ?_)
        refine a_aload_n C dX11_light_50 (i := 0) rfl rfl ?_
        refine p_getT C fl_RX11_82 (tx := (σ.2.2 0)) kd_0 (hid 0 (by decide)) (fun t e => by subst e; rfl) dX11_light_51 h (fun ht4 h => ?_)
        refine a_get C fl_RX11_146 (i := ((σ.2.2 0))) ht4.1.1 (hid _ ht4.1.2) (v := .ref (ad ((σ.2.2 0) + 10))) rfl dX11_light_54 ?_
        refine a_iload C dX11_light_57 rfl ?_
        refine p_iald C (i := ((σ.2.2 0) + 10)) ht4.2.2.2.2.1.1 hid (by rw [ht4.2.2.2.2.1.2]; rfl) dX11_light_59 h (fun h => ?_)
        refine a_iconst C dX11_light_60 (v := 1) rfl ?_
        refine p_callSi C (As := [.ref (ad ((σ.2.2 0) + 5 + y5.toInt.toNat)), .int (σ.1 ((σ.2.2 0) + 10) y5.toInt.toNat), .int 1]) h (fun _ _ e => Z_X11_closingOf hid hr3.1 e) ms_X11_closingOf ml_RX11_233 rfl rfl (Nat.le_of_ble_eq_true rfl) (Nat.le_of_ble_eq_true rfl) (Nat.le_of_ble_eq_true rfl) dX11_light_61 (fun r6 σ5 h => ?_)
        refine a_aload_n C dX11_light_64 (i := 0) rfl rfl ?_
        refine a_get C fl_RX11_54 (i := 0) kd_0 (hid 0 (by decide)) (v := .ref (ad 56)) rfl dX11_light_65 ?_
        refine p_callVi C (As := []) (i := 56) (show airOK 56 from airOK_of 0 (by decide)).1.1 (hid _ (show airOK 56 from airOK_of 0 (by decide)).1.2) ⟨_, _, rfl⟩ (by decide) h (fun _ _ e => Z_X0_howManyUp hid (show airOK 56 from airOK_of 0 (by decide)) e) mi_X0_howManyUp ml_RX11_156 rfl rfl (Nat.le_of_ble_eq_true rfl) (Nat.le_of_ble_eq_true rfl) (Nat.le_of_ble_eq_true rfl) dX11_light_68 (fun r8 σ7 h => ?_)
        refine p_ic_ne C (X := r6.toInt) (Y := r8.toInt) rfl rfl dX11_light_71 (tgt := 147) rfl h (fun h => ?_) (fun h => ?_)
        ·
          exact j147 (f_X11_light_28 n) (fun y1 y2 y3 y4 y5 σ h => ih y1 y2 y3 y4 y5 σ h) _ _ _ _ _ _ h
        ·
          refine a_aload_n C dX11_light_74 (i := 0) rfl rfl ?_
          refine a_get C fl_RX11_58 (i := 0) kd_0 (hid 0 (by decide)) (v := .ref (ad 60)) rfl dX11_light_75 ?_
          refine a_aload_n C dX11_light_78 (i := 0) rfl rfl ?_
          refine a_get C fl_RX11_54 (i := 0) kd_0 (hid 0 (by decide)) (v := .ref (ad 56)) rfl dX11_light_79 ?_
          refine p_callVv C (As := [.ref (ad 56)]) (i := 60) (show airOK 60 from airOK_of 1 (by decide)).1.1 (hid _ (show airOK 60 from airOK_of 1 (by decide)).1.2) ⟨_, _, rfl⟩ (by decide) h (fun _ e => Z_X0_copy hid (show airOK 60 from airOK_of 1 (by decide)) (show airOK 56 from airOK_of 0 (by decide)) e) mi_X0_copy ml_RX11_230 rfl rfl (Nat.le_of_ble_eq_true rfl) (Nat.le_of_ble_eq_true rfl) (Nat.le_of_ble_eq_true rfl) dX11_light_82 (fun σ9 h => ?_)
          refine a_aload_n C dX11_light_85 (i := 0) rfl rfl ?_
          refine a_get C fl_RX11_58 (i := 0) kd_0 (hid 0 (by decide)) (v := .ref (ad 60)) rfl dX11_light_86 ?_
          refine a_iload C dX11_light_89 rfl ?_
          refine p_callVv C (As := [.int y5]) (i := 60) (show airOK 60 from airOK_of 1 (by decide)).1.1 (hid _ (show airOK 60 from airOK_of 1 (by decide)).1.2) ⟨_, _, rfl⟩ (by decide) h (fun _ e => Z_X0_takeUp hid (show airOK 60 from airOK_of 1 (by decide)) e) mi_X0_takeUp ml_RX11_214 rfl rfl (Nat.le_of_ble_eq_true rfl) (Nat.le_of_ble_eq_true rfl) (Nat.le_of_ble_eq_true rfl) dX11_light_91 (fun σ11 h => ?_)
          refine a_aload_n C dX11_light_94 (i := 0) rfl rfl ?_
          refine a_get C fl_RX11_19 (i := 0) kd_0 (hid 0 (by decide)) (v := .ref (ad 8)) rfl dX11_light_95 ?_
          refine a_aload_n C dX11_light_98 (i := 0) rfl rfl ?_
          refine p_getT C fl_RX11_82 (tx := (σ11.2.2 0)) kd_0 (hid 0 (by decide)) (fun t e => by subst e; rfl) dX11_light_99 h (fun ht13 h => ?_)
          refine a_aload_n C dX11_light_102 (i := 0) rfl rfl ?_
          refine a_get C fl_RX11_58 (i := 0) kd_0 (hid 0 (by decide)) (v := .ref (ad 60)) rfl dX11_light_103 ?_
          refine a_iload_n C dX11_light_106 (i := 1) rfl rfl ?_
          refine a_aload_n C dX11_light_107 (i := 0) rfl rfl ?_
          refine p_getT C fl_RX11_82 (tx := (σ11.2.2 0)) kd_0 (hid 0 (by decide)) (fun t e => by subst e; rfl) dX11_light_108 h (fun ht14 h => ?_)
          refine a_get C fl_RX11_220 (i := ((σ11.2.2 0))) ht14.1.1 (hid _ ht14.1.2) (v := .int (σ11.1 ((σ11.2.2 0)) 11)) rfl dX11_light_111 ?_
          refine p_callVv C (As := [.ref (ad ((σ11.2.2 0))), .ref (ad 60), .int y1, .int (σ11.1 ((σ11.2.2 0)) 11)]) (i := 8) kd_8 (hid 8 (by decide)) ⟨_, _, rfl⟩ (by decide) h (fun _ e => Z_X4_goOn hid ht13 (show airOK 60 from airOK_of 1 (by decide)) e) mi_X4_goOn ml_RX11_223 rfl rfl (Nat.le_of_ble_eq_true rfl) (Nat.le_of_ble_eq_true rfl) (Nat.le_of_ble_eq_true rfl) dX11_light_114 (fun σ15 h => ?_)
          refine a_iload_n C dX11_light_117 (i := 3) rfl rfl ?_
          refine a_bipush C dX11_light_118 (v := (-2)) rfl ?_
          refine p_ic_eq C (X := y3.toInt) (Y := (-2)) rfl (by decide) dX11_light_120 (tgt := 135) rfl h (fun h => ?_) (fun h => ?_)
          ·
            refine AW.sub (vs' := [some (.ref (ad 0)), some (.int y1), some (.int y2), none, none, some (.int y5)]) (lsub_of (by simp [lsubB])) ?_
            exact j135 (f_X11_light_28 n) (fun y1 y2 y3 y4 y5 σ h => ih y1 y2 y3 y4 y5 σ h) _ _ _ _ h
          ·
            refine a_aload_n C dX11_light_123 (i := 0) rfl rfl ?_
            refine a_get C fl_RX11_58 (i := 0) kd_0 (hid 0 (by decide)) (v := .ref (ad 60)) rfl dX11_light_124 ?_
            refine a_get C fl_RX11_177 (i := 60) (show airOK 60 from airOK_of 1 (by decide)).1.1 (hid _ (show airOK 60 from airOK_of 1 (by decide)).1.2) (v := .int (σ15.1 60 5)) rfl dX11_light_127 ?_
            refine a_iload C dX11_light_130 rfl ?_
            refine p_ic_ge C (X := (σ15.1 60 5).toInt) (Y := y4.toInt) rfl rfl dX11_light_132 (tgt := 147) rfl h (fun h => ?_) (fun h => ?_)
            ·
              exact j147 (f_X11_light_28 n) (fun y1 y2 y3 y4 y5 σ h => ih y1 y2 y3 y4 y5 σ h) _ _ _ _ _ _ h
            ·
              refine AW.sub (vs' := [some (.ref (ad 0)), some (.int y1), some (.int y2), none, none, some (.int y5)]) (lsub_of (by simp [lsubB])) ?_
              exact j135 (f_X11_light_28 n) (fun y1 y2 y3 y4 y5 σ h => ih y1 y2 y3 y4 y5 σ h) _ _ _ _ h
  refine a_iload_n C dX11_light_0 (i := 1) rfl rfl ?_
  refine p_callSi C (As := [.int x1]) h (fun _ _ e => Z_X11_isSpan hid e) ms_X11_isSpan ml_RX11_307 rfl rfl (Nat.le_of_ble_eq_true rfl) (Nat.le_of_ble_eq_true rfl) (Nat.le_of_ble_eq_true rfl) dX11_light_1 (fun r2 σ1 h => ?_)
  refine p_if_eq C (X := r2.toInt) rfl dX11_light_4 (tgt := 16) rfl h (fun h => ?_) (fun h => ?_)
  ·
    refine a_iconst C dX11_light_16 (v := (-1)) rfl ?_
    exact a_iret Rt dX11_light_17 rfl (ret_eq (h.trans (congrArg some hR.symm)))
  ·
    refine a_iload_n C dX11_light_7 (i := 2) rfl rfl ?_
    refine p_if_lt C (X := x2.toInt) rfl dX11_light_8 (tgt := 16) rfl h (fun h => ?_) (fun h => ?_)
    ·
      refine a_iconst C dX11_light_16 (v := (-1)) rfl ?_
      exact a_iret Rt dX11_light_17 rfl (ret_eq (h.trans (congrArg some hR.symm)))
    ·
      refine a_iload_n C dX11_light_11 (i := 2) rfl rfl ?_
      refine a_iconst C dX11_light_12 (v := 1) rfl ?_
      refine p_ic_le C (X := x2.toInt) (Y := 1) rfl (by decide) dX11_light_13 (tgt := 18) rfl h (fun h => ?_) (fun h => ?_)
      ·
        refine a_bipush C dX11_light_18 (v := (-2)) rfl ?_
        refine a_istore_n C dX11_light_20 (i := 3) rfl (by decide) rfl (vs1 := [some (.ref (ad 0)), some (.int x1), some (.int x2), some (.int (-2)), none, none]) rfl ?_
        refine a_bipush C dX11_light_21 (v := (-2)) rfl ?_
        refine a_istore C dX11_light_23 (by decide) rfl (vs1 := [some (.ref (ad 0)), some (.int x1), some (.int x2), some (.int (-2)), some (.int (-2)), none]) rfl ?_
        refine a_iconst C dX11_light_25 (v := 0) rfl ?_
        refine a_istore C dX11_light_26 (by decide) rfl (vs1 := [some (.ref (ad 0)), some (.int x1), some (.int x2), some (.int (-2)), some (.int (-2)), some (.int 0)]) rfl ?_
        exact j28 _ _ _ _ _ _ _ h
      ·
        refine a_iconst C dX11_light_16 (v := (-1)) rfl ?_
        exact a_iret Rt dX11_light_17 rfl (ret_eq (h.trans (congrArg some hR.symm)))
set_option maxHeartbeats 4000000 in
set_option maxRecDepth 100000 in
theorem Z_X11_then {l : Launch} {D : va_G} {ids : List Nat} {ad : Nat → Nat} {ca : Nat → ClassId} {σ : HS} {x1 : Int32} {x2 : Int32} {r0 : Int32} {s0 : HS} (hid : ∀ i, i < 277 → i ∈ ids) (h : f_X11_then x1 x2 σ = some (r0, s0)) : Ki l D ids ad ca yX11_then cX11_then 3 .int 6 149 [.ref (ad 0), .int x1, .int x2] σ (fun r σ1 => r = r0 ∧ σ1 = s0) := by
  obtain ⟨R, hR⟩ : ∃ R, (r0, s0) = R := ⟨_, rfl⟩
  replace h := h.trans (congrArg some hR)
  refine Ki.of (by decide) (Nat.le_of_ble_eq_true rfl) 0 (fun Γ C Rt => ?_)
  show AW ids ad ca Γ 0 [some (.ref (ad 0)), some (.int x1), some (.int x2)] [] σ
  unfold f_X11_then at h
  refine a_iload_n C dX11_then_0 (i := 1) rfl rfl ?_
  refine p_if_lt C (X := x1.toInt) rfl dX11_then_1 (tgt := 19) rfl h (fun h => ?_) (fun h => ?_)
  ·
    refine a_iconst C dX11_then_19 (v := (-1)) rfl ?_
    exact a_iret Rt dX11_then_20 rfl (ret_eq (h.trans (congrArg some hR.symm)))
  ·
    refine a_iload_n C dX11_then_4 (i := 1) rfl rfl ?_
    refine a_bipush C dX11_then_5 (v := 60) rfl ?_
    refine p_ic_gt C (X := x1.toInt) (Y := 60) rfl (by decide) dX11_then_7 (tgt := 19) rfl h (fun h => ?_) (fun h => ?_)
    ·
      refine a_iconst C dX11_then_19 (v := (-1)) rfl ?_
      exact a_iret Rt dX11_then_20 rfl (ret_eq (h.trans (congrArg some hR.symm)))
    ·
      refine a_iload_n C dX11_then_10 (i := 2) rfl rfl ?_
      refine p_if_lt C (X := x2.toInt) rfl dX11_then_11 (tgt := 19) rfl h (fun h => ?_) (fun h => ?_)
      ·
        refine a_iconst C dX11_then_19 (v := (-1)) rfl ?_
        exact a_iret Rt dX11_then_20 rfl (ret_eq (h.trans (congrArg some hR.symm)))
      ·
        refine a_iload_n C dX11_then_14 (i := 2) rfl rfl ?_
        refine a_iconst C dX11_then_15 (v := 3) rfl ?_
        refine p_ic_le C (X := x2.toInt) (Y := 3) rfl (by decide) dX11_then_16 (tgt := 21) rfl h (fun h => ?_) (fun h => ?_)
        ·
          refine a_aload_n C dX11_then_21 (i := 0) rfl rfl ?_
          refine a_get C fl_RX11_58 (i := 0) kd_0 (hid 0 (by decide)) (v := .ref (ad 60)) rfl dX11_then_22 ?_
          refine a_aload_n C dX11_then_25 (i := 0) rfl rfl ?_
          refine a_get C fl_RX11_54 (i := 0) kd_0 (hid 0 (by decide)) (v := .ref (ad 56)) rfl dX11_then_26 ?_
          refine p_callVv C (As := [.ref (ad 56)]) (i := 60) (show airOK 60 from airOK_of 1 (by decide)).1.1 (hid _ (show airOK 60 from airOK_of 1 (by decide)).1.2) ⟨_, _, rfl⟩ (by decide) h (fun _ e => Z_X0_copy hid (show airOK 60 from airOK_of 1 (by decide)) (show airOK 56 from airOK_of 0 (by decide)) e) mi_X0_copy ml_RX11_230 rfl rfl (Nat.le_of_ble_eq_true rfl) (Nat.le_of_ble_eq_true rfl) (Nat.le_of_ble_eq_true rfl) dX11_then_29 (fun σ1 h => ?_)
          refine a_aload_n C dX11_then_32 (i := 0) rfl rfl ?_
          refine a_get C fl_RX11_19 (i := 0) kd_0 (hid 0 (by decide)) (v := .ref (ad 8)) rfl dX11_then_33 ?_
          refine a_aload_n C dX11_then_36 (i := 0) rfl rfl ?_
          refine p_getT C fl_RX11_82 (tx := (σ1.2.2 0)) kd_0 (hid 0 (by decide)) (fun t e => by subst e; rfl) dX11_then_37 h (fun ht3 h => ?_)
          refine a_aload_n C dX11_then_40 (i := 0) rfl rfl ?_
          refine a_get C fl_RX11_58 (i := 0) kd_0 (hid 0 (by decide)) (v := .ref (ad 60)) rfl dX11_then_41 ?_
          refine a_iload_n C dX11_then_44 (i := 1) rfl rfl ?_
          refine a_aload_n C dX11_then_45 (i := 0) rfl rfl ?_
          refine p_getT C fl_RX11_82 (tx := (σ1.2.2 0)) kd_0 (hid 0 (by decide)) (fun t e => by subst e; rfl) dX11_then_46 h (fun ht4 h => ?_)
          refine a_get C fl_RX11_220 (i := ((σ1.2.2 0))) ht4.1.1 (hid _ ht4.1.2) (v := .int (σ1.1 ((σ1.2.2 0)) 11)) rfl dX11_then_49 ?_
          refine p_callVv C (As := [.ref (ad ((σ1.2.2 0))), .ref (ad 60), .int x1, .int (σ1.1 ((σ1.2.2 0)) 11)]) (i := 8) kd_8 (hid 8 (by decide)) ⟨_, _, rfl⟩ (by decide) h (fun _ e => Z_X4_goOn hid ht3 (show airOK 60 from airOK_of 1 (by decide)) e) mi_X4_goOn ml_RX11_223 rfl rfl (Nat.le_of_ble_eq_true rfl) (Nat.le_of_ble_eq_true rfl) (Nat.le_of_ble_eq_true rfl) dX11_then_52 (fun σ5 h => ?_)
          refine a_iload_n C dX11_then_55 (i := 2) rfl rfl ?_
          refine ite_k h (fun c1 h => ?_) (fun c1 h => ?_)
          ·
            refine a_tableIn C dX11_then_56 (by omega) (by omega) (by rw [c1]; rfl) (tgt := 84) rfl ?_
            refine a_aload_n C dX11_then_84 (i := 0) rfl rfl ?_
            refine a_get C fl_RX11_58 (i := 0) kd_0 (hid 0 (by decide)) (v := .ref (ad 60)) rfl dX11_then_85 ?_
            refine a_get C fl_RX11_177 (i := 60) (show airOK 60 from airOK_of 1 (by decide)).1.1 (hid _ (show airOK 60 from airOK_of 1 (by decide)).1.2) (v := .int (σ5.1 60 5)) rfl dX11_then_88 ?_
            exact a_iret Rt dX11_then_91 rfl (ret_eq (h.trans (congrArg some hR.symm)))
          ·
            refine ite_k h (fun c2 h => ?_) (fun c2 h => ?_)
            ·
              refine a_tableIn C dX11_then_56 (by omega) (by omega) (by rw [c2]; rfl) (tgt := 92) rfl ?_
              refine a_aload_n C dX11_then_92 (i := 0) rfl rfl ?_
              refine a_get C fl_RX11_58 (i := 0) kd_0 (hid 0 (by decide)) (v := .ref (ad 60)) rfl dX11_then_93 ?_
              refine p_callVi C (As := []) (i := 60) (show airOK 60 from airOK_of 1 (by decide)).1.1 (hid _ (show airOK 60 from airOK_of 1 (by decide)).1.2) ⟨_, _, rfl⟩ (by decide) h (fun _ _ e => Z_X0_howManyUp hid (show airOK 60 from airOK_of 1 (by decide)) e) mi_X0_howManyUp ml_RX11_156 rfl rfl (Nat.le_of_ble_eq_true rfl) (Nat.le_of_ble_eq_true rfl) (Nat.le_of_ble_eq_true rfl) dX11_then_96 (fun r8 σ7 h => ?_)
              exact a_iret Rt dX11_then_99 rfl (ret_eq (h.trans (congrArg some hR.symm)))
            ·
              refine ite_k h (fun c3 h => ?_) (fun c3 h => ?_)
              ·
                refine a_tableIn C dX11_then_56 (by omega) (by omega) (by rw [c3]; rfl) (tgt := 100) rfl ?_
                refine a_aload_n C dX11_then_100 (i := 0) rfl rfl ?_
                refine a_get C fl_RX11_58 (i := 0) kd_0 (hid 0 (by decide)) (v := .ref (ad 60)) rfl dX11_then_101 ?_
                refine a_get C fl_RX11_184 (i := 60) (show airOK 60 from airOK_of 1 (by decide)).1.1 (hid _ (show airOK 60 from airOK_of 1 (by decide)).1.2) (v := .int (σ5.1 60 6)) rfl dX11_then_104 ?_
                refine a_aload_n C dX11_then_107 (i := 0) rfl rfl ?_
                refine a_get C fl_RX11_54 (i := 0) kd_0 (hid 0 (by decide)) (v := .ref (ad 56)) rfl dX11_then_108 ?_
                refine a_get C fl_RX11_184 (i := 56) (show airOK 56 from airOK_of 0 (by decide)).1.1 (hid _ (show airOK 56 from airOK_of 0 (by decide)).1.2) (v := .int (σ5.1 56 6)) rfl dX11_then_111 ?_
                refine a_isub C dX11_then_114 ?_
                exact a_iret Rt dX11_then_115 rfl (ret_eq (h.trans (congrArg some hR.symm)))
              ·
                refine a_tableOut C dX11_then_56 (by omega) (tgt := 116) rfl ?_
                refine a_aload_n C dX11_then_116 (i := 0) rfl rfl ?_
                refine a_get C fl_RX11_58 (i := 0) kd_0 (hid 0 (by decide)) (v := .ref (ad 60)) rfl dX11_then_117 ?_
                refine a_get C fl_RX11_190 (i := 60) (show airOK 60 from airOK_of 1 (by decide)).1.1 (hid _ (show airOK 60 from airOK_of 1 (by decide)).1.2) (v := .int (σ5.1 60 8)) rfl dX11_then_120 ?_
                refine a_aload_n C dX11_then_123 (i := 0) rfl rfl ?_
                refine a_get C fl_RX11_54 (i := 0) kd_0 (hid 0 (by decide)) (v := .ref (ad 56)) rfl dX11_then_124 ?_
                refine a_get C fl_RX11_190 (i := 56) (show airOK 56 from airOK_of 0 (by decide)).1.1 (hid _ (show airOK 56 from airOK_of 0 (by decide)).1.2) (v := .int (σ5.1 56 8)) rfl dX11_then_127 ?_
                refine a_isub C dX11_then_130 ?_
                exact a_iret Rt dX11_then_131 rfl (ret_eq (h.trans (congrArg some hR.symm)))
        ·
          refine a_iconst C dX11_then_19 (v := (-1)) rfl ?_
          exact a_iret Rt dX11_then_20 rfl (ret_eq (h.trans (congrArg some hR.symm)))
set_option maxHeartbeats 4000000 in
set_option maxRecDepth 100000 in
theorem Z_X11_year {l : Launch} {D : va_G} {ids : List Nat} {ad : Nat → Nat} {ca : Nat → ClassId} {σ : HS} {x1 : Int32} {x2 : Int32} {r0 : Int32} {s0 : HS} (hid : ∀ i, i < 277 → i ∈ ids) (h : f_X11_year x1 x2 σ = some (r0, s0)) : Ki l D ids ad ca yX11_year cX11_year 5 .int 6 149 [.ref (ad 0), .int x1, .int x2] σ (fun r σ1 => r = r0 ∧ σ1 = s0) := by
  obtain ⟨R, hR⟩ : ∃ R, (r0, s0) = R := ⟨_, rfl⟩
  replace h := h.trans (congrArg some hR)
  refine Ki.of (by decide) (Nat.le_of_ble_eq_true rfl) 2 (fun Γ C Rt => ?_)
  show AW ids ad ca Γ 0 [some (.ref (ad 0)), some (.int x1), some (.int x2), none, none] [] σ
  unfold f_X11_year at h
  have j91 : ∀ (k28 : Int32 → Int32 → Int32 → Int32 → HS → Option (Int32 × HS)) (hk28 : ∀ (y1 : Int32) (y2 : Int32) (y3 : Int32) (y4 : Int32) (σ : HS), k28 y1 y2 y3 y4 σ = some R → AW ids ad ca Γ 28 [some (.ref (ad 0)), some (.int y1), some (.int y2), some (.int y3), some (.int y4)] [] σ) (y1 : Int32) (y2 : Int32) (y3 : Int32) (y4 : Int32) (σ : HS), f_X11_year_91 k28 y1 y2 y3 y4 σ = some R → AW ids ad ca Γ 91 [some (.ref (ad 0)), some (.int y1), some (.int y2), some (.int y3), some (.int y4)] [] σ := by
    intro k28 hk28 y1 y2 y3 y4 σ h
    unfold f_X11_year_91 at h
    refine p_iinc C (y := (y4 + 1)) (fun z1 => [some (.ref (ad 0)), some (.int y1), some (.int y2), some (.int y3), some (.int z1)]) dX11_year_91 rfl rfl (by decide) rfl (fun _ => rfl) h (fun z1 h => ?_)
    refine a_goto C dX11_year_94 (tgt := 28) rfl ?_
    exact hk28 _ _ _ _ _ h
  have j28 : ∀ (n : Nat) (y1 : Int32) (y2 : Int32) (y3 : Int32) (y4 : Int32) (σ : HS), f_X11_year_28 n y1 y2 y3 y4 σ = some R → AW ids ad ca Γ 28 [some (.ref (ad 0)), some (.int y1), some (.int y2), some (.int y3), some (.int y4)] [] σ := by
    intro n
    induction n with
    | zero => intro y1 y2 y3 y4 σ h; exact nn h
    | succ n ih =>
      intro y1 y2 y3 y4 σ h
      have h : b_X11_year_28 (f_X11_year_28 n) y1 y2 y3 y4 σ = some R := h
      unfold b_X11_year_28 at h
      refine a_iload C dX11_year_28 rfl ?_
      refine a_iload_n C dX11_year_30 (i := 2) rfl rfl ?_
      refine p_ic_ge C (X := y4.toInt) (Y := y2.toInt) rfl rfl dX11_year_31 (tgt := 97) rfl h (fun h => ?_) (fun h => ?_)
      ·
        refine a_iload_n C dX11_year_97 (i := 3) rfl rfl ?_
        exact a_iret Rt dX11_year_98 rfl (ret_eq (h.trans (congrArg some hR.symm)))
      ·
        refine a_aload_n C dX11_year_34 (i := 0) rfl rfl ?_
        refine a_get C fl_RX11_58 (i := 0) kd_0 (hid 0 (by decide)) (v := .ref (ad 60)) rfl dX11_year_35 ?_
        refine a_aload_n C dX11_year_38 (i := 0) rfl rfl ?_
        refine a_get C fl_RX11_54 (i := 0) kd_0 (hid 0 (by decide)) (v := .ref (ad 56)) rfl dX11_year_39 ?_
        refine p_callVv C (As := [.ref (ad 56)]) (i := 60) (show airOK 60 from airOK_of 1 (by decide)).1.1 (hid _ (show airOK 60 from airOK_of 1 (by decide)).1.2) ⟨_, _, rfl⟩ (by decide) h (fun _ e => Z_X0_copy hid (show airOK 60 from airOK_of 1 (by decide)) (show airOK 56 from airOK_of 0 (by decide)) e) mi_X0_copy ml_RX11_230 rfl rfl (Nat.le_of_ble_eq_true rfl) (Nat.le_of_ble_eq_true rfl) (Nat.le_of_ble_eq_true rfl) dX11_year_42 (fun σ1 h => ?_)
        refine a_aload_n C dX11_year_45 (i := 0) rfl rfl ?_
        refine a_get C fl_RX11_19 (i := 0) kd_0 (hid 0 (by decide)) (v := .ref (ad 8)) rfl dX11_year_46 ?_
        refine a_aload_n C dX11_year_49 (i := 0) rfl rfl ?_
        refine p_getT C fl_RX11_82 (tx := (σ1.2.2 0)) kd_0 (hid 0 (by decide)) (fun t e => by subst e; rfl) dX11_year_50 h (fun ht3 h => ?_)
        refine a_aload_n C dX11_year_53 (i := 0) rfl rfl ?_
        refine a_get C fl_RX11_58 (i := 0) kd_0 (hid 0 (by decide)) (v := .ref (ad 60)) rfl dX11_year_54 ?_
        refine a_iload_n C dX11_year_57 (i := 1) rfl rfl ?_
        refine a_aload_n C dX11_year_58 (i := 0) rfl rfl ?_
        refine p_getT C fl_RX11_82 (tx := (σ1.2.2 0)) kd_0 (hid 0 (by decide)) (fun t e => by subst e; rfl) dX11_year_59 h (fun ht4 h => ?_)
        refine a_get C fl_RX11_220 (i := ((σ1.2.2 0))) ht4.1.1 (hid _ ht4.1.2) (v := .int (σ1.1 ((σ1.2.2 0)) 11)) rfl dX11_year_62 ?_
        refine a_iload C dX11_year_65 rfl ?_
        refine a_iadd C dX11_year_67 ?_
        refine p_callVv C (As := [.ref (ad ((σ1.2.2 0))), .ref (ad 60), .int y1, .int ((σ1.1 ((σ1.2.2 0)) 11) + y4)]) (i := 8) kd_8 (hid 8 (by decide)) ⟨_, _, rfl⟩ (by decide) h (fun _ e => Z_X4_goOn hid ht3 (show airOK 60 from airOK_of 1 (by decide)) e) mi_X4_goOn ml_RX11_223 rfl rfl (Nat.le_of_ble_eq_true rfl) (Nat.le_of_ble_eq_true rfl) (Nat.le_of_ble_eq_true rfl) dX11_year_68 (fun σ5 h => ?_)
        refine a_aload_n C dX11_year_71 (i := 0) rfl rfl ?_
        refine a_get C fl_RX11_58 (i := 0) kd_0 (hid 0 (by decide)) (v := .ref (ad 60)) rfl dX11_year_72 ?_
        refine a_get C fl_RX11_184 (i := 60) (show airOK 60 from airOK_of 1 (by decide)).1.1 (hid _ (show airOK 60 from airOK_of 1 (by decide)).1.2) (v := .int (σ5.1 60 6)) rfl dX11_year_75 ?_
        refine a_aload_n C dX11_year_78 (i := 0) rfl rfl ?_
        refine a_get C fl_RX11_54 (i := 0) kd_0 (hid 0 (by decide)) (v := .ref (ad 56)) rfl dX11_year_79 ?_
        refine a_get C fl_RX11_184 (i := 56) (show airOK 56 from airOK_of 0 (by decide)).1.1 (hid _ (show airOK 56 from airOK_of 0 (by decide)).1.2) (v := .int (σ5.1 56 6)) rfl dX11_year_82 ?_
        refine p_ic_ne C (X := (σ5.1 60 6).toInt) (Y := (σ5.1 56 6).toInt) rfl rfl dX11_year_85 (tgt := 91) rfl h (fun h => ?_) (fun h => ?_)
        ·
          exact j91 (f_X11_year_28 n) (fun y1 y2 y3 y4 σ h => ih y1 y2 y3 y4 σ h) _ _ _ _ _ h
        ·
          refine p_iinc C (y := (y3 + 1)) (fun z7 => [some (.ref (ad 0)), some (.int y1), some (.int y2), some (.int z7), some (.int y4)]) dX11_year_88 rfl rfl (by decide) rfl (fun _ => rfl) h (fun z7 h => ?_)
          exact j91 (f_X11_year_28 n) (fun y1 y2 y3 y4 σ h => ih y1 y2 y3 y4 σ h) _ _ _ _ _ h
  refine a_iload_n C dX11_year_0 (i := 1) rfl rfl ?_
  refine p_if_lt C (X := x1.toInt) rfl dX11_year_1 (tgt := 21) rfl h (fun h => ?_) (fun h => ?_)
  ·
    refine a_iconst C dX11_year_21 (v := (-1)) rfl ?_
    exact a_iret Rt dX11_year_22 rfl (ret_eq (h.trans (congrArg some hR.symm)))
  ·
    refine a_iload_n C dX11_year_4 (i := 1) rfl rfl ?_
    refine a_bipush C dX11_year_5 (v := 60) rfl ?_
    refine p_ic_gt C (X := x1.toInt) (Y := 60) rfl (by decide) dX11_year_7 (tgt := 21) rfl h (fun h => ?_) (fun h => ?_)
    ·
      refine a_iconst C dX11_year_21 (v := (-1)) rfl ?_
      exact a_iret Rt dX11_year_22 rfl (ret_eq (h.trans (congrArg some hR.symm)))
    ·
      refine a_iload_n C dX11_year_10 (i := 2) rfl rfl ?_
      refine a_iconst C dX11_year_11 (v := 1) rfl ?_
      refine p_ic_lt C (X := x2.toInt) (Y := 1) rfl (by decide) dX11_year_12 (tgt := 21) rfl h (fun h => ?_) (fun h => ?_)
      ·
        refine a_iconst C dX11_year_21 (v := (-1)) rfl ?_
        exact a_iret Rt dX11_year_22 rfl (ret_eq (h.trans (congrArg some hR.symm)))
      ·
        refine a_iload_n C dX11_year_15 (i := 2) rfl rfl ?_
        refine a_bipush C dX11_year_16 (v := 20) rfl ?_
        refine p_ic_le C (X := x2.toInt) (Y := 20) rfl (by decide) dX11_year_18 (tgt := 23) rfl h (fun h => ?_) (fun h => ?_)
        ·
          refine a_iconst C dX11_year_23 (v := 0) rfl ?_
          refine a_istore_n C dX11_year_24 (i := 3) rfl (by decide) rfl (vs1 := [some (.ref (ad 0)), some (.int x1), some (.int x2), some (.int 0), none]) rfl ?_
          refine a_iconst C dX11_year_25 (v := 0) rfl ?_
          refine a_istore C dX11_year_26 (by decide) rfl (vs1 := [some (.ref (ad 0)), some (.int x1), some (.int x2), some (.int 0), some (.int 0)]) rfl ?_
          exact j28 _ _ _ _ _ _ h
        ·
          refine a_iconst C dX11_year_21 (v := (-1)) rfl ?_
          exact a_iret Rt dX11_year_22 rfl (ret_eq (h.trans (congrArg some hR.symm)))
set_option maxHeartbeats 4000000 in
set_option maxRecDepth 100000 in
theorem Z_X11_tell {l : Launch} {D : va_G} {ids : List Nat} {ad : Nat → Nat} {ca : Nat → ClassId} {σ : HS} {x1 : Int32} {x2 : Int32} {r0 : Int32} {s0 : HS} (hid : ∀ i, i < 277 → i ∈ ids) (h : f_X11_tell x1 x2 σ = some (r0, s0)) : Ki l D ids ad ca yX11_tell cX11_tell 3 .int 1 22 [.ref (ad 0), .int x1, .int x2] σ (fun r σ1 => r = r0 ∧ σ1 = s0) := by
  obtain ⟨R, hR⟩ : ∃ R, (r0, s0) = R := ⟨_, rfl⟩
  replace h := h.trans (congrArg some hR)
  refine Ki.of (by decide) (Nat.le_of_ble_eq_true rfl) 0 (fun Γ C Rt => ?_)
  show AW ids ad ca Γ 0 [some (.ref (ad 0)), some (.int x1), some (.int x2)] [] σ
  unfold f_X11_tell at h
  refine a_iload_n C dX11_tell_0 (i := 1) rfl rfl ?_
  refine p_if_lt C (X := x1.toInt) rfl dX11_tell_1 (tgt := 10) rfl h (fun h => ?_) (fun h => ?_)
  ·
    refine a_iconst C dX11_tell_10 (v := (-1)) rfl ?_
    exact a_iret Rt dX11_tell_11 rfl (ret_eq (h.trans (congrArg some hR.symm)))
  ·
    refine a_iload_n C dX11_tell_4 (i := 1) rfl rfl ?_
    refine a_bipush C dX11_tell_5 (v := 40) rfl ?_
    refine p_ic_le C (X := x1.toInt) (Y := 40) rfl (by decide) dX11_tell_7 (tgt := 12) rfl h (fun h => ?_) (fun h => ?_)
    ·
      refine a_aload_n C dX11_tell_12 (i := 0) rfl rfl ?_
      refine a_get C fl_RX11_33 (i := 0) kd_0 (hid 0 (by decide)) (v := .ref (ad 14)) rfl dX11_tell_13 ?_
      refine a_iload_n C dX11_tell_16 (i := 1) rfl rfl ?_
      refine a_iload_n C dX11_tell_17 (i := 2) rfl rfl ?_
      refine p_callVi C (As := [.int x1, .int x2]) (i := 14) kd_14 (hid 14 (by decide)) ⟨_, _, rfl⟩ (by decide) h (fun _ _ e => Z_X2_add hid e) mi_X2_add ml_RX11_322 rfl rfl (Nat.le_of_ble_eq_true rfl) (Nat.le_of_ble_eq_true rfl) (Nat.le_of_ble_eq_true rfl) dX11_tell_18 (fun r2 σ1 h => ?_)
      exact a_iret Rt dX11_tell_21 rfl (ret_eq (h.trans (congrArg some hR.symm)))
    ·
      refine a_iconst C dX11_tell_10 (v := (-1)) rfl ?_
      exact a_iret Rt dX11_tell_11 rfl (ret_eq (h.trans (congrArg some hR.symm)))
set_option maxHeartbeats 4000000 in
set_option maxRecDepth 100000 in
theorem Z_X11_forget {l : Launch} {D : va_G} {ids : List Nat} {ad : Nat → Nat} {ca : Nat → ClassId} {σ : HS} {r0 : Int32} {s0 : HS} (hid : ∀ i, i < 277 → i ∈ ids) (h : f_X11_forget σ = some (r0, s0)) : Ki l D ids ad ca yX11_forget cX11_forget 2 .int 0 0 [.ref (ad 0)] σ (fun r σ1 => r = r0 ∧ σ1 = s0) := by
  obtain ⟨R, hR⟩ : ∃ R, (r0, s0) = R := ⟨_, rfl⟩
  replace h := h.trans (congrArg some hR)
  refine Ki.of (by decide) (Nat.le_of_ble_eq_true rfl) 1 (fun Γ C Rt => ?_)
  show AW ids ad ca Γ 0 [some (.ref (ad 0)), none] [] σ
  unfold f_X11_forget at h
  refine a_aload_n C dX11_forget_0 (i := 0) rfl rfl ?_
  refine a_get C fl_RX11_33 (i := 0) kd_0 (hid 0 (by decide)) (v := .ref (ad 14)) rfl dX11_forget_1 ?_
  refine a_get C fl_RX11_117 (i := 14) kd_14 (hid 14 (by decide)) (v := .int (σ.1 14 2)) rfl dX11_forget_4 ?_
  refine p_istore_n C (fun z1 => [some (.ref (ad 0)), some (.int z1)]) dX11_forget_7 (i := 1) rfl (by decide) rfl (fun _ => rfl) h (fun z1 h => ?_)
  refine a_aload_n C dX11_forget_8 (i := 0) rfl rfl ?_
  refine a_get C fl_RX11_33 (i := 0) kd_0 (hid 0 (by decide)) (v := .ref (ad 14)) rfl dX11_forget_9 ?_
  refine a_iconst C dX11_forget_12 (v := 0) rfl ?_
  refine p_put C fp_RX11_117 (i := 14) kd_14 (hid 14 (by decide)) rfl rfl dX11_forget_13 h (fun σ2 h => ?_)
  refine a_iload_n C dX11_forget_16 (i := 1) rfl rfl ?_
  exact a_iret Rt dX11_forget_17 rfl (ret_eq (h.trans (congrArg some hR.symm)))
set_option maxHeartbeats 4000000 in
set_option maxRecDepth 100000 in
theorem Z_X11_glitters {l : Launch} {D : va_G} {ids : List Nat} {ad : Nat → Nat} {ca : Nat → ClassId} {σ : HS} {x1 : Int32} {x2 : Int32} {r0 : Int32} {s0 : HS} (hid : ∀ i, i < 277 → i ∈ ids) (h : f_X11_glitters x1 x2 σ = some (r0, s0)) : Ki l D ids ad ca yX11_glitters cX11_glitters 4 .int 7 168 [.ref (ad 0), .int x1, .int x2] σ (fun r σ1 => r = r0 ∧ σ1 = s0) := by
  obtain ⟨R, hR⟩ : ∃ R, (r0, s0) = R := ⟨_, rfl⟩
  replace h := h.trans (congrArg some hR)
  refine Ki.of (by decide) (Nat.le_of_ble_eq_true rfl) 1 (fun Γ C Rt => ?_)
  show AW ids ad ca Γ 0 [some (.ref (ad 0)), some (.int x1), some (.int x2), none] [] σ
  unfold f_X11_glitters at h
  refine a_iload_n C dX11_glitters_0 (i := 1) rfl rfl ?_
  refine p_if_lt C (X := x1.toInt) rfl dX11_glitters_1 (tgt := 24) rfl h (fun h => ?_) (fun h => ?_)
  ·
    refine a_iconst C dX11_glitters_24 (v := (-1)) rfl ?_
    exact a_iret Rt dX11_glitters_25 rfl (ret_eq (h.trans (congrArg some hR.symm)))
  ·
    refine a_iload_n C dX11_glitters_4 (i := 1) rfl rfl ?_
    refine a_aload_n C dX11_glitters_5 (i := 0) rfl rfl ?_
    refine a_get C fl_RX11_33 (i := 0) kd_0 (hid 0 (by decide)) (v := .ref (ad 14)) rfl dX11_glitters_6 ?_
    refine a_get C fl_RX11_117 (i := 14) kd_14 (hid 14 (by decide)) (v := .int (σ.1 14 2)) rfl dX11_glitters_9 ?_
    refine p_ic_gt C (X := x1.toInt) (Y := (σ.1 14 2).toInt) rfl rfl dX11_glitters_12 (tgt := 24) rfl h (fun h => ?_) (fun h => ?_)
    ·
      refine a_iconst C dX11_glitters_24 (v := (-1)) rfl ?_
      exact a_iret Rt dX11_glitters_25 rfl (ret_eq (h.trans (congrArg some hR.symm)))
    ·
      refine a_iload_n C dX11_glitters_15 (i := 2) rfl rfl ?_
      refine p_if_lt C (X := x2.toInt) rfl dX11_glitters_16 (tgt := 24) rfl h (fun h => ?_) (fun h => ?_)
      ·
        refine a_iconst C dX11_glitters_24 (v := (-1)) rfl ?_
        exact a_iret Rt dX11_glitters_25 rfl (ret_eq (h.trans (congrArg some hR.symm)))
      ·
        refine a_iload_n C dX11_glitters_19 (i := 2) rfl rfl ?_
        refine a_iconst C dX11_glitters_20 (v := 1) rfl ?_
        refine p_ic_le C (X := x2.toInt) (Y := 1) rfl (by decide) dX11_glitters_21 (tgt := 26) rfl h (fun h => ?_) (fun h => ?_)
        ·
          refine a_aload_n C dX11_glitters_26 (i := 0) rfl rfl ?_
          refine a_bipush C dX11_glitters_27 (v := 41) rfl ?_
          refine p_callVv C (As := [.int 41]) (i := 0) kd_0 (hid 0 (by decide)) ⟨_, _, rfl⟩ (by decide) h (fun _ e => Z_X11_findHands hid e) mi_X11_findHands ml_RX11_279 rfl rfl (Nat.le_of_ble_eq_true rfl) (Nat.le_of_ble_eq_true rfl) (Nat.le_of_ble_eq_true rfl) dX11_glitters_29 (fun σ1 h => ?_)
          refine a_aload_n C dX11_glitters_32 (i := 0) rfl rfl ?_
          refine a_get C fl_RX11_33 (i := 0) kd_0 (hid 0 (by decide)) (v := .ref (ad 14)) rfl dX11_glitters_33 ?_
          refine a_aload_n C dX11_glitters_36 (i := 0) rfl rfl ?_
          refine a_get C fl_RX11_54 (i := 0) kd_0 (hid 0 (by decide)) (v := .ref (ad 56)) rfl dX11_glitters_37 ?_
          refine a_iconst C dX11_glitters_40 (v := 0) rfl ?_
          refine p_callVi C (As := [.int 0]) (i := 56) (show airOK 56 from airOK_of 0 (by decide)).1.1 (hid _ (show airOK 56 from airOK_of 0 (by decide)).1.2) ⟨_, _, rfl⟩ (by decide) h (fun _ _ e => Z_X0_bitsOf hid (show airOK 56 from airOK_of 0 (by decide)) e) mi_X0_bitsOf ml_RX11_180 rfl rfl (Nat.le_of_ble_eq_true rfl) (Nat.le_of_ble_eq_true rfl) (Nat.le_of_ble_eq_true rfl) dX11_glitters_41 (fun r4 σ3 h => ?_)
          refine a_iload_n C dX11_glitters_44 (i := 1) rfl rfl ?_
          refine a_aload_n C dX11_glitters_45 (i := 0) rfl rfl ?_
          refine a_get C fl_RX11_69 (i := 0) kd_0 (hid 0 (by decide)) (v := .ref (ad 27)) rfl dX11_glitters_46 ?_
          refine p_callVi C (As := [.int r4, .int x1, .ref (ad 27)]) (i := 14) kd_14 (hid 14 (by decide)) ⟨_, _, rfl⟩ (by decide) h (fun _ _ e => Z_X2_agreeing hid (show rowOK 27 from ⟨kd_27, by decide⟩) e) mi_X2_agreeing ml_RX11_326 rfl rfl (Nat.le_of_ble_eq_true rfl) (Nat.le_of_ble_eq_true rfl) (Nat.le_of_ble_eq_true rfl) dX11_glitters_49 (fun r6 σ5 h => ?_)
          refine a_istore_n C dX11_glitters_52 (i := 3) rfl (by decide) rfl (vs1 := [some (.ref (ad 0)), some (.int x1), some (.int x2), some (.int r6)]) rfl ?_
          refine a_iload_n C dX11_glitters_53 (i := 2) rfl rfl ?_
          refine p_if_ne C (X := x2.toInt) rfl dX11_glitters_54 (tgt := 64) rfl h (fun h => ?_) (fun h => ?_)
          ·
            refine a_iload_n C dX11_glitters_64 (i := 3) rfl rfl ?_
            exact a_iret Rt dX11_glitters_65 rfl (ret_eq (h.trans (congrArg some hR.symm)))
          ·
            refine a_iload_n C dX11_glitters_57 (i := 3) rfl rfl ?_
            refine p_callSi C (As := [.int r6]) h (fun _ _ e => Z_J6_bitCount_0f7a4 hid e) ms_J6_bitCount_0f7a4 ml_RX11_330 rfl rfl (Nat.le_of_ble_eq_true rfl) (Nat.le_of_ble_eq_true rfl) (Nat.le_of_ble_eq_true rfl) dX11_glitters_58 (fun r8 σ7 h => ?_)
            refine a_goto C dX11_glitters_61 (tgt := 65) rfl ?_
            exact a_iret Rt dX11_glitters_65 rfl (ret_eq (h.trans (congrArg some hR.symm)))
        ·
          refine a_iconst C dX11_glitters_24 (v := (-1)) rfl ?_
          exact a_iret Rt dX11_glitters_25 rfl (ret_eq (h.trans (congrArg some hR.symm)))
set_option maxHeartbeats 4000000 in
set_option maxRecDepth 100000 in
theorem Z_X11_watch {l : Launch} {D : va_G} {ids : List Nat} {ad : Nat → Nat} {ca : Nat → ClassId} {σ : HS} {x1 : Int32} {r0 : Int32} {s0 : HS} (hid : ∀ i, i < 277 → i ∈ ids) (h : f_X11_watch x1 σ = some (r0, s0)) : Ki l D ids ad ca yX11_watch cX11_watch 8 .int 7 168 [.ref (ad 0), .int x1] σ (fun r σ1 => r = r0 ∧ σ1 = s0) := by
  obtain ⟨R, hR⟩ : ∃ R, (r0, s0) = R := ⟨_, rfl⟩
  replace h := h.trans (congrArg some hR)
  refine Ki.of (by decide) (Nat.le_of_ble_eq_true rfl) 6 (fun Γ C Rt => ?_)
  show AW ids ad ca Γ 0 [some (.ref (ad 0)), some (.int x1), none, none, none, none, none, none] [] σ
  unfold f_X11_watch at h
  have j128 : ∀ (k60 : Int32 → Int32 → Int32 → Int32 → HS → Option (Int32 × HS)) (hk60 : ∀ (y2 : Int32) (y3 : Int32) (y4 : Int32) (y5 : Int32) (σ : HS), k60 y2 y3 y4 y5 σ = some R → AW ids ad ca Γ 60 [some (.ref (ad 0)), none, some (.int y2), some (.int y3), some (.int y4), some (.int y5), none, none] [] σ) (y2 : Int32) (y3 : Int32) (y4 : Int32) (y5 : Int32) (σ : HS), f_X11_watch_128 k60 y2 y3 y4 y5 σ = some R → AW ids ad ca Γ 128 [some (.ref (ad 0)), none, some (.int y2), some (.int y3), some (.int y4), some (.int y5), none, none] [] σ := by
    intro k60 hk60 y2 y3 y4 y5 σ h
    unfold f_X11_watch_128 at h
    refine p_iinc C (y := (y5 + 1)) (fun z1 => [some (.ref (ad 0)), none, some (.int y2), some (.int y3), some (.int y4), some (.int z1), none, none]) dX11_watch_128 rfl rfl (by decide) rfl (fun _ => rfl) h (fun z1 h => ?_)
    refine a_goto C dX11_watch_131 (tgt := 60) rfl ?_
    exact hk60 _ _ _ _ _ h
  have j91 : ∀ (k60 : Int32 → Int32 → Int32 → Int32 → HS → Option (Int32 × HS)) (hk60 : ∀ (y2 : Int32) (y3 : Int32) (y4 : Int32) (y5 : Int32) (σ : HS), k60 y2 y3 y4 y5 σ = some R → AW ids ad ca Γ 60 [some (.ref (ad 0)), none, some (.int y2), some (.int y3), some (.int y4), some (.int y5), none, none] [] σ) (y2 : Int32) (y3 : Int32) (y4 : Int32) (y5 : Int32) (v0 : Int32) (σ : HS), f_X11_watch_91 k60 y2 y3 y4 y5 v0 σ = some R → AW ids ad ca Γ 91 [some (.ref (ad 0)), none, some (.int y2), some (.int y3), some (.int y4), some (.int y5), none, none] [.int v0] σ := by
    intro k60 hk60 y2 y3 y4 y5 v0 σ h
    unfold f_X11_watch_91 at h
    refine a_istore C dX11_watch_91 (by decide) rfl (vs1 := [some (.ref (ad 0)), none, some (.int y2), some (.int y3), some (.int y4), some (.int y5), some (.int v0), none]) rfl ?_
    refine a_iload_n C dX11_watch_93 (i := 2) rfl rfl ?_
    refine a_iload C dX11_watch_94 rfl ?_
    refine a_iand C dX11_watch_96 ?_
    refine p_callSi C (As := [.int (y2 &&& v0)]) h (fun _ _ e => Z_J6_bitCount_0f7a4 hid e) ms_J6_bitCount_0f7a4 ml_RX11_330 rfl rfl (Nat.le_of_ble_eq_true rfl) (Nat.le_of_ble_eq_true rfl) (Nat.le_of_ble_eq_true rfl) dX11_watch_97 (fun r2 σ1 h => ?_)
    refine a_iload_n C dX11_watch_100 (i := 2) rfl rfl ?_
    refine a_iload C dX11_watch_101 rfl ?_
    refine a_iconst C dX11_watch_103 (v := (-1)) rfl ?_
    refine a_ixor C dX11_watch_104 ?_
    refine a_iand C dX11_watch_105 ?_
    refine p_callSi C (As := [.int (y2 &&& (v0 ^^^ ((-1) : Int32)))]) h (fun _ _ e => Z_J6_bitCount_0f7a4 hid e) ms_J6_bitCount_0f7a4 ml_RX11_330 rfl rfl (Nat.le_of_ble_eq_true rfl) (Nat.le_of_ble_eq_true rfl) (Nat.le_of_ble_eq_true rfl) dX11_watch_106 (fun r4 σ3 h => ?_)
    refine a_mmax C dX11_watch_109 mm_RX11_335 mm_max.1 mm_max.2.1 mm_max.2.2 (Nat.le_of_ble_eq_true rfl) (Nat.le_of_ble_eq_true rfl) ?_
    refine p_istore C (fun z5 => [some (.ref (ad 0)), none, some (.int y2), some (.int y3), some (.int y4), some (.int y5), some (.int v0), some (.int z5)]) dX11_watch_112 (by decide) rfl (fun _ => rfl) h (fun z5 h => ?_)
    refine a_iload C dX11_watch_114 rfl ?_
    refine a_iload C dX11_watch_116 rfl ?_
    refine p_ic_ge C (X := z5.toInt) (Y := y4.toInt) rfl rfl dX11_watch_118 (tgt := 128) rfl h (fun h => ?_) (fun h => ?_)
    ·
      refine AW.sub (vs' := [some (.ref (ad 0)), none, some (.int y2), some (.int y3), some (.int y4), some (.int y5), none, none]) (lsub_of (by simp [lsubB])) ?_
      exact j128 k60 hk60 _ _ _ _ _ h
    ·
      refine a_iload C dX11_watch_121 rfl ?_
      refine a_istore C dX11_watch_123 (by decide) rfl (vs1 := [some (.ref (ad 0)), none, some (.int y2), some (.int y3), some (.int z5), some (.int y5), some (.int v0), some (.int z5)]) rfl ?_
      refine a_iload C dX11_watch_125 rfl ?_
      refine a_istore_n C dX11_watch_127 (i := 3) rfl (by decide) rfl (vs1 := [some (.ref (ad 0)), none, some (.int y2), some (.int y5), some (.int z5), some (.int y5), some (.int v0), some (.int z5)]) rfl ?_
      refine AW.sub (vs' := [some (.ref (ad 0)), none, some (.int y2), some (.int y5), some (.int z5), some (.int y5), none, none]) (lsub_of (by simp [lsubB])) ?_
      exact j128 k60 hk60 _ _ _ _ _ h
  have j60 : ∀ (n : Nat) (y2 : Int32) (y3 : Int32) (y4 : Int32) (y5 : Int32) (σ : HS), f_X11_watch_60 n y2 y3 y4 y5 σ = some R → AW ids ad ca Γ 60 [some (.ref (ad 0)), none, some (.int y2), some (.int y3), some (.int y4), some (.int y5), none, none] [] σ := by
    intro n
    induction n with
    | zero => intro y2 y3 y4 y5 σ h; exact nn h
    | succ n ih =>
      intro y2 y3 y4 y5 σ h
      have h : b_X11_watch_60 (f_X11_watch_60 n) y2 y3 y4 y5 σ = some R := h
      unfold b_X11_watch_60 at h
      refine a_iload C dX11_watch_60 rfl ?_
      refine a_bipush C dX11_watch_62 (v := 40) rfl ?_
      refine p_ic_gt C (X := y5.toInt) (Y := 40) rfl (by decide) dX11_watch_64 (tgt := 134) rfl h (fun h => ?_) (fun h => ?_)
      ·
        refine a_iload_n C dX11_watch_134 (i := 3) rfl rfl ?_
        exact a_iret Rt dX11_watch_135 rfl (ret_eq (h.trans (congrArg some hR.symm)))
      ·
        refine a_aload_n C dX11_watch_67 (i := 0) rfl rfl ?_
        refine a_get C fl_RX11_69 (i := 0) kd_0 (hid 0 (by decide)) (v := .ref (ad 27)) rfl dX11_watch_68 ?_
        refine a_iload C dX11_watch_71 rfl ?_
        refine p_iald C (i := 27) (show rowOK 27 from ⟨kd_27, by decide⟩) hid (by rw [al_27]; rfl) dX11_watch_73 h (fun h => ?_)
        refine a_iconst C dX11_watch_74 (v := (-1)) rfl ?_
        refine p_ic_ne C (X := (σ.1 27 y5.toInt.toNat).toInt) (Y := (-1)) rfl (by decide) dX11_watch_75 (tgt := 82) rfl h (fun h => ?_) (fun h => ?_)
        ·
          refine a_iconst C dX11_watch_82 (v := 1) rfl ?_
          refine a_aload_n C dX11_watch_83 (i := 0) rfl rfl ?_
          refine a_get C fl_RX11_69 (i := 0) kd_0 (hid 0 (by decide)) (v := .ref (ad 27)) rfl dX11_watch_84 ?_
          refine a_iload C dX11_watch_87 rfl ?_
          refine p_iald C (i := 27) (show rowOK 27 from ⟨kd_27, by decide⟩) hid (by rw [al_27]; rfl) dX11_watch_89 h (fun h => ?_)
          refine a_ishl C dX11_watch_90 ?_
          exact j91 (f_X11_watch_60 n) (fun y2 y3 y4 y5 σ h => ih y2 y3 y4 y5 σ h) _ _ _ _ _ _ h
        ·
          refine a_iconst C dX11_watch_78 (v := 0) rfl ?_
          refine a_goto C dX11_watch_79 (tgt := 91) rfl ?_
          exact j91 (f_X11_watch_60 n) (fun y2 y3 y4 y5 σ h => ih y2 y3 y4 y5 σ h) _ _ _ _ _ _ h
  refine a_iload_n C dX11_watch_0 (i := 1) rfl rfl ?_
  refine p_if_lt C (X := x1.toInt) rfl dX11_watch_1 (tgt := 15) rfl h (fun h => ?_) (fun h => ?_)
  ·
    refine a_iconst C dX11_watch_15 (v := (-1)) rfl ?_
    exact a_iret Rt dX11_watch_16 rfl (ret_eq (h.trans (congrArg some hR.symm)))
  ·
    refine a_iload_n C dX11_watch_4 (i := 1) rfl rfl ?_
    refine a_aload_n C dX11_watch_5 (i := 0) rfl rfl ?_
    refine a_get C fl_RX11_33 (i := 0) kd_0 (hid 0 (by decide)) (v := .ref (ad 14)) rfl dX11_watch_6 ?_
    refine a_get C fl_RX11_117 (i := 14) kd_14 (hid 14 (by decide)) (v := .int (σ.1 14 2)) rfl dX11_watch_9 ?_
    refine p_ic_le C (X := x1.toInt) (Y := (σ.1 14 2).toInt) rfl rfl dX11_watch_12 (tgt := 17) rfl h (fun h => ?_) (fun h => ?_)
    ·
      refine a_aload_n C dX11_watch_17 (i := 0) rfl rfl ?_
      refine a_bipush C dX11_watch_18 (v := 41) rfl ?_
      refine p_callVv C (As := [.int 41]) (i := 0) kd_0 (hid 0 (by decide)) ⟨_, _, rfl⟩ (by decide) h (fun _ e => Z_X11_findHands hid e) mi_X11_findHands ml_RX11_279 rfl rfl (Nat.le_of_ble_eq_true rfl) (Nat.le_of_ble_eq_true rfl) (Nat.le_of_ble_eq_true rfl) dX11_watch_20 (fun σ1 h => ?_)
      refine a_aload_n C dX11_watch_23 (i := 0) rfl rfl ?_
      refine a_get C fl_RX11_33 (i := 0) kd_0 (hid 0 (by decide)) (v := .ref (ad 14)) rfl dX11_watch_24 ?_
      refine a_aload_n C dX11_watch_27 (i := 0) rfl rfl ?_
      refine a_get C fl_RX11_54 (i := 0) kd_0 (hid 0 (by decide)) (v := .ref (ad 56)) rfl dX11_watch_28 ?_
      refine a_iconst C dX11_watch_31 (v := 0) rfl ?_
      refine p_callVi C (As := [.int 0]) (i := 56) (show airOK 56 from airOK_of 0 (by decide)).1.1 (hid _ (show airOK 56 from airOK_of 0 (by decide)).1.2) ⟨_, _, rfl⟩ (by decide) h (fun _ _ e => Z_X0_bitsOf hid (show airOK 56 from airOK_of 0 (by decide)) e) mi_X0_bitsOf ml_RX11_180 rfl rfl (Nat.le_of_ble_eq_true rfl) (Nat.le_of_ble_eq_true rfl) (Nat.le_of_ble_eq_true rfl) dX11_watch_32 (fun r4 σ3 h => ?_)
      refine a_iload_n C dX11_watch_35 (i := 1) rfl rfl ?_
      refine a_aload_n C dX11_watch_36 (i := 0) rfl rfl ?_
      refine a_get C fl_RX11_69 (i := 0) kd_0 (hid 0 (by decide)) (v := .ref (ad 27)) rfl dX11_watch_37 ?_
      refine p_callVi C (As := [.int r4, .int x1, .ref (ad 27)]) (i := 14) kd_14 (hid 14 (by decide)) ⟨_, _, rfl⟩ (by decide) h (fun _ _ e => Z_X2_agreeing hid (show rowOK 27 from ⟨kd_27, by decide⟩) e) mi_X2_agreeing ml_RX11_326 rfl rfl (Nat.le_of_ble_eq_true rfl) (Nat.le_of_ble_eq_true rfl) (Nat.le_of_ble_eq_true rfl) dX11_watch_40 (fun r6 σ5 h => ?_)
      refine a_istore_n C dX11_watch_43 (i := 2) rfl (by decide) rfl (vs1 := [some (.ref (ad 0)), some (.int x1), some (.int r6), none, none, none, none, none]) rfl ?_
      refine a_iload_n C dX11_watch_44 (i := 2) rfl rfl ?_
      refine p_if_ne C (X := r6.toInt) rfl dX11_watch_45 (tgt := 51) rfl h (fun h => ?_) (fun h => ?_)
      ·
        refine a_iconst C dX11_watch_51 (v := 0) rfl ?_
        refine a_istore_n C dX11_watch_52 (i := 3) rfl (by decide) rfl (vs1 := [some (.ref (ad 0)), some (.int x1), some (.int r6), some (.int 0), none, none, none, none]) rfl ?_
        refine a_bipush C dX11_watch_53 (v := 8) rfl ?_
        refine a_istore C dX11_watch_55 (by decide) rfl (vs1 := [some (.ref (ad 0)), some (.int x1), some (.int r6), some (.int 0), some (.int 8), none, none, none]) rfl ?_
        refine a_iconst C dX11_watch_57 (v := 0) rfl ?_
        refine a_istore C dX11_watch_58 (by decide) rfl (vs1 := [some (.ref (ad 0)), some (.int x1), some (.int r6), some (.int 0), some (.int 8), some (.int 0), none, none]) rfl ?_
        refine AW.sub (vs' := [some (.ref (ad 0)), none, some (.int r6), some (.int 0), some (.int 8), some (.int 0), none, none]) (lsub_of (by simp [lsubB])) ?_
        exact j60 _ _ _ _ _ _ h
      ·
        refine a_bipush C dX11_watch_48 (v := (-2)) rfl ?_
        exact a_iret Rt dX11_watch_50 rfl (ret_eq (h.trans (congrArg some hR.symm)))
    ·
      refine a_iconst C dX11_watch_15 (v := (-1)) rfl ?_
      exact a_iret Rt dX11_watch_16 rfl (ret_eq (h.trans (congrArg some hR.symm)))
set_option maxHeartbeats 4000000 in
set_option maxRecDepth 100000 in
theorem Z_X12_put {l : Launch} {D : va_G} {ids : List Nat} {ad : Nat → Nat} {ca : Nat → ClassId} {σ : HS} {x1 : Int32} {s0 : HS} (hid : ∀ i, i < 277 → i ∈ ids) (h : f_X12_put x1 σ = some s0) : Kv l D ids ad ca yX12_put cX12_put 3 0 0 [.ref (ad 236), .int x1] σ (fun σ1 => σ1 = s0) := by
  obtain ⟨R, hR⟩ : ∃ R, s0 = R := ⟨_, rfl⟩
  replace h := h.trans (congrArg some hR)
  refine Kv.of (by decide) (Nat.le_of_ble_eq_true rfl) 1 (fun Γ C Rt => ?_)
  show AW ids ad ca Γ 0 [some (.ref (ad 236)), some (.int x1), none] [] σ
  unfold f_X12_put at h
  have j3 : ∀ (n : Nat) (y1 : Int32) (y2 : Int32) (σ : HS), f_X12_put_3 n y1 y2 σ = some R → AW ids ad ca Γ 3 [some (.ref (ad 236)), some (.int y1), some (.int y2)] [] σ := by
    intro n
    induction n with
    | zero => intro y1 y2 σ h; exact nn h
    | succ n ih =>
      intro y1 y2 σ h
      have h : b_X12_put_3 (f_X12_put_3 n) y1 y2 σ = some R := h
      unfold b_X12_put_3 at h
      refine a_iload_n C dX12_put_3 (i := 2) rfl rfl ?_
      refine p_if_lt C (X := y2.toInt) rfl dX12_put_4 (tgt := 36) rfl h (fun h => ?_) (fun h => ?_)
      ·
        exact a_vret Rt dX12_put_36 (retv_eq (h.trans (congrArg some hR.symm)))
      ·
        refine a_aload_n C dX12_put_7 (i := 0) rfl rfl ?_
        refine a_get C fl_RX12_13 (i := 236) kd_236 (hid 236 (by decide)) (v := .ref (ad 237)) rfl dX12_put_8 ?_
        refine a_aload_n C dX12_put_11 (i := 0) rfl rfl ?_
        refine a_get C fl_RX12_154 (i := 236) kd_236 (hid 236 (by decide)) (v := .int (σ.1 236 2)) rfl dX12_put_12 ?_
        refine a_iload_n C dX12_put_15 (i := 1) rfl rfl ?_
        refine a_iload_n C dX12_put_16 (i := 2) rfl rfl ?_
        refine a_ishr C dX12_put_17 ?_
        refine a_i2b C dX12_put_18 ?_
        refine p_bast C (i := 237) kd_237 (hid 237 (by decide)) (by rw [al_237]; rfl) dX12_put_19 h (fun σ1 h => ?_)
        refine a_aload_n C dX12_put_20 (i := 0) rfl rfl ?_
        refine a_dup C dX12_put_21 rfl ?_
        refine a_get C fl_RX12_154 (i := 236) kd_236 (hid 236 (by decide)) (v := .int (σ1.1 236 2)) rfl dX12_put_22 ?_
        refine a_iconst C dX12_put_25 (v := 1) rfl ?_
        refine a_iadd C dX12_put_26 ?_
        refine p_put C fp_RX12_154 (i := 236) kd_236 (hid 236 (by decide)) rfl rfl dX12_put_27 h (fun σ2 h => ?_)
        refine p_iinc C (y := (y2 + (-8))) (fun z3 => [some (.ref (ad 236)), some (.int y1), some (.int z3)]) dX12_put_30 rfl rfl (by decide) rfl (fun _ => rfl) h (fun z3 h => ?_)
        refine a_goto C dX12_put_33 (tgt := 3) rfl ?_
        exact ih _ _ _ h
  refine a_bipush C dX12_put_0 (v := 24) rfl ?_
  refine a_istore_n C dX12_put_2 (i := 2) rfl (by decide) rfl (vs1 := [some (.ref (ad 236)), some (.int x1), some (.int 24)]) rfl ?_
  exact j3 _ _ _ _ h
set_option maxHeartbeats 4000000 in
set_option maxRecDepth 100000 in
theorem Z_X12_feed {l : Launch} {D : va_G} {ids : List Nat} {ad : Nat → Nat} {ca : Nat → ClassId} {σ : HS} {x1 : Int32} {x2 : Int32} {x3 : Int32} {x4 : Int32} {x5 : Int32} {r0 : Int32} {s0 : HS} (hid : ∀ i, i < 277 → i ∈ ids) (h : f_X12_feed x1 x2 x3 x4 x5 σ = some (r0, s0)) : Ki l D ids ad ca yX12_feed cX12_feed 6 .int 1 22 [.ref (ad 236), .int x1, .int x2, .int x3, .int x4, .int x5] σ (fun r σ1 => r = r0 ∧ σ1 = s0) := by
  obtain ⟨R, hR⟩ : ∃ R, (r0, s0) = R := ⟨_, rfl⟩
  replace h := h.trans (congrArg some hR)
  refine Ki.of (by decide) (Nat.le_of_ble_eq_true rfl) 0 (fun Γ C Rt => ?_)
  show AW ids ad ca Γ 0 [some (.ref (ad 236)), some (.int x1), some (.int x2), some (.int x3), some (.int x4), some (.int x5)] [] σ
  unfold f_X12_feed at h
  refine a_aload_n C dX12_feed_0 (i := 0) rfl rfl ?_
  refine a_get C fl_RX12_154 (i := 236) kd_236 (hid 236 (by decide)) (v := .int (σ.1 236 2)) rfl dX12_feed_1 ?_
  refine a_bipush C dX12_feed_4 (v := 20) rfl ?_
  refine a_iadd C dX12_feed_6 ?_
  refine a_sipush C dX12_feed_7 (v := 2000) rfl ?_
  refine p_ic_le C (X := ((σ.1 236 2) + (20 : Int32)).toInt) (Y := 2000) rfl (by decide) dX12_feed_10 (tgt := 15) rfl h (fun h => ?_) (fun h => ?_)
  ·
    refine a_aload_n C dX12_feed_15 (i := 0) rfl rfl ?_
    refine a_iload_n C dX12_feed_16 (i := 1) rfl rfl ?_
    refine p_callVv C (As := [.int x1]) (i := 236) kd_236 (hid 236 (by decide)) ⟨_, _, rfl⟩ (by decide) h (fun _ e => Z_X12_put hid e) mi_X12_put ml_RX12_157 rfl rfl (Nat.le_of_ble_eq_true rfl) (Nat.le_of_ble_eq_true rfl) (Nat.le_of_ble_eq_true rfl) dX12_feed_17 (fun σ1 h => ?_)
    refine a_aload_n C dX12_feed_20 (i := 0) rfl rfl ?_
    refine a_iload_n C dX12_feed_21 (i := 2) rfl rfl ?_
    refine p_callVv C (As := [.int x2]) (i := 236) kd_236 (hid 236 (by decide)) ⟨_, _, rfl⟩ (by decide) h (fun _ e => Z_X12_put hid e) mi_X12_put ml_RX12_157 rfl rfl (Nat.le_of_ble_eq_true rfl) (Nat.le_of_ble_eq_true rfl) (Nat.le_of_ble_eq_true rfl) dX12_feed_22 (fun σ3 h => ?_)
    refine a_aload_n C dX12_feed_25 (i := 0) rfl rfl ?_
    refine a_iload_n C dX12_feed_26 (i := 3) rfl rfl ?_
    refine p_callVv C (As := [.int x3]) (i := 236) kd_236 (hid 236 (by decide)) ⟨_, _, rfl⟩ (by decide) h (fun _ e => Z_X12_put hid e) mi_X12_put ml_RX12_157 rfl rfl (Nat.le_of_ble_eq_true rfl) (Nat.le_of_ble_eq_true rfl) (Nat.le_of_ble_eq_true rfl) dX12_feed_27 (fun σ5 h => ?_)
    refine a_aload_n C dX12_feed_30 (i := 0) rfl rfl ?_
    refine a_iload C dX12_feed_31 rfl ?_
    refine p_callVv C (As := [.int x4]) (i := 236) kd_236 (hid 236 (by decide)) ⟨_, _, rfl⟩ (by decide) h (fun _ e => Z_X12_put hid e) mi_X12_put ml_RX12_157 rfl rfl (Nat.le_of_ble_eq_true rfl) (Nat.le_of_ble_eq_true rfl) (Nat.le_of_ble_eq_true rfl) dX12_feed_33 (fun σ7 h => ?_)
    refine a_aload_n C dX12_feed_36 (i := 0) rfl rfl ?_
    refine a_iload C dX12_feed_37 rfl ?_
    refine p_callVv C (As := [.int x5]) (i := 236) kd_236 (hid 236 (by decide)) ⟨_, _, rfl⟩ (by decide) h (fun _ e => Z_X12_put hid e) mi_X12_put ml_RX12_157 rfl rfl (Nat.le_of_ble_eq_true rfl) (Nat.le_of_ble_eq_true rfl) (Nat.le_of_ble_eq_true rfl) dX12_feed_39 (fun σ9 h => ?_)
    refine a_aload_n C dX12_feed_42 (i := 0) rfl rfl ?_
    refine a_get C fl_RX12_154 (i := 236) kd_236 (hid 236 (by decide)) (v := .int (σ9.1 236 2)) rfl dX12_feed_43 ?_
    exact a_iret Rt dX12_feed_46 rfl (ret_eq (h.trans (congrArg some hR.symm)))
  ·
    refine a_iconst C dX12_feed_13 (v := (-1)) rfl ?_
    exact a_iret Rt dX12_feed_14 rfl (ret_eq (h.trans (congrArg some hR.symm)))
set_option maxHeartbeats 4000000 in
set_option maxRecDepth 100000 in
theorem Z_X12_back {l : Launch} {D : va_G} {ids : List Nat} {ad : Nat → Nat} {ca : Nat → ClassId} {σ : HS} {x1 : Int32} {r0 : Int32} {s0 : HS} (hid : ∀ i, i < 277 → i ∈ ids) (h : f_X12_back x1 σ = some (r0, s0)) : Ki l D ids ad ca yX12_back cX12_back 2 .int 0 0 [.ref (ad 236), .int x1] σ (fun r σ1 => r = r0 ∧ σ1 = s0) := by
  obtain ⟨R, hR⟩ : ∃ R, (r0, s0) = R := ⟨_, rfl⟩
  replace h := h.trans (congrArg some hR)
  refine Ki.of (by decide) (Nat.le_of_ble_eq_true rfl) 0 (fun Γ C Rt => ?_)
  show AW ids ad ca Γ 0 [some (.ref (ad 236)), some (.int x1)] [] σ
  unfold f_X12_back at h
  refine a_iload_n C dX12_back_0 (i := 1) rfl rfl ?_
  refine p_if_lt C (X := x1.toInt) rfl dX12_back_1 (tgt := 12) rfl h (fun h => ?_) (fun h => ?_)
  ·
    refine a_iconst C dX12_back_12 (v := (-1)) rfl ?_
    exact a_iret Rt dX12_back_13 rfl (ret_eq (h.trans (congrArg some hR.symm)))
  ·
    refine a_iload_n C dX12_back_4 (i := 1) rfl rfl ?_
    refine a_aload_n C dX12_back_5 (i := 0) rfl rfl ?_
    refine a_get C fl_RX12_154 (i := 236) kd_236 (hid 236 (by decide)) (v := .int (σ.1 236 2)) rfl dX12_back_6 ?_
    refine p_ic_le C (X := x1.toInt) (Y := (σ.1 236 2).toInt) rfl rfl dX12_back_9 (tgt := 14) rfl h (fun h => ?_) (fun h => ?_)
    ·
      refine a_aload_n C dX12_back_14 (i := 0) rfl rfl ?_
      refine a_dup C dX12_back_15 rfl ?_
      refine a_get C fl_RX12_154 (i := 236) kd_236 (hid 236 (by decide)) (v := .int (σ.1 236 2)) rfl dX12_back_16 ?_
      refine a_iload_n C dX12_back_19 (i := 1) rfl rfl ?_
      refine a_isub C dX12_back_20 ?_
      refine p_put C fp_RX12_154 (i := 236) kd_236 (hid 236 (by decide)) rfl rfl dX12_back_21 h (fun σ1 h => ?_)
      refine a_aload_n C dX12_back_24 (i := 0) rfl rfl ?_
      refine a_get C fl_RX12_154 (i := 236) kd_236 (hid 236 (by decide)) (v := .int (σ1.1 236 2)) rfl dX12_back_25 ?_
      exact a_iret Rt dX12_back_28 rfl (ret_eq (h.trans (congrArg some hR.symm)))
    ·
      refine a_iconst C dX12_back_12 (v := (-1)) rfl ?_
      exact a_iret Rt dX12_back_13 rfl (ret_eq (h.trans (congrArg some hR.symm)))
set_option maxHeartbeats 4000000 in
set_option maxRecDepth 100000 in
theorem Z_X12_byteAt {l : Launch} {D : va_G} {ids : List Nat} {ad : Nat → Nat} {ca : Nat → ClassId} {σ : HS} {x1 : Int32} {r0 : Int32} {s0 : HS} (hid : ∀ i, i < 277 → i ∈ ids) (h : f_X12_byteAt x1 σ = some (r0, s0)) : Ki l D ids ad ca yX12_byteAt cX12_byteAt 2 .int 0 0 [.ref (ad 236), .int x1] σ (fun r σ1 => r = r0 ∧ σ1 = s0) := by
  obtain ⟨R, hR⟩ : ∃ R, (r0, s0) = R := ⟨_, rfl⟩
  replace h := h.trans (congrArg some hR)
  refine Ki.of (by decide) (Nat.le_of_ble_eq_true rfl) 0 (fun Γ C Rt => ?_)
  show AW ids ad ca Γ 0 [some (.ref (ad 236)), some (.int x1)] [] σ
  unfold f_X12_byteAt at h
  refine a_iload_n C dX12_byteAt_0 (i := 1) rfl rfl ?_
  refine a_aload_n C dX12_byteAt_1 (i := 0) rfl rfl ?_
  refine a_get C fl_RX12_160 (i := 236) kd_236 (hid 236 (by decide)) (v := .int (σ.1 236 4)) rfl dX12_byteAt_2 ?_
  refine p_ic_ge C (X := x1.toInt) (Y := (σ.1 236 4).toInt) rfl rfl dX12_byteAt_5 (tgt := 21) rfl h (fun h => ?_) (fun h => ?_)
  ·
    refine a_iconst C dX12_byteAt_21 (v := 0) rfl ?_
    exact a_iret Rt dX12_byteAt_22 rfl (ret_eq (h.trans (congrArg some hR.symm)))
  ·
    refine a_aload_n C dX12_byteAt_8 (i := 0) rfl rfl ?_
    refine a_get C fl_RX12_17 (i := 236) kd_236 (hid 236 (by decide)) (v := .ref (ad 238)) rfl dX12_byteAt_9 ?_
    refine a_iload_n C dX12_byteAt_12 (i := 1) rfl rfl ?_
    refine p_bald C (i := 238) kd_238 (hid 238 (by decide)) (by rw [al_238]; rfl) dX12_byteAt_13 h (fun h => ?_)
    refine a_sipush C dX12_byteAt_14 (v := 255) rfl ?_
    refine a_iand C dX12_byteAt_17 ?_
    refine a_goto C dX12_byteAt_18 (tgt := 22) rfl ?_
    exact a_iret Rt dX12_byteAt_22 rfl (ret_eq (h.trans (congrArg some hR.symm)))
set_option maxHeartbeats 4000000 in
set_option maxRecDepth 100000 in
theorem Z_X12_isDigit {l : Launch} {D : va_G} {ids : List Nat} {ad : Nat → Nat} {ca : Nat → ClassId} {σ : HS} {x1 : Int32} {r0 : Int32} {s0 : HS} (hid : ∀ i, i < 277 → i ∈ ids) (h : f_X12_isDigit x1 σ = some (r0, s0)) : Ki l D ids ad ca yX12_isDigit cX12_isDigit 1 .boolean 0 0 [.int x1] σ (fun r σ1 => r = r0 ∧ σ1 = s0) := by
  obtain ⟨R, hR⟩ : ∃ R, (r0, s0) = R := ⟨_, rfl⟩
  replace h := h.trans (congrArg some hR)
  refine Ki.of (by decide) (Nat.le_of_ble_eq_true rfl) 0 (fun Γ C Rt => ?_)
  show AW ids ad ca Γ 0 [some (.int x1)] [] σ
  unfold f_X12_isDigit at h
  refine a_iload_n C dX12_isDigit_0 (i := 0) rfl rfl ?_
  refine a_bipush C dX12_isDigit_1 (v := 48) rfl ?_
  refine p_ic_lt C (X := x1.toInt) (Y := 48) rfl (by decide) dX12_isDigit_3 (tgt := 16) rfl h (fun h => ?_) (fun h => ?_)
  ·
    refine a_iconst C dX12_isDigit_16 (v := 0) rfl ?_
    exact a_iret Rt dX12_isDigit_17 (nar_z (by decide)).1 (ret_eq (h.trans (congrArg some hR.symm)))
  ·
    refine a_iload_n C dX12_isDigit_6 (i := 0) rfl rfl ?_
    refine a_bipush C dX12_isDigit_7 (v := 57) rfl ?_
    refine p_ic_gt C (X := x1.toInt) (Y := 57) rfl (by decide) dX12_isDigit_9 (tgt := 16) rfl h (fun h => ?_) (fun h => ?_)
    ·
      refine a_iconst C dX12_isDigit_16 (v := 0) rfl ?_
      exact a_iret Rt dX12_isDigit_17 (nar_z (by decide)).1 (ret_eq (h.trans (congrArg some hR.symm)))
    ·
      refine a_iconst C dX12_isDigit_12 (v := 1) rfl ?_
      refine a_goto C dX12_isDigit_13 (tgt := 17) rfl ?_
      exact a_iret Rt dX12_isDigit_17 (nar_z (by decide)).1 (ret_eq (h.trans (congrArg some hR.symm)))
set_option maxHeartbeats 4000000 in
set_option maxRecDepth 100000 in
theorem Z_X12_isLetter {l : Launch} {D : va_G} {ids : List Nat} {ad : Nat → Nat} {ca : Nat → ClassId} {σ : HS} {x1 : Int32} {r0 : Int32} {s0 : HS} (hid : ∀ i, i < 277 → i ∈ ids) (h : f_X12_isLetter x1 σ = some (r0, s0)) : Ki l D ids ad ca yX12_isLetter cX12_isLetter 1 .boolean 0 0 [.int x1] σ (fun r σ1 => r = r0 ∧ σ1 = s0) := by
  obtain ⟨R, hR⟩ : ∃ R, (r0, s0) = R := ⟨_, rfl⟩
  replace h := h.trans (congrArg some hR)
  refine Ki.of (by decide) (Nat.le_of_ble_eq_true rfl) 0 (fun Γ C Rt => ?_)
  show AW ids ad ca Γ 0 [some (.int x1)] [] σ
  unfold f_X12_isLetter at h
  refine a_iload_n C dX12_isLetter_0 (i := 0) rfl rfl ?_
  refine a_bipush C dX12_isLetter_1 (v := 97) rfl ?_
  refine p_ic_lt C (X := x1.toInt) (Y := 97) rfl (by decide) dX12_isLetter_3 (tgt := 16) rfl h (fun h => ?_) (fun h => ?_)
  ·
    refine a_iconst C dX12_isLetter_16 (v := 0) rfl ?_
    exact a_iret Rt dX12_isLetter_17 (nar_z (by decide)).1 (ret_eq (h.trans (congrArg some hR.symm)))
  ·
    refine a_iload_n C dX12_isLetter_6 (i := 0) rfl rfl ?_
    refine a_bipush C dX12_isLetter_7 (v := 122) rfl ?_
    refine p_ic_gt C (X := x1.toInt) (Y := 122) rfl (by decide) dX12_isLetter_9 (tgt := 16) rfl h (fun h => ?_) (fun h => ?_)
    ·
      refine a_iconst C dX12_isLetter_16 (v := 0) rfl ?_
      exact a_iret Rt dX12_isLetter_17 (nar_z (by decide)).1 (ret_eq (h.trans (congrArg some hR.symm)))
    ·
      refine a_iconst C dX12_isLetter_12 (v := 1) rfl ?_
      refine a_goto C dX12_isLetter_13 (tgt := 17) rfl ?_
      exact a_iret Rt dX12_isLetter_17 (nar_z (by decide)).1 (ret_eq (h.trans (congrArg some hR.symm)))
set_option maxHeartbeats 4000000 in
set_option maxRecDepth 100000 in
theorem Z_X12_token {l : Launch} {D : va_G} {ids : List Nat} {ad : Nat → Nat} {ca : Nat → ClassId} {σ : HS} {x1 : Int32} {x2 : Int32} {x3 : Int32} {x4 : Int64} {s0 : HS} (hid : ∀ i, i < 277 → i ∈ ids) (h : f_X12_token x1 x2 x3 x4 σ = some s0) : Kv l D ids ad ca yX12_token cX12_token 6 0 0 [.ref (ad 236), .int x1, .int x2, .int x3, .long x4] σ (fun σ1 => σ1 = s0) := by
  obtain ⟨R, hR⟩ : ∃ R, s0 = R := ⟨_, rfl⟩
  replace h := h.trans (congrArg some hR)
  refine Kv.of (by decide) (Nat.le_of_ble_eq_true rfl) 0 (fun Γ C Rt => ?_)
  show AW ids ad ca Γ 0 [some (.ref (ad 236)), some (.int x1), some (.int x2), some (.int x3), some (.long x4), none] [] σ
  unfold f_X12_token at h
  refine a_aload_n C dX12_token_0 (i := 0) rfl rfl ?_
  refine a_get C fl_RX12_20 (i := 236) kd_236 (hid 236 (by decide)) (v := .ref (ad 239)) rfl dX12_token_1 ?_
  refine a_aload_n C dX12_token_4 (i := 0) rfl rfl ?_
  refine a_get C fl_RX12_169 (i := 236) kd_236 (hid 236 (by decide)) (v := .int (σ.1 236 10)) rfl dX12_token_5 ?_
  refine a_iload_n C dX12_token_8 (i := 1) rfl rfl ?_
  refine p_iast C (i := 239) (show rowOK 239 from ⟨kd_239, by decide⟩) hid (by rw [al_239]; rfl) dX12_token_9 h (fun σ1 h => ?_)
  refine a_aload_n C dX12_token_10 (i := 0) rfl rfl ?_
  refine a_get C fl_RX12_24 (i := 236) kd_236 (hid 236 (by decide)) (v := .ref (ad 240)) rfl dX12_token_11 ?_
  refine a_aload_n C dX12_token_14 (i := 0) rfl rfl ?_
  refine a_get C fl_RX12_169 (i := 236) kd_236 (hid 236 (by decide)) (v := .int (σ1.1 236 10)) rfl dX12_token_15 ?_
  refine a_iload_n C dX12_token_18 (i := 2) rfl rfl ?_
  refine p_iast C (i := 240) (show rowOK 240 from ⟨kd_240, by decide⟩) hid (by rw [al_240]; rfl) dX12_token_19 h (fun σ2 h => ?_)
  refine a_aload_n C dX12_token_20 (i := 0) rfl rfl ?_
  refine a_get C fl_RX12_27 (i := 236) kd_236 (hid 236 (by decide)) (v := .ref (ad 241)) rfl dX12_token_21 ?_
  refine a_aload_n C dX12_token_24 (i := 0) rfl rfl ?_
  refine a_get C fl_RX12_169 (i := 236) kd_236 (hid 236 (by decide)) (v := .int (σ2.1 236 10)) rfl dX12_token_25 ?_
  refine a_iload_n C dX12_token_28 (i := 3) rfl rfl ?_
  refine p_iast C (i := 241) (show rowOK 241 from ⟨kd_241, by decide⟩) hid (by rw [al_241]; rfl) dX12_token_29 h (fun σ3 h => ?_)
  refine a_aload_n C dX12_token_30 (i := 0) rfl rfl ?_
  refine a_get C fl_RX12_30 (i := 236) kd_236 (hid 236 (by decide)) (v := .ref (ad 242)) rfl dX12_token_31 ?_
  refine a_aload_n C dX12_token_34 (i := 0) rfl rfl ?_
  refine a_get C fl_RX12_169 (i := 236) kd_236 (hid 236 (by decide)) (v := .int (σ3.1 236 10)) rfl dX12_token_35 ?_
  refine a_lload C dX12_token_38 rfl ?_
  refine p_last C (i := 242) kd_242 (hid 242 (by decide)) (by rw [al_242]; rfl) dX12_token_40 h (fun σ4 h => ?_)
  refine a_aload_n C dX12_token_41 (i := 0) rfl rfl ?_
  refine a_dup C dX12_token_42 rfl ?_
  refine a_get C fl_RX12_169 (i := 236) kd_236 (hid 236 (by decide)) (v := .int (σ4.1 236 10)) rfl dX12_token_43 ?_
  refine a_iconst C dX12_token_46 (v := 1) rfl ?_
  refine a_iadd C dX12_token_47 ?_
  refine p_put C fp_RX12_169 (i := 236) kd_236 (hid 236 (by decide)) rfl rfl dX12_token_48 h (fun σ5 h => ?_)
  exact a_vret Rt dX12_token_51 (retv_eq (h.trans (congrArg some hR.symm)))
set_option maxHeartbeats 4000000 in
set_option maxRecDepth 100000 in
theorem Z_X12_sign {l : Launch} {D : va_G} {ids : List Nat} {ad : Nat → Nat} {ca : Nat → ClassId} {σ : HS} {x1 : Int32} {x2 : Int32} {x3 : Int32} {r0 : Int32} {s0 : HS} (hid : ∀ i, i < 277 → i ∈ ids) (h : f_X12_sign x1 x2 x3 σ = some (r0, s0)) : Ki l D ids ad ca yX12_sign cX12_sign 5 .int 1 25 [.ref (ad 236), .int x1, .int x2, .int x3] σ (fun r σ1 => r = r0 ∧ σ1 = s0) := by
  obtain ⟨R, hR⟩ : ∃ R, (r0, s0) = R := ⟨_, rfl⟩
  replace h := h.trans (congrArg some hR)
  refine Ki.of (by decide) (Nat.le_of_ble_eq_true rfl) 1 (fun Γ C Rt => ?_)
  show AW ids ad ca Γ 0 [some (.ref (ad 236)), some (.int x1), some (.int x2), some (.int x3), none] [] σ
  unfold f_X12_sign at h
  have j95 : ∀ (y1 : Int32) (y4 : Int32) (σ : HS), f_X12_sign_95 y1 y4 σ = some R → AW ids ad ca Γ 95 [some (.ref (ad 236)), some (.int y1), none, none, some (.int y4)] [] σ := by
    intro y1 y4 σ h
    unfold f_X12_sign_95 at h
    refine a_aload_n C dX12_sign_95 (i := 0) rfl rfl ?_
    refine a_iload C dX12_sign_96 rfl ?_
    refine a_iload_n C dX12_sign_98 (i := 1) rfl rfl ?_
    refine a_iconst C dX12_sign_99 (v := 0) rfl ?_
    refine a_lconst C dX12_sign_100 (v := 0) rfl ?_
    refine p_callVv C (As := [.int y4, .int y1, .int 0, .long 0]) (i := 236) kd_236 (hid 236 (by decide)) ⟨_, _, rfl⟩ (by decide) h (fun _ e => Z_X12_token hid e) mi_X12_token ml_RX12_176 rfl rfl (Nat.le_of_ble_eq_true rfl) (Nat.le_of_ble_eq_true rfl) (Nat.le_of_ble_eq_true rfl) dX12_sign_101 (fun σ1 h => ?_)
    refine a_iconst C dX12_sign_104 (v := 1) rfl ?_
    exact a_iret Rt dX12_sign_105 rfl (ret_eq (h.trans (congrArg some hR.symm)))
  have j85 : ∀ (y1 : Int32) (y2 : Int32) (y4 : Int32) (σ : HS), f_X12_sign_85 y1 y2 y4 σ = some R → AW ids ad ca Γ 85 [some (.ref (ad 236)), some (.int y1), some (.int y2), none, some (.int y4)] [] σ := by
    intro y1 y2 y4 σ h
    unfold f_X12_sign_85 at h
    refine a_iload_n C dX12_sign_85 (i := 2) rfl rfl ?_
    refine a_bipush C dX12_sign_86 (v := 60) rfl ?_
    refine p_ic_ne C (X := y2.toInt) (Y := 60) rfl (by decide) dX12_sign_88 (tgt := 95) rfl h (fun h => ?_) (fun h => ?_)
    ·
      refine AW.sub (vs' := [some (.ref (ad 236)), some (.int y1), none, none, some (.int y4)]) (lsub_of (by simp [lsubB])) ?_
      exact j95 _ _ _ h
    ·
      refine a_bipush C dX12_sign_91 (v := 13) rfl ?_
      refine a_istore C dX12_sign_93 (by decide) rfl (vs1 := [some (.ref (ad 236)), some (.int y1), some (.int y2), none, some (.int 13)]) rfl ?_
      refine AW.sub (vs' := [some (.ref (ad 236)), some (.int y1), none, none, some (.int 13)]) (lsub_of (by simp [lsubB])) ?_
      exact j95 _ _ _ h
  have j75 : ∀ (y1 : Int32) (y2 : Int32) (y4 : Int32) (σ : HS), f_X12_sign_75 y1 y2 y4 σ = some R → AW ids ad ca Γ 75 [some (.ref (ad 236)), some (.int y1), some (.int y2), none, some (.int y4)] [] σ := by
    intro y1 y2 y4 σ h
    unfold f_X12_sign_75 at h
    refine a_iload_n C dX12_sign_75 (i := 2) rfl rfl ?_
    refine a_bipush C dX12_sign_76 (v := 47) rfl ?_
    refine p_ic_ne C (X := y2.toInt) (Y := 47) rfl (by decide) dX12_sign_78 (tgt := 85) rfl h (fun h => ?_) (fun h => ?_)
    ·
      exact j85 _ _ _ _ h
    ·
      refine a_bipush C dX12_sign_81 (v := 15) rfl ?_
      refine a_istore C dX12_sign_83 (by decide) rfl (vs1 := [some (.ref (ad 236)), some (.int y1), some (.int y2), none, some (.int 15)]) rfl ?_
      exact j85 _ _ _ _ h
  have j65 : ∀ (y1 : Int32) (y2 : Int32) (y4 : Int32) (σ : HS), f_X12_sign_65 y1 y2 y4 σ = some R → AW ids ad ca Γ 65 [some (.ref (ad 236)), some (.int y1), some (.int y2), none, some (.int y4)] [] σ := by
    intro y1 y2 y4 σ h
    unfold f_X12_sign_65 at h
    refine a_iload_n C dX12_sign_65 (i := 2) rfl rfl ?_
    refine a_bipush C dX12_sign_66 (v := 42) rfl ?_
    refine p_ic_ne C (X := y2.toInt) (Y := 42) rfl (by decide) dX12_sign_68 (tgt := 75) rfl h (fun h => ?_) (fun h => ?_)
    ·
      exact j75 _ _ _ _ h
    ·
      refine a_bipush C dX12_sign_71 (v := 10) rfl ?_
      refine a_istore C dX12_sign_73 (by decide) rfl (vs1 := [some (.ref (ad 236)), some (.int y1), some (.int y2), none, some (.int 10)]) rfl ?_
      exact j75 _ _ _ _ h
  have j55 : ∀ (y1 : Int32) (y2 : Int32) (y4 : Int32) (σ : HS), f_X12_sign_55 y1 y2 y4 σ = some R → AW ids ad ca Γ 55 [some (.ref (ad 236)), some (.int y1), some (.int y2), none, some (.int y4)] [] σ := by
    intro y1 y2 y4 σ h
    unfold f_X12_sign_55 at h
    refine a_iload_n C dX12_sign_55 (i := 2) rfl rfl ?_
    refine a_bipush C dX12_sign_56 (v := 45) rfl ?_
    refine p_ic_ne C (X := y2.toInt) (Y := 45) rfl (by decide) dX12_sign_58 (tgt := 65) rfl h (fun h => ?_) (fun h => ?_)
    ·
      exact j65 _ _ _ _ h
    ·
      refine a_bipush C dX12_sign_61 (v := 9) rfl ?_
      refine a_istore C dX12_sign_63 (by decide) rfl (vs1 := [some (.ref (ad 236)), some (.int y1), some (.int y2), none, some (.int 9)]) rfl ?_
      exact j65 _ _ _ _ h
  have j43 : ∀ (y1 : Int32) (y2 : Int32) (v0 : Int32) (σ : HS), f_X12_sign_43 y1 y2 v0 σ = some R → AW ids ad ca Γ 43 [some (.ref (ad 236)), some (.int y1), some (.int y2), none, none] [.int v0] σ := by
    intro y1 y2 v0 σ h
    unfold f_X12_sign_43 at h
    refine a_istore C dX12_sign_43 (by decide) rfl (vs1 := [some (.ref (ad 236)), some (.int y1), some (.int y2), none, some (.int v0)]) rfl ?_
    refine a_iload_n C dX12_sign_45 (i := 2) rfl rfl ?_
    refine a_bipush C dX12_sign_46 (v := 43) rfl ?_
    refine p_ic_ne C (X := y2.toInt) (Y := 43) rfl (by decide) dX12_sign_48 (tgt := 55) rfl h (fun h => ?_) (fun h => ?_)
    ·
      exact j55 _ _ _ _ h
    ·
      refine a_bipush C dX12_sign_51 (v := 8) rfl ?_
      refine a_istore C dX12_sign_53 (by decide) rfl (vs1 := [some (.ref (ad 236)), some (.int y1), some (.int y2), none, some (.int 8)]) rfl ?_
      exact j55 _ _ _ _ h
  refine a_iload_n C dX12_sign_0 (i := 2) rfl rfl ?_
  refine a_bipush C dX12_sign_1 (v := 59) rfl ?_
  refine p_ic_ne C (X := x2.toInt) (Y := 59) rfl (by decide) dX12_sign_3 (tgt := 10) rfl h (fun h => ?_) (fun h => ?_)
  ·
    refine a_iload_n C dX12_sign_10 (i := 2) rfl rfl ?_
    refine a_bipush C dX12_sign_11 (v := 61) rfl ?_
    refine p_ic_ne C (X := x2.toInt) (Y := 61) rfl (by decide) dX12_sign_13 (tgt := 20) rfl h (fun h => ?_) (fun h => ?_)
    ·
      refine a_iload_n C dX12_sign_20 (i := 2) rfl rfl ?_
      refine a_bipush C dX12_sign_21 (v := 40) rfl ?_
      refine p_ic_ne C (X := x2.toInt) (Y := 40) rfl (by decide) dX12_sign_23 (tgt := 31) rfl h (fun h => ?_) (fun h => ?_)
      ·
        refine a_iload_n C dX12_sign_31 (i := 2) rfl rfl ?_
        refine a_bipush C dX12_sign_32 (v := 41) rfl ?_
        refine p_ic_ne C (X := x2.toInt) (Y := 41) rfl (by decide) dX12_sign_34 (tgt := 42) rfl h (fun h => ?_) (fun h => ?_)
        ·
          refine a_iconst C dX12_sign_42 (v := 3) rfl ?_
          refine AW.sub (vs' := [some (.ref (ad 236)), some (.int x1), some (.int x2), none, none]) (lsub_of (by simp [lsubB])) ?_
          exact j43 _ _ _ _ h
        ·
          refine a_bipush C dX12_sign_37 (v := 7) rfl ?_
          refine a_goto C dX12_sign_39 (tgt := 43) rfl ?_
          refine AW.sub (vs' := [some (.ref (ad 236)), some (.int x1), some (.int x2), none, none]) (lsub_of (by simp [lsubB])) ?_
          exact j43 _ _ _ _ h
      ·
        refine a_bipush C dX12_sign_26 (v := 6) rfl ?_
        refine a_goto C dX12_sign_28 (tgt := 43) rfl ?_
        refine AW.sub (vs' := [some (.ref (ad 236)), some (.int x1), some (.int x2), none, none]) (lsub_of (by simp [lsubB])) ?_
        exact j43 _ _ _ _ h
    ·
      refine a_iconst C dX12_sign_16 (v := 5) rfl ?_
      refine a_goto C dX12_sign_17 (tgt := 43) rfl ?_
      refine AW.sub (vs' := [some (.ref (ad 236)), some (.int x1), some (.int x2), none, none]) (lsub_of (by simp [lsubB])) ?_
      exact j43 _ _ _ _ h
  ·
    refine a_iconst C dX12_sign_6 (v := 4) rfl ?_
    refine a_goto C dX12_sign_7 (tgt := 43) rfl ?_
    refine AW.sub (vs' := [some (.ref (ad 236)), some (.int x1), some (.int x2), none, none]) (lsub_of (by simp [lsubB])) ?_
    exact j43 _ _ _ _ h
set_option maxHeartbeats 4000000 in
set_option maxRecDepth 100000 in
theorem Z_X12_appends {l : Launch} {D : va_G} {ids : List Nat} {ad : Nat → Nat} {ca : Nat → ClassId} {σ : HS} {x1 : Int64} {x2 : Int32} {r0 : Int64} {s0 : HS} (hid : ∀ i, i < 277 → i ∈ ids) (h : f_X12_appends x1 x2 σ = some (r0, s0)) : Kl l D ids ad ca yX12_appends cX12_appends 3 0 0 [.long x1, .int x2] σ (fun r σ1 => r = r0 ∧ σ1 = s0) := by
  obtain ⟨R, hR⟩ : ∃ R, (r0, s0) = R := ⟨_, rfl⟩
  replace h := h.trans (congrArg some hR)
  refine Kl.of (by decide) (Nat.le_of_ble_eq_true rfl) 0 (fun Γ C Rt => ?_)
  show AW ids ad ca Γ 0 [some (.long x1), none, some (.int x2)] [] σ
  unfold f_X12_appends at h
  have j21 : ∀ (v0 : Int64) (σ : HS), f_X12_appends_21 v0 σ = some R → AW ids ad ca Γ 21 [none, none, none] [.long v0] σ := by
    intro v0 σ h
    unfold f_X12_appends_21 at h
    exact a_lret Rt dX12_appends_21 (ret_eq (h.trans (congrArg some hR.symm)))
  refine a_iload_n C dX12_appends_0 (i := 2) rfl rfl ?_
  refine p_if_ne C (X := x2.toInt) rfl dX12_appends_1 (tgt := 8) rfl h (fun h => ?_) (fun h => ?_)
  ·
    refine a_ldc2 C dX12_appends_8 ko_RX12_163 ?_
    refine a_lload_n C dX12_appends_11 (i := 0) rfl rfl ?_
    refine a_lmul C dX12_appends_12 ?_
    refine a_iload_n C dX12_appends_13 (i := 2) rfl rfl ?_
    refine a_bipush C dX12_appends_14 (v := 97) rfl ?_
    refine a_isub C dX12_appends_16 ?_
    refine a_iconst C dX12_appends_17 (v := 1) rfl ?_
    refine a_iadd C dX12_appends_18 ?_
    refine a_i2l C dX12_appends_19 ?_
    refine a_ladd C dX12_appends_20 ?_
    refine AW.sub (vs' := [none, none, none]) (lsub_of (by simp [lsubB])) ?_
    exact j21 _ _ h
  ·
    refine a_lload_n C dX12_appends_4 (i := 0) rfl rfl ?_
    refine a_goto C dX12_appends_5 (tgt := 21) rfl ?_
    refine AW.sub (vs' := [none, none, none]) (lsub_of (by simp [lsubB])) ?_
    exact j21 _ _ h

